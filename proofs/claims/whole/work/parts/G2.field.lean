/-! The parsers: names looked up, fields made -/

/-! content frames: all but where the parsers stand -/
def xP (S t a k : Nat) : Prop := (a = t ∧ k = 3) ∨ t + 2 ≤ a ∨ (S ≤ a ∧ a < S + 615)
def xJ (S t a _k : Nat) : Prop := a = 1316 ∨ t + 2 ≤ a ∨ (S ≤ a ∧ a < S + 615)
def wW (S t a _k : Nat) : Prop := a = S + 615 ∨ a = t + 1
def xM (a k : Nat) : Prop := (a = 1262 ∧ (k = 16 ∨ k = 20 ∨ k = 31 ∨ k = 41 ∨ k = 45 ∨ k = 46)) ∨ (1270 ≤ a ∧ a ≤ 1297)
section Nf
variable {T : Nat → Nat} {n c t S k nd ns fs nt ft nu fu na es et eu lo : Nat} {g h u p : XH}
theorem ST.con (A : ST T n c g h t S k) (F : FRX (xP S t) (xJ S t) (wW S t) g u) (G : FRX xM nJ nW h p) : ST T n c u p t S k := by
  obtain ⟨P, K, kc', a5, a6, m13', m14'⟩ := A
  obtain ⟨L, p1, p2, p3, p4, p5, p6, p7, p8, p9, p10, p11, p12, p13⟩ := P
  have F' := F
  obtain ⟨⟨f1, f2, f3, f4⟩, f5, -⟩ := F'
  have r : ∀ k, hr u t k = hr g t k := fun k => f5 t k (by unfold wW; omega)
  have a8 : hi u 8 = hi g 8 := F.row fun k => by unfold xP; omega
  refine ⟨⟨L.frx F fun b k h1 h2 => by unfold wW; omega, p1, by rw [f1]; exact p2, p3, by rw [f3]; exact p4, by rw [r]; exact p5, by rw [r]; exact p6, by rw [r]; exact p7, by rw [r]; exact p8, by rw [f3]; exact p9, by rw [f4]; exact p10, by rw [f3]; exact p11, by rw [F.at (by unfold xP; omega)]; exact p12, by rw [F.at (by unfold xP; omega)]; exact p13⟩, K.cg (F.at (by unfold xP; omega)) a8 (F.row fun k => by unfold xP; omega) (funext fun k => F.lg (by unfold xJ; omega)) (funext fun k => F.lg (by unfold xJ; omega)) (G.at (by simp [xM])) (G.row fun k => by simp [xM]) (G.row fun k => by simp [xM]) (G.row fun k => by simp [xM]) (G.row fun k => by simp [xM]), kc', ?_, ?_, ?_, ?_⟩
  · rw [F.at (by unfold xP; omega)]; exact a5
  · rw [F.at (by unfold xP; omega), a8]; exact a6
  · rw [G.at (by simp [xM])]; exact m13'
  · rw [G.at (by simp [xM])]; exact m14'
/-! a model that found a fault goes on without a change -/
theorem nf_sign {x : Int32} (m : ¬ hi h 1262 14 = 0) : f_m_sign x h = some ((), h) := by
  unfold f_m_sign b_m_sign_19
  exact o_pos m (o_bind (e_m_takeF m) rfl)
theorem nf_name (m : ¬ hi h 1262 14 = 0) : f_m_name h = some ((), h) := by
  unfold f_m_name b_m_name_18
  exact o_pos m (o_bind (e_m_takeF m) rfl)
theorem nf_isSign {x : Int32} (m : ¬ hi h 1262 14 = 0) : f_m_isSign x h = some (0, h) := by
  unfold f_m_isSign
  exact o_pos m rfl
theorem nf_isWord {x : Int32} (m : ¬ hi h 1262 14 = 0) : f_m_isWord x h = some (0, h) := by
  unfold f_m_isWord
  exact o_pos m rfl
theorem nf_ask {x y z : Int32} (m : ¬ hi h 1262 14 = 0) : f_m_ask x y z h = some ((), h) := by
  unfold f_m_ask
  exact o_pos m rfl
theorem nf_structType {x y : Int32} (m : ¬ hi h 1262 14 = 0) : f_m_structType x y h = some ((), h) := by
  unfold f_m_structType
  exact o_neg m rfl
theorem nf_fresh62 {x y : Int32} (m : ¬ hi h 1262 14 = 0) : b_m_fresh_62 x y h = some ((), h) := by
  unfold b_m_fresh_62
  exact o_pos m rfl
theorem nf_fresh21 {R f : Nat} {b x3 x4 x5 : Int32} (m : ¬ hi h 1262 14 = 0) : b_m_fresh_21 (f + 1) R b x3 x4 x5 h = some ((), h) := by
  show s_m_fresh_21 (b_m_fresh_21 f) _ _ _ _ _ _ = _
  unfold s_m_fresh_21
  by_cases q : x3 ≤ x5
  · exact o_pos q (nf_fresh62 m)
  · exact o_neg q (o_pos m (nf_fresh62 m))
theorem nf_fresh {R : Nat} {b x3 x4 : Int32} (m : ¬ hi h 1262 14 = 0) : f_m_fresh R b x3 x4 h = some ((), h) := by
  unfold f_m_fresh b_m_fresh_18
  exact o_pos m (nf_fresh21 m)
theorem e_m_isName (A : ST T n c g h t S k) : (hi g 8 k = 2 ∧ f_m_isName h = some (1, h)) ∨ (¬ hi g 8 k = 2 ∧ f_m_isName h = some (0, h)) := by
  obtain ⟨P, K, kc', a5, a6, m13', m14'⟩ := A
  have c4 := K.2.2.2.1
  have i := (K.2.2.2.2.1 k kc').name
  unfold f_m_isName
  rw [m13', nI_clamp (show k < 2 ^ 31 by omega)]
  by_cases q : hi g 8 k = 2
  · obtain ⟨i1, i2⟩ := i.mp q
    exact Or.inl ⟨q, o_neg (not_not_intro m14') (o_pos (by (first | (simp (maxSteps := 4000000) (disch := omega) only [n_0, n_1, n_2, n_3, n_4, n_5, n_6, n_7, n_8, n_9, n_10, n_11, n_12, n_13, n_14, n_15, n_16, n_18, n_20, n_24, n_31, n_32, n_34, n_40, n_41, n_44, n_45, n_47, n_48, n_57, n_58, n_59, n_61, n_63, n_64, n_65, n_68, n_90, n_91, n_93, n_95, n_97, n_100, n_122, n_123, n_125, n_128, n_144, n_200, n_255, n_256, n_300, n_400, n_600, n_1536, n_3980, n_4000, n_4001, n_4300, n_65536, l_0, l_1, l_2, l_3, l_4, l_10, l_48, l_63, l_255, l_300, nI_ltI, nI_leI, nI_eq, nI_clamp, nI_add, pk_sub, pk_mul, nI_ne1, ne1_nI, nI_pge, nI_nlt0, nI_l, lN_i, lN_add, lN_mul, lN_sub, pk_lLT, pk_lLE, pk_lEQ, lg_lt, lg_ge, lg_eq0, lg_le, lg_gt, lg_ltn, lg_gen, lg_eq0n, lg_len, lg_gtn, Nat.zero_le, Nat.not_lt_zero, not_false_eq_true, not_true_eq_false, true_and, and_true]; done) | (simp (maxSteps := 4000000) (disch := omega) only [n_0, n_1, n_2, n_3, n_4, n_5, n_6, n_7, n_8, n_9, n_10, n_11, n_12, n_13, n_14, n_15, n_16, n_18, n_20, n_24, n_31, n_32, n_34, n_40, n_41, n_44, n_45, n_47, n_48, n_57, n_58, n_59, n_61, n_63, n_64, n_65, n_68, n_90, n_91, n_93, n_95, n_97, n_100, n_122, n_123, n_125, n_128, n_144, n_200, n_255, n_256, n_300, n_400, n_600, n_1536, n_3980, n_4000, n_4001, n_4300, n_65536, l_0, l_1, l_2, l_3, l_4, l_10, l_48, l_63, l_255, l_300, nI_ltI, nI_leI, nI_eq, nI_clamp, nI_add, pk_sub, pk_mul, nI_ne1, ne1_nI, nI_pge, nI_nlt0, nI_l, lN_i, lN_add, lN_mul, lN_sub, pk_lLT, pk_lLE, pk_lEQ, lg_lt, lg_ge, lg_eq0, lg_le, lg_gt, lg_ltn, lg_gen, lg_eq0n, lg_len, lg_gtn, Nat.zero_le, Nat.not_lt_zero, not_false_eq_true, not_true_eq_false, true_and, and_true]; omega) | omega)) (o_neg (not_not_intro i1) (o_neg (not_not_intro i2) rfl)))⟩
  · refine Or.inr ⟨q, o_neg (not_not_intro m14') (o_pos (by (first | (simp (maxSteps := 4000000) (disch := omega) only [n_0, n_1, n_2, n_3, n_4, n_5, n_6, n_7, n_8, n_9, n_10, n_11, n_12, n_13, n_14, n_15, n_16, n_18, n_20, n_24, n_31, n_32, n_34, n_40, n_41, n_44, n_45, n_47, n_48, n_57, n_58, n_59, n_61, n_63, n_64, n_65, n_68, n_90, n_91, n_93, n_95, n_97, n_100, n_122, n_123, n_125, n_128, n_144, n_200, n_255, n_256, n_300, n_400, n_600, n_1536, n_3980, n_4000, n_4001, n_4300, n_65536, l_0, l_1, l_2, l_3, l_4, l_10, l_48, l_63, l_255, l_300, nI_ltI, nI_leI, nI_eq, nI_clamp, nI_add, pk_sub, pk_mul, nI_ne1, ne1_nI, nI_pge, nI_nlt0, nI_l, lN_i, lN_add, lN_mul, lN_sub, pk_lLT, pk_lLE, pk_lEQ, lg_lt, lg_ge, lg_eq0, lg_le, lg_gt, lg_ltn, lg_gen, lg_eq0n, lg_len, lg_gtn, Nat.zero_le, Nat.not_lt_zero, not_false_eq_true, not_true_eq_false, true_and, and_true]; done) | (simp (maxSteps := 4000000) (disch := omega) only [n_0, n_1, n_2, n_3, n_4, n_5, n_6, n_7, n_8, n_9, n_10, n_11, n_12, n_13, n_14, n_15, n_16, n_18, n_20, n_24, n_31, n_32, n_34, n_40, n_41, n_44, n_45, n_47, n_48, n_57, n_58, n_59, n_61, n_63, n_64, n_65, n_68, n_90, n_91, n_93, n_95, n_97, n_100, n_122, n_123, n_125, n_128, n_144, n_200, n_255, n_256, n_300, n_400, n_600, n_1536, n_3980, n_4000, n_4001, n_4300, n_65536, l_0, l_1, l_2, l_3, l_4, l_10, l_48, l_63, l_255, l_300, nI_ltI, nI_leI, nI_eq, nI_clamp, nI_add, pk_sub, pk_mul, nI_ne1, ne1_nI, nI_pge, nI_nlt0, nI_l, lN_i, lN_add, lN_mul, lN_sub, pk_lLT, pk_lLE, pk_lEQ, lg_lt, lg_ge, lg_eq0, lg_le, lg_gt, lg_ltn, lg_gen, lg_eq0n, lg_len, lg_gtn, Nat.zero_le, Nat.not_lt_zero, not_false_eq_true, not_true_eq_false, true_and, and_true]; omega) | omega)) ?_)⟩
    by_cases s1 : hi h 1266 k = 2
    · exact o_neg (not_not_intro s1) (o_pos (fun z => q (i.mpr ⟨s1, z⟩)) rfl)
    · exact o_pos s1 rfl
/-- both fail with 1 or 2 -/
theorem ST.mis (A : ST T n c g h t S k) : ∃ u p, f_p_fail t 2 g = some (0, u) ∧ f_m_misfit h = some ((), p) ∧ FLT u p t ∧ FRM (tF t) g u ∧ FRM m14 h p ∧ ¬ hi p 1262 14 = 0 := by
  have A' := A
  obtain ⟨P, K, kc', a5, a6, m13', m14'⟩ := A'
  have tk := K.2.2.2.2.1 k kc'
  have c4 := K.2.2.2.1
  have e : (if hi g 8 k = 1 then (1 : Int32) else 2) = (if hi h 1266 k = 1 then 1 else 2) := by
    by_cases b : hi g 8 k = 1
    · rw [if_pos b, if_pos (tk.bad.mp b)]
    · rw [if_neg b, if_neg (fun z => b (tk.bad.mpr z))]
  have ny : ¬ (if hi h 1266 k = 1 then (1 : Int32) else 2) = 0 := by
    by_cases b : hi h 1266 k = 1
    · rw [if_pos b]; decide
    · rw [if_neg b]; decide
  have ft := A.ft e ny
  exact ⟨_, _, e_p_fail A, e_m_misfit m14' m13' (by omega), ft, (FRM.refl.si (by simp [tF])).si (by simp [tF]), (FRM.refl.si (by simp [m14])).si (by simp [m14]), ft.2.2⟩
/-- both fail with x at a lexeme that is one -/
theorem ST.fl {x : Int32} (A : ST T n c g h t S k) (q : ¬ hi g 8 k = 1) (hx : ¬ x = 0) : ∃ u p, f_p_fail t x g = some (0, u) ∧ f_m_flaw x h = some ((), p) ∧ FLT u p t ∧ FRM (tF t) g u ∧ FRM m14 h p ∧ ¬ hi p 1262 14 = 0 := by
  have A' := A
  obtain ⟨P, K, kc', a5, a6, m13', m14'⟩ := A'
  have c4 := K.2.2.2.1
  have ft := A.ft (x := x) (if_neg q) hx
  exact ⟨_, _, e_p_fail A, e_m_flaw m14' m13' (by omega), ft, (FRM.refl.si (by simp [tF])).si (by simp [tF]), (FRM.refl.si (by simp [m14])).si (by simp [m14]), ft.2.2⟩
/-! definitions looked up -/
theorem DA.at {ad so no : Nat} (L : SC g S) (D : DA S es et eu ad so no) (l1 : es ≤ 12) (l2 : et ≤ 16) (l3 : eu ≤ 8) : ad < hz g ∧ hk g ad = 2 := by
  rcases D with ⟨q1, q2, q3⟩ | ⟨q1, q2, q3⟩ | ⟨q1, q2, q3⟩ <;> subst q3
  · have := L.ddS (s := no) (by omega)
    exact ⟨by have := this.1; omega, this.2.2.2.2.1⟩
  · have := L.ddT (s := no) (by omega)
    exact ⟨by have := this.1; omega, this.2.2.2.2.1⟩
  · have := L.ddU (s := no) (by omega)
    exact ⟨by have := this.1; omega, this.2.2.2.2.1⟩
theorem named2 (M : MTx h T n) (K : TOKS T n g h c) (L : SC g S) (l1 : es ≤ 12) (l2 : et ≤ 16) (l3 : eu ≤ 8) (hd : nd = es + et + eu) (D : ∀ d, d < nd → DE c S es et eu g h d) (e4 : hi g S 4 = nI nd) (e16 : hi h 1262 16 = nI nd) (hk' : k < c) (q : hi g 8 k = 2) : (f_s_named S (hj g 10 k) (hj g 11 k) g = some (none, g) ∧ f_m_definition (nI k) h = some (-1, h)) ∨ ∃ d ad so no, d < nd ∧ DA S es et eu ad so no ∧ f_s_named S (hj g 10 k) (hj g 11 k) g = some (some ad, g) ∧ f_m_definition (nI k) h = some (nI d, h) ∧ hi h 1271 d = nI so ∧ hi h 1272 d = nI no := by
  have c4 := K.2.2.2.1
  have s9 : S < hz g ∧ hk g S = 9 := ⟨by have := L.1; omega, L.2.2.1⟩
  have lp : ∀ m j fu fv, j + m = nd → m < fu → m < fv → (b_s_named_3 fu S (hj g 10 k) (hj g 11 k) (nI j) g = some (none, g) ∧ b_m_definition_2 fv (nI k) (nI j) h = some (-1, h)) ∨ ∃ d ad so no, d < nd ∧ DA S es et eu ad so no ∧ b_s_named_3 fu S (hj g 10 k) (hj g 11 k) (nI j) g = some (some ad, g) ∧ b_m_definition_2 fv (nI k) (nI j) h = some (nI d, h) ∧ hi h 1271 d = nI so ∧ hi h 1272 d = nI no := by
    intro m
    induction m with
    | zero =>
      intro j fu fv e h1 h2
      obtain ⟨fu', rfl, -⟩ := fuel_pos h1
      obtain ⟨fv', rfl, -⟩ := fuel_pos h2
      refine Or.inl ⟨?_, ?_⟩
      · show s_s_named_3 (b_s_named_3 fu') _ _ _ _ _ = _
        unfold s_s_named_3
        rw [e4]
        exact o_pos s9 (o_pos (by (first | (simp (maxSteps := 4000000) (disch := omega) only [n_0, n_1, n_2, n_3, n_4, n_5, n_6, n_7, n_8, n_9, n_10, n_11, n_12, n_13, n_14, n_15, n_16, n_18, n_20, n_24, n_31, n_32, n_34, n_40, n_41, n_44, n_45, n_47, n_48, n_57, n_58, n_59, n_61, n_63, n_64, n_65, n_68, n_90, n_91, n_93, n_95, n_97, n_100, n_122, n_123, n_125, n_128, n_144, n_200, n_255, n_256, n_300, n_400, n_600, n_1536, n_3980, n_4000, n_4001, n_4300, n_65536, l_0, l_1, l_2, l_3, l_4, l_10, l_48, l_63, l_255, l_300, nI_ltI, nI_leI, nI_eq, nI_clamp, nI_add, pk_sub, pk_mul, nI_ne1, ne1_nI, nI_pge, nI_nlt0, nI_l, lN_i, lN_add, lN_mul, lN_sub, pk_lLT, pk_lLE, pk_lEQ, lg_lt, lg_ge, lg_eq0, lg_le, lg_gt, lg_ltn, lg_gen, lg_eq0n, lg_len, lg_gtn, Nat.zero_le, Nat.not_lt_zero, not_false_eq_true, not_true_eq_false, true_and, and_true]; done) | (simp (maxSteps := 4000000) (disch := omega) only [n_0, n_1, n_2, n_3, n_4, n_5, n_6, n_7, n_8, n_9, n_10, n_11, n_12, n_13, n_14, n_15, n_16, n_18, n_20, n_24, n_31, n_32, n_34, n_40, n_41, n_44, n_45, n_47, n_48, n_57, n_58, n_59, n_61, n_63, n_64, n_65, n_68, n_90, n_91, n_93, n_95, n_97, n_100, n_122, n_123, n_125, n_128, n_144, n_200, n_255, n_256, n_300, n_400, n_600, n_1536, n_3980, n_4000, n_4001, n_4300, n_65536, l_0, l_1, l_2, l_3, l_4, l_10, l_48, l_63, l_255, l_300, nI_ltI, nI_leI, nI_eq, nI_clamp, nI_add, pk_sub, pk_mul, nI_ne1, ne1_nI, nI_pge, nI_nlt0, nI_l, lN_i, lN_add, lN_mul, lN_sub, pk_lLT, pk_lLE, pk_lEQ, lg_lt, lg_ge, lg_eq0, lg_le, lg_gt, lg_ltn, lg_gen, lg_eq0n, lg_len, lg_gtn, Nat.zero_le, Nat.not_lt_zero, not_false_eq_true, not_true_eq_false, true_and, and_true]; omega) | omega)) rfl)
      · show s_m_definition_2 (b_m_definition_2 fv') _ _ _ = _
        unfold s_m_definition_2
        rw [e16]
        exact o_pos (by (first | (simp (maxSteps := 4000000) (disch := omega) only [n_0, n_1, n_2, n_3, n_4, n_5, n_6, n_7, n_8, n_9, n_10, n_11, n_12, n_13, n_14, n_15, n_16, n_18, n_20, n_24, n_31, n_32, n_34, n_40, n_41, n_44, n_45, n_47, n_48, n_57, n_58, n_59, n_61, n_63, n_64, n_65, n_68, n_90, n_91, n_93, n_95, n_97, n_100, n_122, n_123, n_125, n_128, n_144, n_200, n_255, n_256, n_300, n_400, n_600, n_1536, n_3980, n_4000, n_4001, n_4300, n_65536, l_0, l_1, l_2, l_3, l_4, l_10, l_48, l_63, l_255, l_300, nI_ltI, nI_leI, nI_eq, nI_clamp, nI_add, pk_sub, pk_mul, nI_ne1, ne1_nI, nI_pge, nI_nlt0, nI_l, lN_i, lN_add, lN_mul, lN_sub, pk_lLT, pk_lLE, pk_lEQ, lg_lt, lg_ge, lg_eq0, lg_le, lg_gt, lg_ltn, lg_gen, lg_eq0n, lg_len, lg_gtn, Nat.zero_le, Nat.not_lt_zero, not_false_eq_true, not_true_eq_false, true_and, and_true]; done) | (simp (maxSteps := 4000000) (disch := omega) only [n_0, n_1, n_2, n_3, n_4, n_5, n_6, n_7, n_8, n_9, n_10, n_11, n_12, n_13, n_14, n_15, n_16, n_18, n_20, n_24, n_31, n_32, n_34, n_40, n_41, n_44, n_45, n_47, n_48, n_57, n_58, n_59, n_61, n_63, n_64, n_65, n_68, n_90, n_91, n_93, n_95, n_97, n_100, n_122, n_123, n_125, n_128, n_144, n_200, n_255, n_256, n_300, n_400, n_600, n_1536, n_3980, n_4000, n_4001, n_4300, n_65536, l_0, l_1, l_2, l_3, l_4, l_10, l_48, l_63, l_255, l_300, nI_ltI, nI_leI, nI_eq, nI_clamp, nI_add, pk_sub, pk_mul, nI_ne1, ne1_nI, nI_pge, nI_nlt0, nI_l, lN_i, lN_add, lN_mul, lN_sub, pk_lLT, pk_lLE, pk_lEQ, lg_lt, lg_ge, lg_eq0, lg_le, lg_gt, lg_ltn, lg_gen, lg_eq0n, lg_len, lg_gtn, Nat.zero_le, Nat.not_lt_zero, not_false_eq_true, not_true_eq_false, true_and, and_true]; omega) | omega)) rfl
    | succ m ih =>
      intro j fu fv e h1 h2
      obtain ⟨fu', rfl, -⟩ := fuel_pos h1
      obtain ⟨fv', rfl, -⟩ := fuel_pos h2
      obtain ⟨ad, so, no, d1, d2, d3, d4, i, i1, i2, i3, i4, i5⟩ := D j (by omega)
      have da := d2.at L l1 l2 l3
      have sc : ∀ X : Option (Option Nat × XH), (if ¬ (lg_cmp (hj g ad 4) (hj g 10 k)) = 0 then (b_s_named_59 (b_s_named_3 fu') S (hj g 10 k) (hj g 11 k) (nI j) g) else (if ¬ (lg_cmp (hj g ad 5) (hj g 11 k)) = 0 then (b_s_named_59 (b_s_named_3 fu') S (hj g 10 k) (hj g 11 k) (nI j) g) else (some (some ad, g)))) = X → b_s_named_3 (fu' + 1) S (hj g 10 k) (hj g 11 k) (nI j) g = X := by
        intro X qx
        show s_s_named_3 (b_s_named_3 fu') _ _ _ _ _ = _
        unfold s_s_named_3
        rw [e4, nI_clamp (show j < 2 ^ 31 by omega)]
        refine o_pos s9 (o_neg (by (first | (simp (maxSteps := 4000000) (disch := omega) only [n_0, n_1, n_2, n_3, n_4, n_5, n_6, n_7, n_8, n_9, n_10, n_11, n_12, n_13, n_14, n_15, n_16, n_18, n_20, n_24, n_31, n_32, n_34, n_40, n_41, n_44, n_45, n_47, n_48, n_57, n_58, n_59, n_61, n_63, n_64, n_65, n_68, n_90, n_91, n_93, n_95, n_97, n_100, n_122, n_123, n_125, n_128, n_144, n_200, n_255, n_256, n_300, n_400, n_600, n_1536, n_3980, n_4000, n_4001, n_4300, n_65536, l_0, l_1, l_2, l_3, l_4, l_10, l_48, l_63, l_255, l_300, nI_ltI, nI_leI, nI_eq, nI_clamp, nI_add, pk_sub, pk_mul, nI_ne1, ne1_nI, nI_pge, nI_nlt0, nI_l, lN_i, lN_add, lN_mul, lN_sub, pk_lLT, pk_lLE, pk_lEQ, lg_lt, lg_ge, lg_eq0, lg_le, lg_gt, lg_ltn, lg_gen, lg_eq0n, lg_len, lg_gtn, Nat.zero_le, Nat.not_lt_zero, not_false_eq_true, not_true_eq_false, true_and, and_true]; done) | (simp (maxSteps := 4000000) (disch := omega) only [n_0, n_1, n_2, n_3, n_4, n_5, n_6, n_7, n_8, n_9, n_10, n_11, n_12, n_13, n_14, n_15, n_16, n_18, n_20, n_24, n_31, n_32, n_34, n_40, n_41, n_44, n_45, n_47, n_48, n_57, n_58, n_59, n_61, n_63, n_64, n_65, n_68, n_90, n_91, n_93, n_95, n_97, n_100, n_122, n_123, n_125, n_128, n_144, n_200, n_255, n_256, n_300, n_400, n_600, n_1536, n_3980, n_4000, n_4001, n_4300, n_65536, l_0, l_1, l_2, l_3, l_4, l_10, l_48, l_63, l_255, l_300, nI_ltI, nI_leI, nI_eq, nI_clamp, nI_add, pk_sub, pk_mul, nI_ne1, ne1_nI, nI_pge, nI_nlt0, nI_l, lN_i, lN_add, lN_mul, lN_sub, pk_lLT, pk_lLE, pk_lEQ, lg_lt, lg_ge, lg_eq0, lg_le, lg_gt, lg_ltn, lg_gen, lg_eq0n, lg_len, lg_gtn, Nat.zero_le, Nat.not_lt_zero, not_false_eq_true, not_true_eq_false, true_and, and_true]; omega) | omega)) (o_bind L.2.2.2.2.2.2.1 (o_pos ⟨by have := L.1; omega, L.2.2.2.2.2.2.2.1⟩ ?_)))
        rw [L.2.2.2.2.2.2.2.2.1]
        exact o_neg (by (first | (simp (maxSteps := 4000000) (disch := omega) only [n_0, n_1, n_2, n_3, n_4, n_5, n_6, n_7, n_8, n_9, n_10, n_11, n_12, n_13, n_14, n_15, n_16, n_18, n_20, n_24, n_31, n_32, n_34, n_40, n_41, n_44, n_45, n_47, n_48, n_57, n_58, n_59, n_61, n_63, n_64, n_65, n_68, n_90, n_91, n_93, n_95, n_97, n_100, n_122, n_123, n_125, n_128, n_144, n_200, n_255, n_256, n_300, n_400, n_600, n_1536, n_3980, n_4000, n_4001, n_4300, n_65536, l_0, l_1, l_2, l_3, l_4, l_10, l_48, l_63, l_255, l_300, nI_ltI, nI_leI, nI_eq, nI_clamp, nI_add, pk_sub, pk_mul, nI_ne1, ne1_nI, nI_pge, nI_nlt0, nI_l, lN_i, lN_add, lN_mul, lN_sub, pk_lLT, pk_lLE, pk_lEQ, lg_lt, lg_ge, lg_eq0, lg_le, lg_gt, lg_ltn, lg_gen, lg_eq0n, lg_len, lg_gtn, Nat.zero_le, Nat.not_lt_zero, not_false_eq_true, not_true_eq_false, true_and, and_true]; done) | (simp (maxSteps := 4000000) (disch := omega) only [n_0, n_1, n_2, n_3, n_4, n_5, n_6, n_7, n_8, n_9, n_10, n_11, n_12, n_13, n_14, n_15, n_16, n_18, n_20, n_24, n_31, n_32, n_34, n_40, n_41, n_44, n_45, n_47, n_48, n_57, n_58, n_59, n_61, n_63, n_64, n_65, n_68, n_90, n_91, n_93, n_95, n_97, n_100, n_122, n_123, n_125, n_128, n_144, n_200, n_255, n_256, n_300, n_400, n_600, n_1536, n_3980, n_4000, n_4001, n_4300, n_65536, l_0, l_1, l_2, l_3, l_4, l_10, l_48, l_63, l_255, l_300, nI_ltI, nI_leI, nI_eq, nI_clamp, nI_add, pk_sub, pk_mul, nI_ne1, ne1_nI, nI_pge, nI_nlt0, nI_l, lN_i, lN_add, lN_mul, lN_sub, pk_lLT, pk_lLE, pk_lEQ, lg_lt, lg_ge, lg_eq0, lg_le, lg_gt, lg_ltn, lg_gen, lg_eq0n, lg_len, lg_gtn, Nat.zero_le, Nat.not_lt_zero, not_false_eq_true, not_true_eq_false, true_and, and_true]; omega) | omega)) (o_pos ⟨nI_pos' (by omega), by (first | (simp (maxSteps := 4000000) (disch := omega) only [n_0, n_1, n_2, n_3, n_4, n_5, n_6, n_7, n_8, n_9, n_10, n_11, n_12, n_13, n_14, n_15, n_16, n_18, n_20, n_24, n_31, n_32, n_34, n_40, n_41, n_44, n_45, n_47, n_48, n_57, n_58, n_59, n_61, n_63, n_64, n_65, n_68, n_90, n_91, n_93, n_95, n_97, n_100, n_122, n_123, n_125, n_128, n_144, n_200, n_255, n_256, n_300, n_400, n_600, n_1536, n_3980, n_4000, n_4001, n_4300, n_65536, l_0, l_1, l_2, l_3, l_4, l_10, l_48, l_63, l_255, l_300, nI_ltI, nI_leI, nI_eq, nI_clamp, nI_add, pk_sub, pk_mul, nI_ne1, ne1_nI, nI_pge, nI_nlt0, nI_l, lN_i, lN_add, lN_mul, lN_sub, pk_lLT, pk_lLE, pk_lEQ, lg_lt, lg_ge, lg_eq0, lg_le, lg_gt, lg_ltn, lg_gen, lg_eq0n, lg_len, lg_gtn, Nat.zero_le, Nat.not_lt_zero, not_false_eq_true, not_true_eq_false, true_and, and_true]; done) | (simp (maxSteps := 4000000) (disch := omega) only [n_0, n_1, n_2, n_3, n_4, n_5, n_6, n_7, n_8, n_9, n_10, n_11, n_12, n_13, n_14, n_15, n_16, n_18, n_20, n_24, n_31, n_32, n_34, n_40, n_41, n_44, n_45, n_47, n_48, n_57, n_58, n_59, n_61, n_63, n_64, n_65, n_68, n_90, n_91, n_93, n_95, n_97, n_100, n_122, n_123, n_125, n_128, n_144, n_200, n_255, n_256, n_300, n_400, n_600, n_1536, n_3980, n_4000, n_4001, n_4300, n_65536, l_0, l_1, l_2, l_3, l_4, l_10, l_48, l_63, l_255, l_300, nI_ltI, nI_leI, nI_eq, nI_clamp, nI_add, pk_sub, pk_mul, nI_ne1, ne1_nI, nI_pge, nI_nlt0, nI_l, lN_i, lN_add, lN_mul, lN_sub, pk_lLT, pk_lLE, pk_lEQ, lg_lt, lg_ge, lg_eq0, lg_le, lg_gt, lg_ltn, lg_gen, lg_eq0n, lg_len, lg_gtn, Nat.zero_le, Nat.not_lt_zero, not_false_eq_true, not_true_eq_false, true_and, and_true]; omega) | omega), by decide⟩ (o_bind d1 (o_pos da qx)))
      obtain ⟨r, r1, r2⟩ := e_m_sameName M K i1 hk' i3 q
      have sm : ∀ X : Option (Int32 × XH), (if r = 0 then b_m_definition_2 fv' (nI k) (nI j + 1) h else some (nI j, h)) = X → b_m_definition_2 (fv' + 1) (nI k) (nI j) h = X := by
        intro X qx
        show s_m_definition_2 (b_m_definition_2 fv') _ _ _ = _
        unfold s_m_definition_2
        rw [e16, nI_clamp (show j < 2 ^ 31 by omega), i2]
        exact o_neg (by (first | (simp (maxSteps := 4000000) (disch := omega) only [n_0, n_1, n_2, n_3, n_4, n_5, n_6, n_7, n_8, n_9, n_10, n_11, n_12, n_13, n_14, n_15, n_16, n_18, n_20, n_24, n_31, n_32, n_34, n_40, n_41, n_44, n_45, n_47, n_48, n_57, n_58, n_59, n_61, n_63, n_64, n_65, n_68, n_90, n_91, n_93, n_95, n_97, n_100, n_122, n_123, n_125, n_128, n_144, n_200, n_255, n_256, n_300, n_400, n_600, n_1536, n_3980, n_4000, n_4001, n_4300, n_65536, l_0, l_1, l_2, l_3, l_4, l_10, l_48, l_63, l_255, l_300, nI_ltI, nI_leI, nI_eq, nI_clamp, nI_add, pk_sub, pk_mul, nI_ne1, ne1_nI, nI_pge, nI_nlt0, nI_l, lN_i, lN_add, lN_mul, lN_sub, pk_lLT, pk_lLE, pk_lEQ, lg_lt, lg_ge, lg_eq0, lg_le, lg_gt, lg_ltn, lg_gen, lg_eq0n, lg_len, lg_gtn, Nat.zero_le, Nat.not_lt_zero, not_false_eq_true, not_true_eq_false, true_and, and_true]; done) | (simp (maxSteps := 4000000) (disch := omega) only [n_0, n_1, n_2, n_3, n_4, n_5, n_6, n_7, n_8, n_9, n_10, n_11, n_12, n_13, n_14, n_15, n_16, n_18, n_20, n_24, n_31, n_32, n_34, n_40, n_41, n_44, n_45, n_47, n_48, n_57, n_58, n_59, n_61, n_63, n_64, n_65, n_68, n_90, n_91, n_93, n_95, n_97, n_100, n_122, n_123, n_125, n_128, n_144, n_200, n_255, n_256, n_300, n_400, n_600, n_1536, n_3980, n_4000, n_4001, n_4300, n_65536, l_0, l_1, l_2, l_3, l_4, l_10, l_48, l_63, l_255, l_300, nI_ltI, nI_leI, nI_eq, nI_clamp, nI_add, pk_sub, pk_mul, nI_ne1, ne1_nI, nI_pge, nI_nlt0, nI_l, lN_i, lN_add, lN_mul, lN_sub, pk_lLT, pk_lLE, pk_lEQ, lg_lt, lg_ge, lg_eq0, lg_le, lg_gt, lg_ltn, lg_gen, lg_eq0n, lg_len, lg_gtn, Nat.zero_le, Nat.not_lt_zero, not_false_eq_true, not_true_eq_false, true_and, and_true]; omega) | omega)) (o_pos ⟨nI_pos' (by omega), by (first | (simp (maxSteps := 4000000) (disch := omega) only [n_0, n_1, n_2, n_3, n_4, n_5, n_6, n_7, n_8, n_9, n_10, n_11, n_12, n_13, n_14, n_15, n_16, n_18, n_20, n_24, n_31, n_32, n_34, n_40, n_41, n_44, n_45, n_47, n_48, n_57, n_58, n_59, n_61, n_63, n_64, n_65, n_68, n_90, n_91, n_93, n_95, n_97, n_100, n_122, n_123, n_125, n_128, n_144, n_200, n_255, n_256, n_300, n_400, n_600, n_1536, n_3980, n_4000, n_4001, n_4300, n_65536, l_0, l_1, l_2, l_3, l_4, l_10, l_48, l_63, l_255, l_300, nI_ltI, nI_leI, nI_eq, nI_clamp, nI_add, pk_sub, pk_mul, nI_ne1, ne1_nI, nI_pge, nI_nlt0, nI_l, lN_i, lN_add, lN_mul, lN_sub, pk_lLT, pk_lLE, pk_lEQ, lg_lt, lg_ge, lg_eq0, lg_le, lg_gt, lg_ltn, lg_gen, lg_eq0n, lg_len, lg_gtn, Nat.zero_le, Nat.not_lt_zero, not_false_eq_true, not_true_eq_false, true_and, and_true]; done) | (simp (maxSteps := 4000000) (disch := omega) only [n_0, n_1, n_2, n_3, n_4, n_5, n_6, n_7, n_8, n_9, n_10, n_11, n_12, n_13, n_14, n_15, n_16, n_18, n_20, n_24, n_31, n_32, n_34, n_40, n_41, n_44, n_45, n_47, n_48, n_57, n_58, n_59, n_61, n_63, n_64, n_65, n_68, n_90, n_91, n_93, n_95, n_97, n_100, n_122, n_123, n_125, n_128, n_144, n_200, n_255, n_256, n_300, n_400, n_600, n_1536, n_3980, n_4000, n_4001, n_4300, n_65536, l_0, l_1, l_2, l_3, l_4, l_10, l_48, l_63, l_255, l_300, nI_ltI, nI_leI, nI_eq, nI_clamp, nI_add, pk_sub, pk_mul, nI_ne1, ne1_nI, nI_pge, nI_nlt0, nI_l, lN_i, lN_add, lN_mul, lN_sub, pk_lLT, pk_lLE, pk_lEQ, lg_lt, lg_ge, lg_eq0, lg_le, lg_gt, lg_ltn, lg_gen, lg_eq0n, lg_len, lg_gtn, Nat.zero_le, Nat.not_lt_zero, not_false_eq_true, not_true_eq_false, true_and, and_true]; omega) | omega)⟩ (o_bind r1 qx))
      rw [← i4, ← i5] at r2
      rcases r2 with ⟨r3, r4, r5⟩ | ⟨r3, r4⟩
      · refine Or.inr ⟨j, ad, so, no, by omega, d2, sc _ (o_neg (by rw [lg_eq0]; exact not_not_intro r4) (o_neg (by rw [lg_eq0]; exact not_not_intro r5) rfl)), sm _ (o_neg (by rw [r3]; exact one0) rfl), d3, d4⟩
      · have s1 : b_s_named_3 (fu' + 1) S (hj g 10 k) (hj g 11 k) (nI j) g = b_s_named_3 fu' S (hj g 10 k) (hj g 11 k) (nI (j + 1)) g := by
          refine sc _ ?_
          have nx : b_s_named_59 (b_s_named_3 fu') S (hj g 10 k) (hj g 11 k) (nI j) g = b_s_named_3 fu' S (hj g 10 k) (hj g 11 k) (nI (j + 1)) g := by unfold b_s_named_59; rw [n_1, nI_add]
          by_cases c1 : hj g ad 4 = hj g 10 k
          · exact o_neg (by rw [lg_eq0]; exact not_not_intro c1) (o_pos (by rw [lg_eq0]; exact fun z => r4 ⟨c1, z⟩) nx)
          · exact o_pos (by rw [lg_eq0]; exact c1) nx
        have s2 : b_m_definition_2 (fv' + 1) (nI k) (nI j) h = b_m_definition_2 fv' (nI k) (nI (j + 1)) h := sm _ (o_pos r3 (by rw [n_1, nI_add]))
        rw [s1, s2]
        exact ih (j + 1) fu' fv' (by omega) (by omega) (by omega)
  exact lp nd 0 100000 100000 (by omega) (by omega) (by omega)
/-! a field's name looked up, a field made -/
theorem fresh2 {a F LN f R b : Nat} (M : MTx h T n) (K : TOKS T n g h c) (D : DF g a F LN) (e3 : hi g a 3 = nI f) (hf : f ≤ F) (N : ∀ j, j < f → NAq c g (hi h R (b + j)) (hj g (a + 2 + j) 0) (hj g (a + 2 + j) 1)) (r1 : R < hz h ∧ hk h R = 100) (r2 : b + F ≤ hn h R) (r3 : hn h R < 2000) (m14' : hi h 1262 14 = 0) (m13' : hi h 1262 13 = nI k) (hk' : k < c) (q : hi g 8 k = 2) : (f_d_fieldNamed a (hj g 10 k) (hj g 11 k) g = some (-1, g) ∧ b_m_fresh_18 R (nI b) (nI f) (nI F) h = b_m_fresh_62 (nI f) (nI F) h) ∨ ∃ i, i < f ∧ f_d_fieldNamed a (hj g 10 k) (hj g 11 k) g = some (nI i, g) ∧ b_m_fresh_18 R (nI b) (nI f) (nI F) h = some ((), hsi (hsi h 1262 14 3) 1262 15 (hi h 1267 k)) := by
  have c4 := K.2.2.2.1
  have F16 := D.2.2.1
  have lp : ∀ m j fu fv, j + m = f → m < fu → m < fv → (b_d_fieldNamed_3 fu a (hj g 10 k) (hj g 11 k) (nI j) g = some (-1, g) ∧ b_m_fresh_21 fv R (nI b) (nI f) (nI F) (nI j) h = b_m_fresh_62 (nI f) (nI F) h) ∨ ∃ i, i < f ∧ b_d_fieldNamed_3 fu a (hj g 10 k) (hj g 11 k) (nI j) g = some (nI i, g) ∧ b_m_fresh_21 fv R (nI b) (nI f) (nI F) (nI j) h = some ((), hsi (hsi h 1262 14 3) 1262 15 (hi h 1267 k)) := by
    intro m
    induction m with
    | zero =>
      intro j fu fv e h1 h2
      obtain ⟨fu', rfl, -⟩ := fuel_pos h1
      obtain ⟨fv', rfl, -⟩ := fuel_pos h2
      have ej : j = f := by omega
      subst ej
      refine Or.inl ⟨e_d_fieldNamed_e D e3, ?_⟩
      show s_m_fresh_21 (b_m_fresh_21 fv') _ _ _ _ _ _ = _
      unfold s_m_fresh_21
      exact o_pos (Int32.le_refl _) rfl
    | succ m ih =>
      intro j fu fv e h1 h2
      obtain ⟨fu', rfl, -⟩ := fuel_pos h1
      obtain ⟨fv', rfl, -⟩ := fuel_pos h2
      obtain ⟨i, i1, i2, i3, i4, i5⟩ := N j (by omega)
      have sc := e_d_fieldNamed_s (K := b_d_fieldNamed_3 fu') (x := hj g 10 k) (y := hj g 11 k) D e3 hf (show j < f by omega)
      obtain ⟨r, s1, s2⟩ := e_m_sameName M K i1 hk' i3 q
      have sm : ∀ X : Option (Unit × XH), (if r = 0 then (b_m_fresh_56 (b_m_fresh_21 fv') R (nI b) (nI f) (nI F) (nI j) h) else (Option.bind (f_m_flaw 3 h) fun r14 => (b_m_fresh_56 (b_m_fresh_21 fv') R (nI b) (nI f) (nI F) (nI j) r14.2))) = X → b_m_fresh_21 (fv' + 1) R (nI b) (nI f) (nI F) (nI j) h = X := by
        intro X qx
        show s_m_fresh_21 (b_m_fresh_21 fv') _ _ _ _ _ _ = _
        unfold s_m_fresh_21
        rw [m13', nI_add, nI_clamp (show b + j < 2 ^ 31 by omega), i2]
        exact o_neg (by (first | (simp (maxSteps := 4000000) (disch := omega) only [n_0, n_1, n_2, n_3, n_4, n_5, n_6, n_7, n_8, n_9, n_10, n_11, n_12, n_13, n_14, n_15, n_16, n_18, n_20, n_24, n_31, n_32, n_34, n_40, n_41, n_44, n_45, n_47, n_48, n_57, n_58, n_59, n_61, n_63, n_64, n_65, n_68, n_90, n_91, n_93, n_95, n_97, n_100, n_122, n_123, n_125, n_128, n_144, n_200, n_255, n_256, n_300, n_400, n_600, n_1536, n_3980, n_4000, n_4001, n_4300, n_65536, l_0, l_1, l_2, l_3, l_4, l_10, l_48, l_63, l_255, l_300, nI_ltI, nI_leI, nI_eq, nI_clamp, nI_add, pk_sub, pk_mul, nI_ne1, ne1_nI, nI_pge, nI_nlt0, nI_l, lN_i, lN_add, lN_mul, lN_sub, pk_lLT, pk_lLE, pk_lEQ, lg_lt, lg_ge, lg_eq0, lg_le, lg_gt, lg_ltn, lg_gen, lg_eq0n, lg_len, lg_gtn, Nat.zero_le, Nat.not_lt_zero, not_false_eq_true, not_true_eq_false, true_and, and_true]; done) | (simp (maxSteps := 4000000) (disch := omega) only [n_0, n_1, n_2, n_3, n_4, n_5, n_6, n_7, n_8, n_9, n_10, n_11, n_12, n_13, n_14, n_15, n_16, n_18, n_20, n_24, n_31, n_32, n_34, n_40, n_41, n_44, n_45, n_47, n_48, n_57, n_58, n_59, n_61, n_63, n_64, n_65, n_68, n_90, n_91, n_93, n_95, n_97, n_100, n_122, n_123, n_125, n_128, n_144, n_200, n_255, n_256, n_300, n_400, n_600, n_1536, n_3980, n_4000, n_4001, n_4300, n_65536, l_0, l_1, l_2, l_3, l_4, l_10, l_48, l_63, l_255, l_300, nI_ltI, nI_leI, nI_eq, nI_clamp, nI_add, pk_sub, pk_mul, nI_ne1, ne1_nI, nI_pge, nI_nlt0, nI_l, lN_i, lN_add, lN_mul, lN_sub, pk_lLT, pk_lLE, pk_lEQ, lg_lt, lg_ge, lg_eq0, lg_le, lg_gt, lg_ltn, lg_gen, lg_eq0n, lg_len, lg_gtn, Nat.zero_le, Nat.not_lt_zero, not_false_eq_true, not_true_eq_false, true_and, and_true]; omega) | omega)) (o_neg (not_not_intro m14') (o_pos r1 (o_pos ⟨nI_pos' (by omega), by (first | (simp (maxSteps := 4000000) (disch := omega) only [n_0, n_1, n_2, n_3, n_4, n_5, n_6, n_7, n_8, n_9, n_10, n_11, n_12, n_13, n_14, n_15, n_16, n_18, n_20, n_24, n_31, n_32, n_34, n_40, n_41, n_44, n_45, n_47, n_48, n_57, n_58, n_59, n_61, n_63, n_64, n_65, n_68, n_90, n_91, n_93, n_95, n_97, n_100, n_122, n_123, n_125, n_128, n_144, n_200, n_255, n_256, n_300, n_400, n_600, n_1536, n_3980, n_4000, n_4001, n_4300, n_65536, l_0, l_1, l_2, l_3, l_4, l_10, l_48, l_63, l_255, l_300, nI_ltI, nI_leI, nI_eq, nI_clamp, nI_add, pk_sub, pk_mul, nI_ne1, ne1_nI, nI_pge, nI_nlt0, nI_l, lN_i, lN_add, lN_mul, lN_sub, pk_lLT, pk_lLE, pk_lEQ, lg_lt, lg_ge, lg_eq0, lg_le, lg_gt, lg_ltn, lg_gen, lg_eq0n, lg_len, lg_gtn, Nat.zero_le, Nat.not_lt_zero, not_false_eq_true, not_true_eq_false, true_and, and_true]; done) | (simp (maxSteps := 4000000) (disch := omega) only [n_0, n_1, n_2, n_3, n_4, n_5, n_6, n_7, n_8, n_9, n_10, n_11, n_12, n_13, n_14, n_15, n_16, n_18, n_20, n_24, n_31, n_32, n_34, n_40, n_41, n_44, n_45, n_47, n_48, n_57, n_58, n_59, n_61, n_63, n_64, n_65, n_68, n_90, n_91, n_93, n_95, n_97, n_100, n_122, n_123, n_125, n_128, n_144, n_200, n_255, n_256, n_300, n_400, n_600, n_1536, n_3980, n_4000, n_4001, n_4300, n_65536, l_0, l_1, l_2, l_3, l_4, l_10, l_48, l_63, l_255, l_300, nI_ltI, nI_leI, nI_eq, nI_clamp, nI_add, pk_sub, pk_mul, nI_ne1, ne1_nI, nI_pge, nI_nlt0, nI_l, lN_i, lN_add, lN_mul, lN_sub, pk_lLT, pk_lLE, pk_lEQ, lg_lt, lg_ge, lg_eq0, lg_le, lg_gt, lg_ltn, lg_gen, lg_eq0n, lg_len, lg_gtn, Nat.zero_le, Nat.not_lt_zero, not_false_eq_true, not_true_eq_false, true_and, and_true]; omega) | omega), by omega⟩ (o_bind s1 qx))))
      rw [← i4, ← i5] at s2
      rcases s2 with ⟨t1, t2, t3⟩ | ⟨t1, t2⟩
      · refine Or.inr ⟨j, by omega, ?_, ?_⟩
        · rcases sc with ⟨-, q2⟩ | ⟨q1, -⟩
          · exact q2
          · exact absurd ⟨t2, t3⟩ q1
        · refine sm _ (o_neg (by rw [t1]; exact one0) (o_bind (e_m_flaw m14' m13' (by omega)) ?_))
          obtain ⟨fw, rfl, -⟩ := fuel_pos (show 0 < fv' by omega)
          unfold b_m_fresh_56
          exact nf_fresh21 (by rw [hi_nk (by decide), hi_at]; decide)
      · have q1 : b_d_fieldNamed_3 (fu' + 1) a (hj g 10 k) (hj g 11 k) (nI j) g = b_d_fieldNamed_3 fu' a (hj g 10 k) (hj g 11 k) (nI (j + 1)) g := by
          rcases sc with ⟨q1, -⟩ | ⟨-, q2⟩
          · exact absurd q1 t2
          · rw [n_1, nI_add] at q2
            exact q2
        have q2 : b_m_fresh_21 (fv' + 1) R (nI b) (nI f) (nI F) (nI j) h = b_m_fresh_21 fv' R (nI b) (nI f) (nI F) (nI (j + 1)) h := sm _ (o_pos t1 (by unfold b_m_fresh_56; rw [n_1, nI_add]))
        rw [q1, q2]
        exact ih (j + 1) fu' fv' (by omega) (by omega) (by omega)
  exact lp f 0 100000 100000 (by omega) (by omega) (by omega)
def nfP (t a f a' k : Nat) : Prop := (a' = a + 2 + f ∧ 2 ≤ k) ∨ (a' = a ∧ k = 3) ∨ (a' = t ∧ (k = 5 ∨ k = 6))
def nfJ (a f a' _k : Nat) : Prop := a' = a + 2 + f
def nfC (a f a' k : Nat) : Prop := (a' = a + 2 + f ∧ 2 ≤ k) ∨ (a' = a ∧ k = 3)
/-- a new field -/
theorem newField2 {a F LN f R b : Nat} (A : ST T n c g h t S k) (M : MTx h T n) (D : DF g a F LN) (z1 : S ≤ a) (z2 : a + 4 + F ≤ S + 615) (e3 : hi g a 3 = nI f) (hf : f ≤ F) (N : ∀ j, j < f → NAq c g (hi h R (b + j)) (hj g (a + 2 + j) 0) (hj g (a + 2 + j) 1)) (r1 : R < hz h ∧ hk h R = 100) (r2 : b + F ≤ hn h R) (r3 : hn h R < 2000) : (∃ u, f_p_newField t a g = some (some (a + 2 + f), u) ∧ f_m_fresh R (nI b) (nI f) (nI F) h = some ((), h) ∧ f < F ∧ hi g 8 k = 2 ∧ ST T n c u (hsi h 1262 13 (nI (k + 1))) t S (k + 1) ∧ FRX (nfP t a f) (nfJ a f) nW g u ∧ hi u a 3 = nI (f + 1) ∧ (hi u (a + 2 + f) 2 = -1 ∧ hi u (a + 2 + f) 3 = -1 ∧ hi u (a + 2 + f) 4 = 0 ∧ hi u (a + 2 + f) 5 = -1 ∧ hi u (a + 2 + f) 7 = 0) ∧ hj u (a + 2 + f) 0 = hj g 10 k ∧ hj u (a + 2 + f) 1 = hj g 11 k ∧ hj u (a + 2 + f) 8 = 0) ∨ (∃ u p, f_p_newField t a g = some (none, u) ∧ f_m_fresh R (nI b) (nI f) (nI F) h = some ((), p) ∧ FLT u p t ∧ FRM (tF t) g u ∧ FRM m14 h p) := by
  have A' := A
  obtain ⟨P, K, kc', a5, a6, m13', m14'⟩ := A'
  have c4 := K.2.2.2.1
  have F16 := D.2.2.1
  have hd : f_x_head (hi g t 5) g = some (hj g 10 k, g) := by rw [a5]; exact e_x_head (u := g) K kc' rfl
  have tl : f_x_tail (hi g t 5) g = some (hj g 11 k, g) := by rw [a5]; exact e_x_tail (u := g) K kc' rfl
  have ak : a < hz g ∧ hk g a = 2 := ⟨by have := D.1; omega, D.2.2.2.2.1⟩
  rcases e_m_isName A with ⟨q, m1⟩ | ⟨q, m1⟩
  · have n1 : ¬ hi g 8 k = 1 := by rw [q]; decide
    have sm : ∀ X : Option (Unit × XH), b_m_fresh_18 R (nI b) (nI f) (nI F) h = X → f_m_fresh R (nI b) (nI f) (nI F) h = X := fun X qx => by
      unfold f_m_fresh
      exact o_neg (not_not_intro m14') (o_bind m1 (o_pos one0 qx))
    rcases fresh2 M K D e3 hf N r1 r2 r3 m14' m13' kc' q with ⟨w1, w2⟩ | ⟨i, i1, w1, w2⟩
    · by_cases cf : f = F
      · refine Or.inr ?_
        obtain ⟨u, p, s1, s2, s3, s4, s5, s6⟩ := A.fl (x := 4) n1 (by decide)
        have ad : f_d_addField a (hj g 10 k) (hj g 11 k) g = some (none, g) := by
          obtain ⟨d1, d2, d3, d4, d5, d6, d7, d8, d9, -⟩ := D
          unfold f_d_addField b_d_addField_19
          rw [e3]
          refine o_pos ak (o_neg (by (first | (simp (maxSteps := 4000000) (disch := omega) only [n_0, n_1, n_2, n_3, n_4, n_5, n_6, n_7, n_8, n_9, n_10, n_11, n_12, n_13, n_14, n_15, n_16, n_18, n_20, n_24, n_31, n_32, n_34, n_40, n_41, n_44, n_45, n_47, n_48, n_57, n_58, n_59, n_61, n_63, n_64, n_65, n_68, n_90, n_91, n_93, n_95, n_97, n_100, n_122, n_123, n_125, n_128, n_144, n_200, n_255, n_256, n_300, n_400, n_600, n_1536, n_3980, n_4000, n_4001, n_4300, n_65536, l_0, l_1, l_2, l_3, l_4, l_10, l_48, l_63, l_255, l_300, nI_ltI, nI_leI, nI_eq, nI_clamp, nI_add, pk_sub, pk_mul, nI_ne1, ne1_nI, nI_pge, nI_nlt0, nI_l, lN_i, lN_add, lN_mul, lN_sub, pk_lLT, pk_lLE, pk_lEQ, lg_lt, lg_ge, lg_eq0, lg_le, lg_gt, lg_ltn, lg_gen, lg_eq0n, lg_len, lg_gtn, Nat.zero_le, Nat.not_lt_zero, not_false_eq_true, not_true_eq_false, true_and, and_true]; done) | (simp (maxSteps := 4000000) (disch := omega) only [n_0, n_1, n_2, n_3, n_4, n_5, n_6, n_7, n_8, n_9, n_10, n_11, n_12, n_13, n_14, n_15, n_16, n_18, n_20, n_24, n_31, n_32, n_34, n_40, n_41, n_44, n_45, n_47, n_48, n_57, n_58, n_59, n_61, n_63, n_64, n_65, n_68, n_90, n_91, n_93, n_95, n_97, n_100, n_122, n_123, n_125, n_128, n_144, n_200, n_255, n_256, n_300, n_400, n_600, n_1536, n_3980, n_4000, n_4001, n_4300, n_65536, l_0, l_1, l_2, l_3, l_4, l_10, l_48, l_63, l_255, l_300, nI_ltI, nI_leI, nI_eq, nI_clamp, nI_add, pk_sub, pk_mul, nI_ne1, ne1_nI, nI_pge, nI_nlt0, nI_l, lN_i, lN_add, lN_mul, lN_sub, pk_lLT, pk_lLE, pk_lEQ, lg_lt, lg_ge, lg_eq0, lg_le, lg_gt, lg_ltn, lg_gen, lg_eq0n, lg_len, lg_gtn, Nat.zero_le, Nat.not_lt_zero, not_false_eq_true, not_true_eq_false, true_and, and_true]; omega) | omega)) (o_bind d6 (o_pos ⟨by omega, d7⟩ ?_)))
          rw [d8, cf]
          exact o_neg Int32.lt_irrefl rfl
        refine ⟨u, p, ?_, sm _ (w2.trans ?_), s3, s4, s5⟩
        · unfold f_p_newField
          exact o_pos P.tk (o_pos (by rw [a6]; exact q) (o_bind P.2.2.2.2.2.1 (o_pos rfl (o_bind hd (o_pos P.tk (o_bind P.2.2.2.2.2.1 (o_pos rfl (o_bind tl (o_pos ak (o_bind w1 (o_pos rfl (o_pos P.tk (o_bind P.2.2.2.2.2.1 (o_pos rfl (o_bind hd (o_pos P.tk (o_bind P.2.2.2.2.2.1 (o_pos rfl (o_bind tl (o_pos ak (o_bind ad (o_elimn (o_pos P.tk (o_bind s1 rfl))))))))))))))))))))))))
        · unfold b_m_fresh_62
          exact o_neg (not_not_intro m14') (o_neg (not_not_intro (by rw [cf])) (o_bind s2 rfl))
      · refine Or.inl ?_
        have fk : a + 2 + f < hz g ∧ hk g (a + 2 + f) = 3 := ⟨by have := D.1; omega, (D.2.2.2.2.2.2.2.2.1 f (by omega)).2⟩
        have P' := P
        obtain ⟨L, p1, p2, p3, -⟩ := P'
        have ad : ∃ v, f_d_addField a (hj g 10 k) (hj g 11 k) g = some (some (a + 2 + f), v) ∧ FRX (nfC a f) (nfJ a f) nW g v ∧ hi v a 3 = nI (f + 1) ∧ (hi v (a + 2 + f) 2 = -1 ∧ hi v (a + 2 + f) 3 = -1 ∧ hi v (a + 2 + f) 4 = 0 ∧ hi v (a + 2 + f) 5 = -1 ∧ hi v (a + 2 + f) 7 = 0) ∧ hj v (a + 2 + f) 0 = hj g 10 k ∧ hj v (a + 2 + f) 1 = hj g 11 k ∧ hj v (a + 2 + f) 8 = 0 := by
          obtain ⟨d1, d2, d3, d4, d5, d6, d7, d8, d9, -⟩ := D
          have rs : f_f_restart (a + 2 + f) (hj g 10 k) (hj g 11 k) g = some ((), fRes g (a + 2 + f) (hj g 10 k) (hj g 11 k)) := o_pos fk rfl
          have e3' : hi (fRes g (a + 2 + f) (hj g 10 k) (hj g 11 k)) a 3 = nI f := by
            unfold fRes
            simp (maxSteps := 4000000) (disch := omega) only [hi_hsj, hi_hsi_ne]
            exact e3
          have eq : f_d_addField a (hj g 10 k) (hj g 11 k) g = some (some (a + 2 + f), hsi (fRes g (a + 2 + f) (hj g 10 k) (hj g 11 k)) a 3 (nI (f + 1))) := by
            unfold f_d_addField
            rw [e3]
            refine o_pos ak (o_neg (by (first | (simp (maxSteps := 4000000) (disch := omega) only [n_0, n_1, n_2, n_3, n_4, n_5, n_6, n_7, n_8, n_9, n_10, n_11, n_12, n_13, n_14, n_15, n_16, n_18, n_20, n_24, n_31, n_32, n_34, n_40, n_41, n_44, n_45, n_47, n_48, n_57, n_58, n_59, n_61, n_63, n_64, n_65, n_68, n_90, n_91, n_93, n_95, n_97, n_100, n_122, n_123, n_125, n_128, n_144, n_200, n_255, n_256, n_300, n_400, n_600, n_1536, n_3980, n_4000, n_4001, n_4300, n_65536, l_0, l_1, l_2, l_3, l_4, l_10, l_48, l_63, l_255, l_300, nI_ltI, nI_leI, nI_eq, nI_clamp, nI_add, pk_sub, pk_mul, nI_ne1, ne1_nI, nI_pge, nI_nlt0, nI_l, lN_i, lN_add, lN_mul, lN_sub, pk_lLT, pk_lLE, pk_lEQ, lg_lt, lg_ge, lg_eq0, lg_le, lg_gt, lg_ltn, lg_gen, lg_eq0n, lg_len, lg_gtn, Nat.zero_le, Nat.not_lt_zero, not_false_eq_true, not_true_eq_false, true_and, and_true]; done) | (simp (maxSteps := 4000000) (disch := omega) only [n_0, n_1, n_2, n_3, n_4, n_5, n_6, n_7, n_8, n_9, n_10, n_11, n_12, n_13, n_14, n_15, n_16, n_18, n_20, n_24, n_31, n_32, n_34, n_40, n_41, n_44, n_45, n_47, n_48, n_57, n_58, n_59, n_61, n_63, n_64, n_65, n_68, n_90, n_91, n_93, n_95, n_97, n_100, n_122, n_123, n_125, n_128, n_144, n_200, n_255, n_256, n_300, n_400, n_600, n_1536, n_3980, n_4000, n_4001, n_4300, n_65536, l_0, l_1, l_2, l_3, l_4, l_10, l_48, l_63, l_255, l_300, nI_ltI, nI_leI, nI_eq, nI_clamp, nI_add, pk_sub, pk_mul, nI_ne1, ne1_nI, nI_pge, nI_nlt0, nI_l, lN_i, lN_add, lN_mul, lN_sub, pk_lLT, pk_lLE, pk_lEQ, lg_lt, lg_ge, lg_eq0, lg_le, lg_gt, lg_ltn, lg_gen, lg_eq0n, lg_len, lg_gtn, Nat.zero_le, Nat.not_lt_zero, not_false_eq_true, not_true_eq_false, true_and, and_true]; omega) | omega)) (o_bind d6 (o_pos ⟨by omega, d7⟩ ?_)))
            rw [d8]
            refine o_pos (by (first | (simp (maxSteps := 4000000) (disch := omega) only [n_0, n_1, n_2, n_3, n_4, n_5, n_6, n_7, n_8, n_9, n_10, n_11, n_12, n_13, n_14, n_15, n_16, n_18, n_20, n_24, n_31, n_32, n_34, n_40, n_41, n_44, n_45, n_47, n_48, n_57, n_58, n_59, n_61, n_63, n_64, n_65, n_68, n_90, n_91, n_93, n_95, n_97, n_100, n_122, n_123, n_125, n_128, n_144, n_200, n_255, n_256, n_300, n_400, n_600, n_1536, n_3980, n_4000, n_4001, n_4300, n_65536, l_0, l_1, l_2, l_3, l_4, l_10, l_48, l_63, l_255, l_300, nI_ltI, nI_leI, nI_eq, nI_clamp, nI_add, pk_sub, pk_mul, nI_ne1, ne1_nI, nI_pge, nI_nlt0, nI_l, lN_i, lN_add, lN_mul, lN_sub, pk_lLT, pk_lLE, pk_lEQ, lg_lt, lg_ge, lg_eq0, lg_le, lg_gt, lg_ltn, lg_gen, lg_eq0n, lg_len, lg_gtn, Nat.zero_le, Nat.not_lt_zero, not_false_eq_true, not_true_eq_false, true_and, and_true]; done) | (simp (maxSteps := 4000000) (disch := omega) only [n_0, n_1, n_2, n_3, n_4, n_5, n_6, n_7, n_8, n_9, n_10, n_11, n_12, n_13, n_14, n_15, n_16, n_18, n_20, n_24, n_31, n_32, n_34, n_40, n_41, n_44, n_45, n_47, n_48, n_57, n_58, n_59, n_61, n_63, n_64, n_65, n_68, n_90, n_91, n_93, n_95, n_97, n_100, n_122, n_123, n_125, n_128, n_144, n_200, n_255, n_256, n_300, n_400, n_600, n_1536, n_3980, n_4000, n_4001, n_4300, n_65536, l_0, l_1, l_2, l_3, l_4, l_10, l_48, l_63, l_255, l_300, nI_ltI, nI_leI, nI_eq, nI_clamp, nI_add, pk_sub, pk_mul, nI_ne1, ne1_nI, nI_pge, nI_nlt0, nI_l, lN_i, lN_add, lN_mul, lN_sub, pk_lLT, pk_lLE, pk_lEQ, lg_lt, lg_ge, lg_eq0, lg_le, lg_gt, lg_ltn, lg_gen, lg_eq0n, lg_len, lg_gtn, Nat.zero_le, Nat.not_lt_zero, not_false_eq_true, not_true_eq_false, true_and, and_true]; omega) | omega)) (o_pos ⟨nI_pos' (by omega), by (first | (simp (maxSteps := 4000000) (disch := omega) only [n_0, n_1, n_2, n_3, n_4, n_5, n_6, n_7, n_8, n_9, n_10, n_11, n_12, n_13, n_14, n_15, n_16, n_18, n_20, n_24, n_31, n_32, n_34, n_40, n_41, n_44, n_45, n_47, n_48, n_57, n_58, n_59, n_61, n_63, n_64, n_65, n_68, n_90, n_91, n_93, n_95, n_97, n_100, n_122, n_123, n_125, n_128, n_144, n_200, n_255, n_256, n_300, n_400, n_600, n_1536, n_3980, n_4000, n_4001, n_4300, n_65536, l_0, l_1, l_2, l_3, l_4, l_10, l_48, l_63, l_255, l_300, nI_ltI, nI_leI, nI_eq, nI_clamp, nI_add, pk_sub, pk_mul, nI_ne1, ne1_nI, nI_pge, nI_nlt0, nI_l, lN_i, lN_add, lN_mul, lN_sub, pk_lLT, pk_lLE, pk_lEQ, lg_lt, lg_ge, lg_eq0, lg_le, lg_gt, lg_ltn, lg_gen, lg_eq0n, lg_len, lg_gtn, Nat.zero_le, Nat.not_lt_zero, not_false_eq_true, not_true_eq_false, true_and, and_true]; done) | (simp (maxSteps := 4000000) (disch := omega) only [n_0, n_1, n_2, n_3, n_4, n_5, n_6, n_7, n_8, n_9, n_10, n_11, n_12, n_13, n_14, n_15, n_16, n_18, n_20, n_24, n_31, n_32, n_34, n_40, n_41, n_44, n_45, n_47, n_48, n_57, n_58, n_59, n_61, n_63, n_64, n_65, n_68, n_90, n_91, n_93, n_95, n_97, n_100, n_122, n_123, n_125, n_128, n_144, n_200, n_255, n_256, n_300, n_400, n_600, n_1536, n_3980, n_4000, n_4001, n_4300, n_65536, l_0, l_1, l_2, l_3, l_4, l_10, l_48, l_63, l_255, l_300, nI_ltI, nI_leI, nI_eq, nI_clamp, nI_add, pk_sub, pk_mul, nI_ne1, ne1_nI, nI_pge, nI_nlt0, nI_l, lN_i, lN_add, lN_mul, lN_sub, pk_lLT, pk_lLE, pk_lEQ, lg_lt, lg_ge, lg_eq0, lg_le, lg_gt, lg_ltn, lg_gen, lg_eq0n, lg_len, lg_gtn, Nat.zero_le, Nat.not_lt_zero, not_false_eq_true, not_true_eq_false, true_and, and_true]; omega) | omega), by omega⟩ (o_bind (by rw [nI_clamp (show f < 2 ^ 31 by omega)]; exact (d9 f (by omega)).1) (o_pos fk (o_bind rs (o_pos ak ?_)))))
            rw [e3', n_1, nI_add]
          refine ⟨_, eq, ?_, hi_at, ?_, ?_, ?_, ?_⟩
          · unfold fRes
            refine (FRX.si (FRX.sj (FRX.si (FRX.si (FRX.si (FRX.si (FRX.si (FRX.si (FRX.sj (FRX.sj FRX.refl ?_) ?_) ?_) ?_) ?_) ?_) ?_) ?_) ?_) ?_)
            all_goals (first | exact (rfl : a + 2 + f = a + 2 + f) | exact Or.inl ⟨rfl, by decide⟩ | exact Or.inr ⟨rfl, rfl⟩)
          · unfold fRes
            simp (maxSteps := 4000000) (disch := omega) only [hi_hsi_ne, hi_hsj, hi_nk, hi_at, and_self]
          · unfold fRes
            simp (maxSteps := 4000000) (disch := omega) only [hj_hsi, hj_nk, hj_at]
          · unfold fRes
            simp (maxSteps := 4000000) (disch := omega) only [hj_hsi, hj_nk, hj_at]
          · unfold fRes
            simp (maxSteps := 4000000) (disch := omega) only [hj_hsi, hj_nk, hj_at]
        obtain ⟨v, v1, v2, v3, v4, v5, v6, v7⟩ := ad
        have hz0 : S = 12 ∨ S = 628 := p3
        have ST1 : ST T n c v h t S k := A.con (v2.mono (fun a' k z => by unfold nfC at z; unfold xP; omega) (fun a' k z => by unfold nfJ at z; unfold xJ; omega) (fun _ _ z => z.elim)) FRX.refl
        have nq : ¬ (hi v 8 k = 0 ∨ hi v 8 k = 1) := by
          rw [v2.at (by unfold nfC; omega), q]
          decide
        have tv := ST1.1.tk
        have av := e_p_advance ST1 nq
        have nx := ST1.nx nq
        have at0 : ∀ b k, b ≠ t → hi (hsi (hsi v t 5 (nI (k + 1))) t 6 (hi v 8 (k + 1))) b = hi v b := fun b k hb => by rw [hi_hsi_ne hb, hi_hsi_ne hb]
        refine ⟨_, ?_, sm _ (w2.trans ?_), by omega, q, nx, ?_, ?_, ?_, ?_, ?_, ?_⟩
        · unfold f_p_newField
          exact o_pos P.tk (o_pos (by rw [a6]; exact q) (o_bind P.2.2.2.2.2.1 (o_pos rfl (o_bind hd (o_pos P.tk (o_bind P.2.2.2.2.2.1 (o_pos rfl (o_bind tl (o_pos ak (o_bind w1 (o_pos rfl (o_pos P.tk (o_bind P.2.2.2.2.2.1 (o_pos rfl (o_bind hd (o_pos P.tk (o_bind P.2.2.2.2.2.1 (o_pos rfl (o_bind tl (o_pos ak (o_bind v1 (o_elim (o_pos tv (o_bind av rfl))))))))))))))))))))))))
        · unfold b_m_fresh_62
          exact o_neg (not_not_intro m14') (o_pos (show ¬ nI f = nI F by (first | (simp (maxSteps := 4000000) (disch := omega) only [n_0, n_1, n_2, n_3, n_4, n_5, n_6, n_7, n_8, n_9, n_10, n_11, n_12, n_13, n_14, n_15, n_16, n_18, n_20, n_24, n_31, n_32, n_34, n_40, n_41, n_44, n_45, n_47, n_48, n_57, n_58, n_59, n_61, n_63, n_64, n_65, n_68, n_90, n_91, n_93, n_95, n_97, n_100, n_122, n_123, n_125, n_128, n_144, n_200, n_255, n_256, n_300, n_400, n_600, n_1536, n_3980, n_4000, n_4001, n_4300, n_65536, l_0, l_1, l_2, l_3, l_4, l_10, l_48, l_63, l_255, l_300, nI_ltI, nI_leI, nI_eq, nI_clamp, nI_add, pk_sub, pk_mul, nI_ne1, ne1_nI, nI_pge, nI_nlt0, nI_l, lN_i, lN_add, lN_mul, lN_sub, pk_lLT, pk_lLE, pk_lEQ, lg_lt, lg_ge, lg_eq0, lg_le, lg_gt, lg_ltn, lg_gen, lg_eq0n, lg_len, lg_gtn, Nat.zero_le, Nat.not_lt_zero, not_false_eq_true, not_true_eq_false, true_and, and_true]; done) | (simp (maxSteps := 4000000) (disch := omega) only [n_0, n_1, n_2, n_3, n_4, n_5, n_6, n_7, n_8, n_9, n_10, n_11, n_12, n_13, n_14, n_15, n_16, n_18, n_20, n_24, n_31, n_32, n_34, n_40, n_41, n_44, n_45, n_47, n_48, n_57, n_58, n_59, n_61, n_63, n_64, n_65, n_68, n_90, n_91, n_93, n_95, n_97, n_100, n_122, n_123, n_125, n_128, n_144, n_200, n_255, n_256, n_300, n_400, n_600, n_1536, n_3980, n_4000, n_4001, n_4300, n_65536, l_0, l_1, l_2, l_3, l_4, l_10, l_48, l_63, l_255, l_300, nI_ltI, nI_leI, nI_eq, nI_clamp, nI_add, pk_sub, pk_mul, nI_ne1, ne1_nI, nI_pge, nI_nlt0, nI_l, lN_i, lN_add, lN_mul, lN_sub, pk_lLT, pk_lLE, pk_lEQ, lg_lt, lg_ge, lg_eq0, lg_le, lg_gt, lg_ltn, lg_gen, lg_eq0n, lg_len, lg_gtn, Nat.zero_le, Nat.not_lt_zero, not_false_eq_true, not_true_eq_false, true_and, and_true]; omega) | omega)) rfl)
        · refine FRX.si (FRX.si (v2.mono (fun a' k z => ?_) (fun a' k z => z) (fun _ _ z => z)) (Or.inr (Or.inr ⟨rfl, Or.inl rfl⟩))) (Or.inr (Or.inr ⟨rfl, Or.inr rfl⟩))
          exact z.elim Or.inl fun z => Or.inr (Or.inl z)
        · rw [at0 a k (by omega)]; exact v3
        · rw [at0 (a + 2 + f) k (by omega)]; exact v4
        · rw [hj_hsi, hj_hsi]; exact v5
        · rw [hj_hsi, hj_hsi]; exact v6
        · rw [hj_hsi, hj_hsi]; exact v7
    · refine Or.inr ?_
      obtain ⟨u, p, s1, s2, s3, s4, s5, s6⟩ := A.fl (x := 3) n1 (by decide)
      have pe : p = hsi (hsi h 1262 14 3) 1262 15 (hi h 1267 k) := by
        have := (e_m_flaw (x := 3) m14' m13' (by omega)).symm.trans s2
        injection this with this
        exact (congrArg Prod.snd this).symm
      refine ⟨u, p, ?_, sm _ (w2.trans (by rw [pe])), s3, s4, s5⟩
      unfold f_p_newField
      exact o_pos P.tk (o_pos (by rw [a6]; exact q) (o_bind P.2.2.2.2.2.1 (o_pos rfl (o_bind hd (o_pos P.tk (o_bind P.2.2.2.2.2.1 (o_pos rfl (o_bind tl (o_pos ak (o_bind w1 (o_neg (show ¬ nI i = -1 from nI_n1 (by omega)) (o_pos P.tk (o_bind s1 rfl)))))))))))))
  · refine Or.inr ?_
    obtain ⟨u, p, s1, s2, s3, s4, s5, s6⟩ := A.mis
    refine ⟨u, p, ?_, ?_, s3, s4, s5⟩
    · unfold f_p_newField
      exact o_pos P.tk (o_neg (by rw [a6]; exact q) (o_bind s1 rfl))
    · unfold f_m_fresh b_m_fresh_18
      exact o_neg (not_not_intro m14') (o_bind m1 (o_neg (not_not_intro rfl) (o_bind s2 (nf_fresh21 s6))))
end Nf
