/-! The parsers: a union whole -/

section Ul
variable {T : Nat → Nat} {n c S t nd ns fs nt ft nu fu na es et eu lo k f : Nat} {g h u p : XH}
/-- one lexeme on, or a counter of the model's -/
def m13c (a k : Nat) : Prop := a = 1262 ∧ (k = 13 ∨ k = 20 ∨ k = 31 ∨ k = 41)
theorem BG.pos (A : BG T n c S t nd ns fs nt ft nu fu na es et eu lo g h) (L : LY g) (ht : 1317 ≤ t) (F : FRM (tP t) g u) (G : FRX m13c sJ nW h p) : BG T n c S t nd ns fs nt ft nu fu na es et eu lo u p :=
  A.fr L ht (F.x (fun a k z => Or.inl z.1) (fun k => Or.inl rfl)) (G.mono (fun a k z => Or.inl ⟨z.1, by unfold m13c at z; omega⟩) (fun a k z => Or.inl z) (fun _ _ z => z))
theorem m13_c {W : Nat → Nat → Prop} (G : FRM m13 h p) : FRX m13c sJ W h p := G.x (fun a k z => ⟨z.1, Or.inl z.2⟩) (fun k => rfl)
theorem m13c_M (G : FRX m13c sJ nW h p) : FMx h p := G.mono (fun a k z => Or.inl ⟨z.1, by unfold m13c at z; omega⟩) (fun a k z => Or.inl z) (fun _ _ z => z)
theorem CN.pos (A : CN S t nd ns nt nu na es et eu g h) (hS : S = 12 ∨ S = 628) (ht : 1317 ≤ t) (F : FRM (tP t) g u) (G : FRM m13 h p) : CN S t nd ns nt nu na es et eu u p :=
  A.fr (F.x (P2 := tP t) (J2 := sJ) (W2 := nW) (fun _ _ z => z) (fun k => rfl)) (G.x (P2 := m13) (J2 := sJ) (W2 := nW) (fun _ _ z => z) (fun k => rfl)) ⟨by unfold tP; omega, by unfold tP; omega, by unfold tP; omega, by unfold tP; omega, by unfold tP; omega⟩ ⟨by simp [m13], by simp [m13], by simp [m13], by simp [m13], by simp [m13]⟩
theorem UB.pos {k' : Nat} (A : UB T n c S t nd ns nt nu na es et eu k f g h) (q : ST T n c u p t S k') (F : FRM (tP t) g u) (G : FRM m13 h p) : UB T n c S t nd ns nt nu na es et eu k' f u p := by
  obtain ⟨ST0, B, N, Lh, e3, e92, heu⟩ := A
  have t17 := ST0.1.2.1
  have S1 := ST0.1.2.2.2.1
  have n8 : nu < 8 := by have := B.2.2.2.2.2.2.2.2.2.2.2; omega
  exact ⟨q, B.pos ST0.1.1 t17 F (m13_c G), N.pos S1 t17 F G, (FMx.q13 G).ly Lh, by rw [F.at (by unfold tP dU; omega)]; exact e3, by rw [G.at (by simp [m13])]; exact e92, heu⟩
theorem BG.addUD (A : BG T n c S t nd ns 0 nt 0 nu f na es et eu 0 g h) (f0 : 1 ≤ f) (f8 : f ≤ 8) (he : eu = nu + 1) (e1 : hi g (dU S nu) 3 = nI f) (e2 : hi h 1292 nu = nI f) : BG T n c S t nd ns 0 nt 0 (nu + 1) 0 na es et eu 0 g h := by
  obtain ⟨M, K, D, SS, SC', TT, TC, UU, UC, E, I, ⟨l1, l2, l3, l4, l5, l6, l7, l8, l9, l10, l11, l12, l13, l14⟩⟩ := A
  refine ⟨M, K, D, SS, SC', TT, TC, fun s hs => ?_, fun j hj' => absurd hj' (Nat.not_lt_zero j), fun i h1 h2 => ?_, I, ⟨l1, l2, l3, l4, l5, l6, by omega, by omega, l9, l10, by omega, l12, l13, Or.inl rfl⟩⟩
  · by_cases cs : s = nu
    · rw [cs]
      exact ⟨f, f0, f8, e1, e2, UC⟩
    · exact UU s (by omega)
  · obtain ⟨a, k, w, x, a1, a2, a3, a4, a5, a6, a7, a9⟩ := E i h1 h2
    exact ⟨a, k, w, x, a1, a2, a3, a4, a5, a6, a7, a9.imp id (fun ⟨s, f, q1, q2⟩ => ⟨s, f, by omega, q2⟩)⟩
/-- the bracket behind -/
theorem unionEnd (A : UB T n c S t nd ns nt nu na es et eu k f g h) (f0 : 1 ≤ f) (f8 : f ≤ 8) : OUT T n c S t nd ns nt (nu + 1) na es et eu 0 g h (b_p_readUnion_61 t g) (b_m_unionBody_116 h) := by
  have A' := A
  obtain ⟨ST0, B, N, Lh, e3, e92, heu⟩ := A'
  have t17 := ST0.1.2.1
  have S1 := ST0.1.2.2.2.1
  rcases exp2 (x := 125) ST0 (by decide) with ⟨u, p, x1, x2, x3, x4, x5⟩ | ⟨u, p, x1, x2, x3, x4, x5⟩
  · obtain ⟨y1, y2, y3, y4, y5, y6, y7⟩ := A.pos x3 x4 x5
    obtain ⟨n1, n2, n3, n4, n5, n6, n7, n8, n9, n10⟩ := y3
    obtain ⟨p2, e2⟩ : ∃ p2, p2 = hsi p 1262 41 (nI (nu + 1)) := ⟨_, rfl⟩
    have Gx : FRX xM nJ nW p p2 := by rw [e2]; exact FRX.refl.si (by simp [xM])
    have G2 : FRX m13c sJ nW h p2 := by rw [e2]; exact (m13_c x5).si (by simp [m13c])
    have pm : ∀ k, k ≠ 41 → hi p2 1262 k = hi p 1262 k := fun k hk' => by rw [e2, hi_nk hk']
    have FM2 : FMx h p2 := m13c_M G2
    refine Or.inl ⟨u, p2, k + 1, ?_, ?_, x3.con FRX.refl Gx, (B.pos ST0.1.1 t17 x4 G2).addUD f0 f8 heu y5 (by rw [e2, hi_hsi_ne (by decide)]; exact y6), ⟨n1, ?_, n3, n4, n5, ?_, ?_, ?_, n9, ?_⟩, FM2.ly Lh, FC.tPq x4, FM2⟩
    · unfold b_p_readUnion_61
      exact o_pos ST0.1.tk (o_bind x1 (o_pos (Or.inr rfl) rfl))
    · unfold b_m_unionBody_116
      refine o_bind x2 ?_
      show some ((), hsi p 1262 41 (hi p 1262 41 + 1)) = _
      rw [n8, n_1, nI_add, e2]
    · rw [pm 16 (by decide)]; exact n2
    · rw [pm 20 (by decide)]; exact n6
    · rw [pm 31 (by decide)]; exact n7
    · rw [e2, hi_at]
    · rw [pm 46 (by decide)]; exact n10
  · refine Or.inr ⟨u, _, ?_, o_bind x2 rfl, x3.up (x := 41) (w := hi p 1262 41 + 1) (by decide), FC.tFq x4, FRX.si (FMx.q14 x5) (by simp [nM])⟩
    unfold b_p_readUnion_61
    exact o_pos ST0.1.tk (o_bind x1 (o_pos (Or.inl rfl) rfl))
theorem unionLoop : ∀ (m f i fuel F k na : Nat) (g h : XH), f + m = 8 → 1 ≤ f → i + 1 ≤ f → m + 2 ≤ fuel → m + 2 ≤ F → UB T n c S t nd ns nt nu na es et eu k f g h → ∃ na', OUT T n c S t nd ns nt (nu + 1) na' es et eu 0 g h (b_p_readUnion_25 fuel t (some (dU S nu)) (nI i) g) (RU (b_m_unionBody_14 F) (nI nu) h) := by
  intro m
  induction m with
  | zero =>
    intro f i fuel F k na g h e f0 fi hF1 hF2 A
    obtain ⟨fu1, rfl, -⟩ := fuel_pos (show 0 < fuel by omega)
    obtain ⟨F1, rfl, -⟩ := fuel_pos (show 0 < F by omega)
    obtain ⟨F2, rfl, -⟩ := fuel_pos (show 0 < F1 by omega)
    have ST0 := A.1
    obtain ⟨P, K, kc', a5, a6, m13', m14'⟩ := A.1
    rcases e_m_isSign (x := 44) ST0 (by decide) with ⟨q1, q2⟩ | ⟨q1, q2⟩
    · obtain ⟨v, v1, v2, v3⟩ := e_p_adv ST0 (by rw [q1]; decide)
      have G : FRM m13 h (hsi h 1262 13 (nI (k + 1))) := FRM.refl.si (by simp [m13])
      rcases memberTurn (A.pos v2 v3 G) (by omega) with ⟨u, p, w1, w2, w3, w4, w5, w6⟩ | ⟨u, p, w1, w2, w3, w4, w5⟩
      · omega
      · refine ⟨na, Or.inr ⟨u, hsi p 1262 41 (hi p 1262 41 + 1), ?_, ?_, w3.up (by decide), (FC.tPq v3).trans w4, FRX.si (FRX.trans (FMx.q13 G) w5) (by simp [nM])⟩⟩
        · show s_p_readUnion_25 (b_p_readUnion_25 fu1) _ _ _ _ = _
          unfold s_p_readUnion_25
          exact o_pos P.tk (o_neg (not_not_intro (by rw [a6]; exact q1)) (o_neg (by (first | (simp (maxSteps := 4000000) (disch := omega) only [n_0, n_1, n_2, n_3, n_4, n_5, n_6, n_7, n_8, n_9, n_10, n_11, n_12, n_13, n_14, n_15, n_16, n_18, n_20, n_24, n_31, n_32, n_34, n_40, n_41, n_44, n_45, n_47, n_48, n_57, n_58, n_59, n_61, n_63, n_64, n_65, n_68, n_90, n_91, n_93, n_95, n_97, n_100, n_122, n_123, n_125, n_128, n_144, n_200, n_255, n_256, n_300, n_400, n_600, n_1536, n_3980, n_4000, n_4001, n_4300, n_65536, l_0, l_1, l_2, l_3, l_4, l_10, l_48, l_63, l_255, l_300, nI_ltI, nI_leI, nI_eq, nI_clamp, nI_add, pk_sub, pk_mul, nI_ne1, ne1_nI, nI_pge, nI_nlt0, nI_l, lN_i, lN_add, lN_mul, lN_sub, pk_lLT, pk_lLE, pk_lEQ, lg_lt, lg_ge, lg_eq0, lg_le, lg_gt, lg_ltn, lg_gen, lg_eq0n, lg_len, lg_gtn, Nat.zero_le, Nat.not_lt_zero, not_false_eq_true, not_true_eq_false, true_and, and_true]; done) | (simp (maxSteps := 4000000) (disch := omega) only [n_0, n_1, n_2, n_3, n_4, n_5, n_6, n_7, n_8, n_9, n_10, n_11, n_12, n_13, n_14, n_15, n_16, n_18, n_20, n_24, n_31, n_32, n_34, n_40, n_41, n_44, n_45, n_47, n_48, n_57, n_58, n_59, n_61, n_63, n_64, n_65, n_68, n_90, n_91, n_93, n_95, n_97, n_100, n_122, n_123, n_125, n_128, n_144, n_200, n_255, n_256, n_300, n_400, n_600, n_1536, n_3980, n_4000, n_4001, n_4300, n_65536, l_0, l_1, l_2, l_3, l_4, l_10, l_48, l_63, l_255, l_300, nI_ltI, nI_leI, nI_eq, nI_clamp, nI_add, pk_sub, pk_mul, nI_ne1, ne1_nI, nI_pge, nI_nlt0, nI_l, lN_i, lN_add, lN_mul, lN_sub, pk_lLT, pk_lLE, pk_lEQ, lg_lt, lg_ge, lg_eq0, lg_le, lg_gt, lg_ltn, lg_gen, lg_eq0n, lg_len, lg_gtn, Nat.zero_le, Nat.not_lt_zero, not_false_eq_true, not_true_eq_false, true_and, and_true]; omega) | omega)) (o_bind v1 (o_pos v2.1.tk (o_bind rfl (o_bind w1 (o_neg (not_not_intro rfl) rfl)))))))
        · unfold RU
          refine o_bind q2 (o_neg one0 (o_bind (e_m_take m14' m13') ?_))
          show s_m_unionBody_14 (b_m_unionBody_14 (F2 + 1)) _ _ _ = _
          rw [w2]
          exact nf_ru w3.2.2
    · have en := unionEnd A f0 (by omega)
      have c1 : b_p_readUnion_25 (fu1 + 1) t (some (dU S nu)) (nI i) g = b_p_readUnion_61 t g := by
        show s_p_readUnion_25 (b_p_readUnion_25 fu1) _ _ _ _ = _
        unfold s_p_readUnion_25
        exact o_pos P.tk (o_pos (by rw [a6]; exact q1) rfl)
      have c2 : RU (b_m_unionBody_14 (F2 + 1 + 1)) (nI nu) h = b_m_unionBody_116 h := by
        unfold RU
        refine o_bind q2 (o_pos rfl ?_)
        show s_m_unionBody_14 (b_m_unionBody_14 (F2 + 1)) _ _ _ = _
        unfold s_m_unionBody_14
        exact o_pos rfl rfl
      rw [c1, c2]
      exact ⟨na, en⟩
  | succ m ih =>
    intro f i fuel F k na g h e f0 fi hF1 hF2 A
    obtain ⟨fu1, rfl, -⟩ := fuel_pos (show 0 < fuel by omega)
    obtain ⟨F1, rfl, -⟩ := fuel_pos (show 0 < F by omega)
    obtain ⟨F2, rfl, -⟩ := fuel_pos (show 0 < F1 by omega)
    have ST0 := A.1
    obtain ⟨P, K, kc', a5, a6, m13', m14'⟩ := A.1
    rcases e_m_isSign (x := 44) ST0 (by decide) with ⟨q1, q2⟩ | ⟨q1, q2⟩
    · obtain ⟨v, v1, v2, v3⟩ := e_p_adv ST0 (by rw [q1]; decide)
      have G : FRM m13 h (hsi h 1262 13 (nI (k + 1))) := FRM.refl.si (by simp [m13])
      have mru : ∀ {X : Option (Unit × XH)}, s_m_unionBody_14 (b_m_unionBody_14 (F2 + 1)) (nI nu) 1 (hsi h 1262 13 (nI (k + 1))) = X → RU (b_m_unionBody_14 (F2 + 1 + 1)) (nI nu) h = X := fun r => by
        unfold RU
        exact o_bind q2 (o_neg one0 (o_bind (e_m_take m14' m13') r))
      rcases memberTurn (A.pos v2 v3 G) (by omega) with ⟨u, p, w1, w2, w3, w4, w5, w6⟩ | ⟨u, p, w1, w2, w3, w4, w5⟩
      · obtain ⟨na', r⟩ := ih (f + 1) (i + 1) fu1 (F2 + 1) (k + 1 + 1) (na + 1) u p (by omega) (by omega) (by omega) (by omega) (by omega) w3
        have c1 : b_p_readUnion_25 (fu1 + 1) t (some (dU S nu)) (nI i) g = b_p_readUnion_25 fu1 t (some (dU S nu)) (nI (i + 1)) u := by
          show s_p_readUnion_25 (b_p_readUnion_25 fu1) _ _ _ _ = _
          unfold s_p_readUnion_25
          refine o_pos P.tk (o_neg (not_not_intro (by rw [a6]; exact q1)) (o_neg (by (first | (simp (maxSteps := 4000000) (disch := omega) only [n_0, n_1, n_2, n_3, n_4, n_5, n_6, n_7, n_8, n_9, n_10, n_11, n_12, n_13, n_14, n_15, n_16, n_18, n_20, n_24, n_31, n_32, n_34, n_40, n_41, n_44, n_45, n_47, n_48, n_57, n_58, n_59, n_61, n_63, n_64, n_65, n_68, n_90, n_91, n_93, n_95, n_97, n_100, n_122, n_123, n_125, n_128, n_144, n_200, n_255, n_256, n_300, n_400, n_600, n_1536, n_3980, n_4000, n_4001, n_4300, n_65536, l_0, l_1, l_2, l_3, l_4, l_10, l_48, l_63, l_255, l_300, nI_ltI, nI_leI, nI_eq, nI_clamp, nI_add, pk_sub, pk_mul, nI_ne1, ne1_nI, nI_pge, nI_nlt0, nI_l, lN_i, lN_add, lN_mul, lN_sub, pk_lLT, pk_lLE, pk_lEQ, lg_lt, lg_ge, lg_eq0, lg_le, lg_gt, lg_ltn, lg_gen, lg_eq0n, lg_len, lg_gtn, Nat.zero_le, Nat.not_lt_zero, not_false_eq_true, not_true_eq_false, true_and, and_true]; done) | (simp (maxSteps := 4000000) (disch := omega) only [n_0, n_1, n_2, n_3, n_4, n_5, n_6, n_7, n_8, n_9, n_10, n_11, n_12, n_13, n_14, n_15, n_16, n_18, n_20, n_24, n_31, n_32, n_34, n_40, n_41, n_44, n_45, n_47, n_48, n_57, n_58, n_59, n_61, n_63, n_64, n_65, n_68, n_90, n_91, n_93, n_95, n_97, n_100, n_122, n_123, n_125, n_128, n_144, n_200, n_255, n_256, n_300, n_400, n_600, n_1536, n_3980, n_4000, n_4001, n_4300, n_65536, l_0, l_1, l_2, l_3, l_4, l_10, l_48, l_63, l_255, l_300, nI_ltI, nI_leI, nI_eq, nI_clamp, nI_add, pk_sub, pk_mul, nI_ne1, ne1_nI, nI_pge, nI_nlt0, nI_l, lN_i, lN_add, lN_mul, lN_sub, pk_lLT, pk_lLE, pk_lEQ, lg_lt, lg_ge, lg_eq0, lg_le, lg_gt, lg_ltn, lg_gen, lg_eq0n, lg_len, lg_gtn, Nat.zero_le, Nat.not_lt_zero, not_false_eq_true, not_true_eq_false, true_and, and_true]; omega) | omega)) (o_bind v1 (o_pos v2.1.tk (o_bind rfl (o_bind w1 (o_pos one0 ?_)))))))
          rw [n_1, nI_add]
        rw [c1, mru (w2 _)]
        exact ⟨na', r.pre ((FC.tPq v3).trans w5) (FRX.trans (FMx.q13 G) w6)⟩
      · refine ⟨na, Or.inr ⟨u, hsi p 1262 41 (hi p 1262 41 + 1), ?_, mru ?_, w3.up (by decide), (FC.tPq v3).trans w4, FRX.si (FRX.trans (FMx.q13 G) w5) (by simp [nM])⟩⟩
        · show s_p_readUnion_25 (b_p_readUnion_25 fu1) _ _ _ _ = _
          unfold s_p_readUnion_25
          exact o_pos P.tk (o_neg (not_not_intro (by rw [a6]; exact q1)) (o_neg (by (first | (simp (maxSteps := 4000000) (disch := omega) only [n_0, n_1, n_2, n_3, n_4, n_5, n_6, n_7, n_8, n_9, n_10, n_11, n_12, n_13, n_14, n_15, n_16, n_18, n_20, n_24, n_31, n_32, n_34, n_40, n_41, n_44, n_45, n_47, n_48, n_57, n_58, n_59, n_61, n_63, n_64, n_65, n_68, n_90, n_91, n_93, n_95, n_97, n_100, n_122, n_123, n_125, n_128, n_144, n_200, n_255, n_256, n_300, n_400, n_600, n_1536, n_3980, n_4000, n_4001, n_4300, n_65536, l_0, l_1, l_2, l_3, l_4, l_10, l_48, l_63, l_255, l_300, nI_ltI, nI_leI, nI_eq, nI_clamp, nI_add, pk_sub, pk_mul, nI_ne1, ne1_nI, nI_pge, nI_nlt0, nI_l, lN_i, lN_add, lN_mul, lN_sub, pk_lLT, pk_lLE, pk_lEQ, lg_lt, lg_ge, lg_eq0, lg_le, lg_gt, lg_ltn, lg_gen, lg_eq0n, lg_len, lg_gtn, Nat.zero_le, Nat.not_lt_zero, not_false_eq_true, not_true_eq_false, true_and, and_true]; done) | (simp (maxSteps := 4000000) (disch := omega) only [n_0, n_1, n_2, n_3, n_4, n_5, n_6, n_7, n_8, n_9, n_10, n_11, n_12, n_13, n_14, n_15, n_16, n_18, n_20, n_24, n_31, n_32, n_34, n_40, n_41, n_44, n_45, n_47, n_48, n_57, n_58, n_59, n_61, n_63, n_64, n_65, n_68, n_90, n_91, n_93, n_95, n_97, n_100, n_122, n_123, n_125, n_128, n_144, n_200, n_255, n_256, n_300, n_400, n_600, n_1536, n_3980, n_4000, n_4001, n_4300, n_65536, l_0, l_1, l_2, l_3, l_4, l_10, l_48, l_63, l_255, l_300, nI_ltI, nI_leI, nI_eq, nI_clamp, nI_add, pk_sub, pk_mul, nI_ne1, ne1_nI, nI_pge, nI_nlt0, nI_l, lN_i, lN_add, lN_mul, lN_sub, pk_lLT, pk_lLE, pk_lEQ, lg_lt, lg_ge, lg_eq0, lg_le, lg_gt, lg_ltn, lg_gen, lg_eq0n, lg_len, lg_gtn, Nat.zero_le, Nat.not_lt_zero, not_false_eq_true, not_true_eq_false, true_and, and_true]; omega) | omega)) (o_bind v1 (o_pos v2.1.tk (o_bind rfl (o_bind w1 (o_neg (not_not_intro rfl) rfl)))))))
        · rw [w2]
          exact nf_ru w3.2.2
    · have en := unionEnd A f0 (by omega)
      have c1 : b_p_readUnion_25 (fu1 + 1) t (some (dU S nu)) (nI i) g = b_p_readUnion_61 t g := by
        show s_p_readUnion_25 (b_p_readUnion_25 fu1) _ _ _ _ = _
        unfold s_p_readUnion_25
        exact o_pos P.tk (o_pos (by rw [a6]; exact q1) rfl)
      have c2 : RU (b_m_unionBody_14 (F2 + 1 + 1)) (nI nu) h = b_m_unionBody_116 h := by
        unfold RU
        refine o_bind q2 (o_pos rfl ?_)
        show s_m_unionBody_14 (b_m_unionBody_14 (F2 + 1)) _ _ _ = _
        unfold s_m_unionBody_14
        exact o_pos rfl rfl
      rw [c1, c2]
      exact ⟨na, en⟩
/-- a union behind its name -/
theorem union2 (A : ST T n c g h t S k) (B : BG T n c S t nd ns 0 nt 0 nu 0 na es et eu 0 g h) (N : CN S t nd ns nt nu na es et eu g h) (Lh : LY h) (heu : eu = nu + 1) (e : hi g (dU S nu) 3 = 0) : ∃ na', OUT T n c S t nd ns nt (nu + 1) na' es et eu 0 g h (f_p_readUnion t (some (dU S nu)) g) (Option.bind (f_m_sign 123 h) fun r5 => Option.bind (f_m_unionBody r5.2) fun r16 => some ((), r16.2)) := by
  have n8 : nu < 8 := by have := B.2.2.2.2.2.2.2.2.2.2.2; omega
  have t17 := A.1.2.1
  have S1 := A.1.2.2.2.1
  have n41 : hi h 1262 41 = nI nu := N.2.2.2.2.2.2.2.1
  have bd : ∀ {p q : XH} {X : Option (Unit × XH)}, hi p 1262 41 = nI nu → q = hsi p 1292 nu 0 → b_m_unionBody_14 100000 (nI nu) 1 q = X → f_m_unionBody p = X := by
    intro p q X r1 r2 r3
    unfold f_m_unionBody
    rw [r1, nI_clamp (show nu < 2 ^ 31 by omega), ← r2]
    exact o_pos (by (first | (simp (maxSteps := 4000000) (disch := omega) only [n_0, n_1, n_2, n_3, n_4, n_5, n_6, n_7, n_8, n_9, n_10, n_11, n_12, n_13, n_14, n_15, n_16, n_18, n_20, n_24, n_31, n_32, n_34, n_40, n_41, n_44, n_45, n_47, n_48, n_57, n_58, n_59, n_61, n_63, n_64, n_65, n_68, n_90, n_91, n_93, n_95, n_97, n_100, n_122, n_123, n_125, n_128, n_144, n_200, n_255, n_256, n_300, n_400, n_600, n_1536, n_3980, n_4000, n_4001, n_4300, n_65536, l_0, l_1, l_2, l_3, l_4, l_10, l_48, l_63, l_255, l_300, nI_ltI, nI_leI, nI_eq, nI_clamp, nI_add, pk_sub, pk_mul, nI_ne1, ne1_nI, nI_pge, nI_nlt0, nI_l, lN_i, lN_add, lN_mul, lN_sub, pk_lLT, pk_lLE, pk_lEQ, lg_lt, lg_ge, lg_eq0, lg_le, lg_gt, lg_ltn, lg_gen, lg_eq0n, lg_len, lg_gtn, Nat.zero_le, Nat.not_lt_zero, not_false_eq_true, not_true_eq_false, true_and, and_true]; done) | (simp (maxSteps := 4000000) (disch := omega) only [n_0, n_1, n_2, n_3, n_4, n_5, n_6, n_7, n_8, n_9, n_10, n_11, n_12, n_13, n_14, n_15, n_16, n_18, n_20, n_24, n_31, n_32, n_34, n_40, n_41, n_44, n_45, n_47, n_48, n_57, n_58, n_59, n_61, n_63, n_64, n_65, n_68, n_90, n_91, n_93, n_95, n_97, n_100, n_122, n_123, n_125, n_128, n_144, n_200, n_255, n_256, n_300, n_400, n_600, n_1536, n_3980, n_4000, n_4001, n_4300, n_65536, l_0, l_1, l_2, l_3, l_4, l_10, l_48, l_63, l_255, l_300, nI_ltI, nI_leI, nI_eq, nI_clamp, nI_add, pk_sub, pk_mul, nI_ne1, ne1_nI, nI_pge, nI_nlt0, nI_l, lN_i, lN_add, lN_mul, lN_sub, pk_lLT, pk_lLE, pk_lEQ, lg_lt, lg_ge, lg_eq0, lg_le, lg_gt, lg_ltn, lg_gen, lg_eq0n, lg_len, lg_gtn, Nat.zero_le, Nat.not_lt_zero, not_false_eq_true, not_true_eq_false, true_and, and_true]; omega) | omega)) r3
  rcases exp2 (x := 123) A (by decide) with ⟨u, p, x1, x2, x3, x4, x5⟩ | ⟨u, p, x1, x2, x3, x4, x5⟩
  · obtain ⟨q, eq⟩ : ∃ q, q = hsi p 1292 nu 0 := ⟨_, rfl⟩
    have m41 : hi p 1262 41 = nI nu := by rw [x5.at (by simp [m13])]; exact n41
    have F1 : FRX (bUP S t nu 0) (bUJ S nu 0) (bUW t na) g u := x4.x (fun a k z => by unfold tP at z; unfold bUP; omega) (fun k => Or.inl rfl)
    have G1 : FRX (bUM nu 0 na) sJ nW h q := by
      rw [eq]
      exact (x5.x (P2 := bUM nu 0 na) (J2 := sJ) (W2 := nW) (fun a k z => by unfold m13 at z; unfold bUM; omega) (fun k => rfl)).si (by simp [bUM])
    have Gx : FRX xM nJ nW p q := by rw [eq]; exact FRX.refl.si (by simp [xM])
    have dr : S + 519 ≤ dU S nu ∧ dU S nu + 12 ≤ S + 615 := by unfold dU; omega
    have B1 := B.fr A.1.1 t17 (F1.mono (fun a k z => bUP_y n8 (by omega) z) (fun a k z => bUJ_y n8 (by omega) z) (fun _ _ z => Or.inr z)) (G1.mono (fun a k z => bUM_z z) (fun a k z => sJ_z z) (fun _ _ z => z))
    have N1 : CN S t nd ns nt nu na es et eu u q := by
      have N0 := N.pos S1 t17 x4 x5
      rw [eq]
      exact N0.fr (FRX.refl (P := nW) (J := nW) (W := nW)) (FRX.si (P := fun a _ => a = 1292) (J := nW) (W := nW) FRX.refl rfl) ⟨id, id, id, id, id⟩ ⟨by decide, by decide, by decide, by decide, by decide⟩
    have FC1 : FC S t g u := FC.tPq x4
    have FM1 : FMx h q := G1.mono (fun a k z => zP_m (bUM_z (nd := nd) (ns := ns) (nt := nt) z)) (fun a k z => Or.inl z) (fun _ _ z => z)
    have UB0 : UB T n c S t nd ns nt nu na es et eu (k + 1) 0 u q := ⟨x3.con FRX.refl Gx, B1, N1, FM1.ly Lh, by rw [x4.at (by unfold tP; omega), e]; rfl, by rw [eq, hi_at]; rfl, heu⟩
    have cm : ∀ {X : Option (Unit × XH)}, s_m_unionBody_14 (b_m_unionBody_14 99999) (nI nu) 1 q = X → (∃ p', X = some ((), p')) → (Option.bind (f_m_sign 123 h) fun r5 => Option.bind (f_m_unionBody r5.2) fun r16 => some ((), r16.2)) = X := by
      intro X r1 ⟨p', r2⟩
      refine o_bind x2 ?_
      rw [r2] at r1
      rw [r2]
      exact o_bind (bd m41 eq r1) rfl
    rcases memberTurn UB0 (by omega) with ⟨u2, p2, w1, w2, w3, w4, w5, w6⟩ | ⟨u2, p2, w1, w2, w3, w4, w5⟩
    · obtain ⟨na', r⟩ := unionLoop 7 1 0 100000 99999 (k + 1 + 1) (na + 1) u2 p2 (by omega) (by omega) (by omega) (by omega) (by omega) w3
      have c1 : f_p_readUnion t (some (dU S nu)) g = b_p_readUnion_25 100000 t (some (dU S nu)) (nI 0) u2 := by
        unfold f_p_readUnion
        exact o_elim (o_pos A.1.tk (o_bind x1 (o_neg one0 (o_pos x3.1.tk (o_bind w1 (o_pos one0 rfl))))))
      rw [c1]
      refine ⟨na', ?_⟩
      rcases r with ⟨u', p', k'', r1, r2, r3, r4, r5, r6, r7, r8⟩ | ⟨u', p', r1, r2, r3, r4, r5⟩
      · exact Or.inl ⟨u', p', k'', r1, cm ((w2 _).trans r2) ⟨_, rfl⟩, r3, r4, r5, r6, FC1.trans (w5.trans r7), FRX.trans FM1 (FRX.trans w6 r8)⟩
      · exact Or.inr ⟨u', p', r1, cm ((w2 _).trans r2) ⟨_, rfl⟩, r3, FC1.trans (w5.trans r4), FRX.trans FM1 (FRX.trans w6 r5)⟩
    · refine ⟨na, Or.inr ⟨u2, hsi p2 1262 41 (hi p2 1262 41 + 1), ?_, cm ((w2 _).trans (nf_ru w3.2.2)) ⟨_, rfl⟩, w3.up (by decide), FC1.trans w4, FRX.si (FRX.trans FM1 w5) (by simp [nM])⟩⟩
      unfold f_p_readUnion
      exact o_elim (o_pos A.1.tk (o_bind x1 (o_neg one0 (o_pos x3.1.tk (o_bind w1 (o_neg (not_not_intro rfl) rfl))))))
  · have m41 : hi p 1262 41 = nI nu := by rw [x5.at (by simp [m14])]; exact n41
    obtain ⟨q, eq⟩ : ∃ q, q = hsi p 1292 nu 0 := ⟨_, rfl⟩
    have q62 : hi q 1262 = hi p 1262 := by rw [eq, hi_hsi_ne (by decide)]
    have fq : FLT u q t := by unfold FLT; rw [q62]; exact x3
    have G1 : FMx h q := by
      rw [eq]
      exact FRX.si (FMx.q14 x5) (by simp [nM])
    refine ⟨na, Or.inr ⟨u, hsi q 1262 41 (hi q 1262 41 + 1), ?_, o_bind x2 (o_bind (bd m41 eq (nf_ub14 fq.2.2)) rfl), fq.up (by decide), FC.tFq x4, FRX.si G1 (by simp [nM])⟩⟩
    unfold f_p_readUnion
    exact o_elim (o_pos A.1.tk (o_bind x1 (o_pos rfl rfl)))
end Ul
