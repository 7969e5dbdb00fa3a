/-! The parsers: a struct whole -/

section Sl
variable {zS aS mS : Nat → Nat} {lS pS : Nat → Nat → Nat} {T : Nat → Nat} {n c S t nd ns nt nu na es et eu lo k : Nat} {g h : XH}
theorem structLoop : ∀ (m f i fuel F k : Nat) (so o : Nat → Nat) (g h : XH), f + m = 12 → 1 ≤ f → i + 1 ≤ f → m + 2 ≤ fuel → m + 2 ≤ F → SB T n c S t nd ns nt nu na es et eu lo k f so o zS aS mS lS pS g h → OUT T n c S t nd (ns + 1) nt nu na es et eu lo g h (b_p_readStruct_30 fuel t (some (dS S ns)) (nI i) g) (b_m_structBody_131 (b_m_structBody_35 F) (nI ns) h) := by
  intro m
  induction m with
  | zero =>
    intro f i fuel F k so o g h e f0 fi hF1 hF2 A
    obtain ⟨fu1, rfl, -⟩ := fuel_pos (show 0 < fuel by omega)
    obtain ⟨F1, rfl, -⟩ := fuel_pos (show 0 < F by omega)
    obtain ⟨F2, rfl, -⟩ := fuel_pos (show 0 < F1 by omega)
    have ST0 := A.1
    obtain ⟨P, K, kc', a5, a6, m13', m14'⟩ := A.1
    have f12 : f = 12 := by omega
    rcases e_m_isSign (x := 125) ST0 (by decide) with ⟨q1, q2⟩ | ⟨q1, q2⟩
    · have en := structEnd A (by omega) f0 q1
      have c1 : b_p_readStruct_30 (fu1 + 1) t (some (dS S ns)) (nI i) g = b_p_readStruct_67 t (some (dS S ns)) g := by
        show s_p_readStruct_30 (b_p_readStruct_30 fu1) _ _ _ _ = _
        unfold s_p_readStruct_30
        exact o_pos P.tk (o_pos (by rw [a6]; exact q1) rfl)
      have c2 : b_m_structBody_131 (b_m_structBody_35 (F2 + 1 + 1)) (nI ns) h = b_m_structBody_149 (nI ns) h := by
        unfold b_m_structBody_131 b_m_structBody_145
        refine o_bind q2 (o_pos one0 ?_)
        show s_m_structBody_35 (b_m_structBody_35 (F2 + 1)) _ _ _ = _
        unfold s_m_structBody_35
        exact o_pos rfl rfl
      rw [c1, c2]
      exact en
    · rcases structTurn A (by omega) with ⟨u, p, k', so', o', x, u1, w1, w2, w3, w4, w5, w6, w7, w8⟩ | ⟨u, p, x, u1, w1, w2, w3, w4, w5, w6, w7⟩
      · omega
      · refine Or.inr ⟨u, hsi p 1262 20 (hi p 1262 20 + 1), ?_, ?_, w5.up (by decide), w6, FRX.si w7 (by simp [nM])⟩
        · show s_p_readStruct_30 (b_p_readStruct_30 fu1) _ _ _ _ = _
          unfold s_p_readStruct_30
          exact o_pos P.tk (o_neg (by rw [a6]; exact q1) (o_neg (by (first | (simp (maxSteps := 4000000) (disch := omega) only [n_0, n_1, n_2, n_3, n_4, n_5, n_6, n_7, n_8, n_9, n_10, n_11, n_12, n_13, n_14, n_15, n_16, n_18, n_20, n_24, n_31, n_32, n_34, n_40, n_41, n_44, n_45, n_47, n_48, n_57, n_58, n_59, n_61, n_63, n_64, n_65, n_68, n_90, n_91, n_93, n_95, n_97, n_100, n_122, n_123, n_125, n_128, n_144, n_200, n_255, n_256, n_300, n_400, n_600, n_1536, n_3980, n_4000, n_4001, n_4300, n_65536, l_0, l_1, l_2, l_3, l_4, l_10, l_48, l_63, l_255, l_300, nI_ltI, nI_leI, nI_eq, nI_clamp, nI_add, pk_sub, pk_mul, nI_ne1, ne1_nI, nI_pge, nI_nlt0, nI_l, lN_i, lN_add, lN_mul, lN_sub, pk_lLT, pk_lLE, pk_lEQ, lg_lt, lg_ge, lg_eq0, lg_le, lg_gt, lg_ltn, lg_gen, lg_eq0n, lg_len, lg_gtn, Nat.zero_le, Nat.not_lt_zero, not_false_eq_true, not_true_eq_false, true_and, and_true]; done) | (simp (maxSteps := 4000000) (disch := omega) only [n_0, n_1, n_2, n_3, n_4, n_5, n_6, n_7, n_8, n_9, n_10, n_11, n_12, n_13, n_14, n_15, n_16, n_18, n_20, n_24, n_31, n_32, n_34, n_40, n_41, n_44, n_45, n_47, n_48, n_57, n_58, n_59, n_61, n_63, n_64, n_65, n_68, n_90, n_91, n_93, n_95, n_97, n_100, n_122, n_123, n_125, n_128, n_144, n_200, n_255, n_256, n_300, n_400, n_600, n_1536, n_3980, n_4000, n_4001, n_4300, n_65536, l_0, l_1, l_2, l_3, l_4, l_10, l_48, l_63, l_255, l_300, nI_ltI, nI_leI, nI_eq, nI_clamp, nI_add, pk_sub, pk_mul, nI_ne1, ne1_nI, nI_pge, nI_nlt0, nI_l, lN_i, lN_add, lN_mul, lN_sub, pk_lLT, pk_lLE, pk_lEQ, lg_lt, lg_ge, lg_eq0, lg_le, lg_gt, lg_ltn, lg_gen, lg_eq0n, lg_len, lg_gtn, Nat.zero_le, Nat.not_lt_zero, not_false_eq_true, not_true_eq_false, true_and, and_true]; omega) | omega)) (o_bind rfl (o_bind w1 (o_pos w2 (o_bind w3 (o_neg (not_not_intro rfl) rfl)))))))
        · unfold b_m_structBody_131 b_m_structBody_145
          refine o_bind q2 (o_neg (not_not_intro rfl) ?_)
          show s_m_structBody_35 (b_m_structBody_35 (F2 + 1)) _ _ _ = _
          rw [w4]
          exact nf_sb131 w5.2.2
  | succ m ih =>
    intro f i fuel F k so o g h e f0 fi hF1 hF2 A
    obtain ⟨fu1, rfl, -⟩ := fuel_pos (show 0 < fuel by omega)
    obtain ⟨F1, rfl, -⟩ := fuel_pos (show 0 < F by omega)
    obtain ⟨F2, rfl, -⟩ := fuel_pos (show 0 < F1 by omega)
    have ST0 := A.1
    obtain ⟨P, K, kc', a5, a6, m13', m14'⟩ := A.1
    rcases e_m_isSign (x := 125) ST0 (by decide) with ⟨q1, q2⟩ | ⟨q1, q2⟩
    · have en := structEnd A (by omega) f0 q1
      have c1 : b_p_readStruct_30 (fu1 + 1) t (some (dS S ns)) (nI i) g = b_p_readStruct_67 t (some (dS S ns)) g := by
        show s_p_readStruct_30 (b_p_readStruct_30 fu1) _ _ _ _ = _
        unfold s_p_readStruct_30
        exact o_pos P.tk (o_pos (by rw [a6]; exact q1) rfl)
      have c2 : b_m_structBody_131 (b_m_structBody_35 (F2 + 1 + 1)) (nI ns) h = b_m_structBody_149 (nI ns) h := by
        unfold b_m_structBody_131 b_m_structBody_145
        refine o_bind q2 (o_pos one0 ?_)
        show s_m_structBody_35 (b_m_structBody_35 (F2 + 1)) _ _ _ = _
        unfold s_m_structBody_35
        exact o_pos rfl rfl
      rw [c1, c2]
      exact en
    · have m131 : ∀ {X : Option (Unit × XH)}, s_m_structBody_35 (b_m_structBody_35 (F2 + 1)) (nI ns) 1 h = X → b_m_structBody_131 (b_m_structBody_35 (F2 + 1 + 1)) (nI ns) h = X := fun r => by
        unfold b_m_structBody_131 b_m_structBody_145
        exact o_bind q2 (o_neg (not_not_intro rfl) r)
      rcases structTurn A (by omega) with ⟨u, p, k', so', o', x, u1, w1, w2, w3, w4, w5, w6, w7, w8⟩ | ⟨u, p, x, u1, w1, w2, w3, w4, w5, w6, w7⟩
      · have r := ih (f + 1) (i + 1) fu1 (F2 + 1) k' so' o' u p (by omega) (by omega) (by omega) (by omega) (by omega) w5
        have c1 : b_p_readStruct_30 (fu1 + 1) t (some (dS S ns)) (nI i) g = b_p_readStruct_30 fu1 t (some (dS S ns)) (nI (i + 1)) u := by
          show s_p_readStruct_30 (b_p_readStruct_30 fu1) _ _ _ _ = _
          unfold s_p_readStruct_30
          refine o_pos P.tk (o_neg (by rw [a6]; exact q1) (o_neg (by (first | (simp (maxSteps := 4000000) (disch := omega) only [n_0, n_1, n_2, n_3, n_4, n_5, n_6, n_7, n_8, n_9, n_10, n_11, n_12, n_13, n_14, n_15, n_16, n_18, n_20, n_24, n_31, n_32, n_34, n_40, n_41, n_44, n_45, n_47, n_48, n_57, n_58, n_59, n_61, n_63, n_64, n_65, n_68, n_90, n_91, n_93, n_95, n_97, n_100, n_122, n_123, n_125, n_128, n_144, n_200, n_255, n_256, n_300, n_400, n_600, n_1536, n_3980, n_4000, n_4001, n_4300, n_65536, l_0, l_1, l_2, l_3, l_4, l_10, l_48, l_63, l_255, l_300, nI_ltI, nI_leI, nI_eq, nI_clamp, nI_add, pk_sub, pk_mul, nI_ne1, ne1_nI, nI_pge, nI_nlt0, nI_l, lN_i, lN_add, lN_mul, lN_sub, pk_lLT, pk_lLE, pk_lEQ, lg_lt, lg_ge, lg_eq0, lg_le, lg_gt, lg_ltn, lg_gen, lg_eq0n, lg_len, lg_gtn, Nat.zero_le, Nat.not_lt_zero, not_false_eq_true, not_true_eq_false, true_and, and_true]; done) | (simp (maxSteps := 4000000) (disch := omega) only [n_0, n_1, n_2, n_3, n_4, n_5, n_6, n_7, n_8, n_9, n_10, n_11, n_12, n_13, n_14, n_15, n_16, n_18, n_20, n_24, n_31, n_32, n_34, n_40, n_41, n_44, n_45, n_47, n_48, n_57, n_58, n_59, n_61, n_63, n_64, n_65, n_68, n_90, n_91, n_93, n_95, n_97, n_100, n_122, n_123, n_125, n_128, n_144, n_200, n_255, n_256, n_300, n_400, n_600, n_1536, n_3980, n_4000, n_4001, n_4300, n_65536, l_0, l_1, l_2, l_3, l_4, l_10, l_48, l_63, l_255, l_300, nI_ltI, nI_leI, nI_eq, nI_clamp, nI_add, pk_sub, pk_mul, nI_ne1, ne1_nI, nI_pge, nI_nlt0, nI_l, lN_i, lN_add, lN_mul, lN_sub, pk_lLT, pk_lLE, pk_lEQ, lg_lt, lg_ge, lg_eq0, lg_le, lg_gt, lg_ltn, lg_gen, lg_eq0n, lg_len, lg_gtn, Nat.zero_le, Nat.not_lt_zero, not_false_eq_true, not_true_eq_false, true_and, and_true]; omega) | omega)) (o_bind rfl (o_bind w1 (o_pos w2 (o_bind w3 (o_pos one0 ?_)))))))
          rw [n_1, nI_add]
        rw [c1, m131 (w4 _)]
        exact r.pre w7 w8
      · refine Or.inr ⟨u, hsi p 1262 20 (hi p 1262 20 + 1), ?_, m131 ?_, w5.up (by decide), w6, FRX.si w7 (by simp [nM])⟩
        · show s_p_readStruct_30 (b_p_readStruct_30 fu1) _ _ _ _ = _
          unfold s_p_readStruct_30
          exact o_pos P.tk (o_neg (by rw [a6]; exact q1) (o_neg (by (first | (simp (maxSteps := 4000000) (disch := omega) only [n_0, n_1, n_2, n_3, n_4, n_5, n_6, n_7, n_8, n_9, n_10, n_11, n_12, n_13, n_14, n_15, n_16, n_18, n_20, n_24, n_31, n_32, n_34, n_40, n_41, n_44, n_45, n_47, n_48, n_57, n_58, n_59, n_61, n_63, n_64, n_65, n_68, n_90, n_91, n_93, n_95, n_97, n_100, n_122, n_123, n_125, n_128, n_144, n_200, n_255, n_256, n_300, n_400, n_600, n_1536, n_3980, n_4000, n_4001, n_4300, n_65536, l_0, l_1, l_2, l_3, l_4, l_10, l_48, l_63, l_255, l_300, nI_ltI, nI_leI, nI_eq, nI_clamp, nI_add, pk_sub, pk_mul, nI_ne1, ne1_nI, nI_pge, nI_nlt0, nI_l, lN_i, lN_add, lN_mul, lN_sub, pk_lLT, pk_lLE, pk_lEQ, lg_lt, lg_ge, lg_eq0, lg_le, lg_gt, lg_ltn, lg_gen, lg_eq0n, lg_len, lg_gtn, Nat.zero_le, Nat.not_lt_zero, not_false_eq_true, not_true_eq_false, true_and, and_true]; done) | (simp (maxSteps := 4000000) (disch := omega) only [n_0, n_1, n_2, n_3, n_4, n_5, n_6, n_7, n_8, n_9, n_10, n_11, n_12, n_13, n_14, n_15, n_16, n_18, n_20, n_24, n_31, n_32, n_34, n_40, n_41, n_44, n_45, n_47, n_48, n_57, n_58, n_59, n_61, n_63, n_64, n_65, n_68, n_90, n_91, n_93, n_95, n_97, n_100, n_122, n_123, n_125, n_128, n_144, n_200, n_255, n_256, n_300, n_400, n_600, n_1536, n_3980, n_4000, n_4001, n_4300, n_65536, l_0, l_1, l_2, l_3, l_4, l_10, l_48, l_63, l_255, l_300, nI_ltI, nI_leI, nI_eq, nI_clamp, nI_add, pk_sub, pk_mul, nI_ne1, ne1_nI, nI_pge, nI_nlt0, nI_l, lN_i, lN_add, lN_mul, lN_sub, pk_lLT, pk_lLE, pk_lEQ, lg_lt, lg_ge, lg_eq0, lg_le, lg_gt, lg_ltn, lg_gen, lg_eq0n, lg_len, lg_gtn, Nat.zero_le, Nat.not_lt_zero, not_false_eq_true, not_true_eq_false, true_and, and_true]; omega) | omega)) (o_bind rfl (o_bind w1 (o_pos w2 (o_bind w3 (o_neg (not_not_intro rfl) rfl)))))))
        · rw [w4]
          exact nf_sb131 w5.2.2
theorem BG.old {fs ft fu : Nat} (A : BG T n c S t nd ns fs nt ft nu fu na es et eu lo g h) : ∃ (zS aS mS : Nat → Nat) (lS pS : Nat → Nat → Nat), OLP ns zS aS mS lS pS ∧ OLC S ns zS aS mS lS pS g ∧ OLM ns zS aS mS lS pS h := by
  have key : ∀ s, s < ns → ∃ (z al m : Nat) (lo lp : Nat → Nat), (hi h 1274 s).toNatClampNeg = z ∧ (hi h 1275 s).toNatClampNeg = al ∧ (hi h 1280 s).toNatClampNeg = m ∧ (∀ k, k < m → (hi h 1281 (128 * s + k)).toNatClampNeg = lo k ∧ (hi h 1282 (128 * s + k)).toNatClampNeg = lp k) ∧ (hi g (dS S s) 6 = nI z ∧ hi g (dS S s) 7 = nI al ∧ hi g (dS S s) 11 = nI m) ∧ (hi h 1274 s = nI z ∧ hi h 1275 s = nI al ∧ hi h 1280 s = nI m) ∧ (∀ k, k < m → (hi g (dS S s + 2 + 12) k = nI (lo k) ∧ hi g (dS S s + 3 + 12) k = nI (lp k)) ∧ (hi h 1281 (128 * s + k) = nI (lo k) ∧ hi h 1282 (128 * s + k) = nI (lp k)) ∧ lo k < 11 ∧ lp k + bO (lo k) ≤ z) ∧ (∀ k, k + 1 < m → lp k + bO (lo k) ≤ lp (k + 1)) ∧ (1 ≤ z ∧ z ≤ 128 ∧ (al = 1 ∨ al = 2 ∨ al = 4 ∨ al = 8) ∧ 1 ≤ m ∧ m ≤ z) := by
    intro s hs
    obtain ⟨n, z, al, m, so, o, pl, lo, lp, c1, c2, c3, c4, c5, c6⟩ := A.2.2.2.1 s hs
    refine ⟨z, al, m, lo, lp, by rw [c2.2.1]; exact nI_clamp (by omega), by rw [c2.2.2.1]; exact nI_clamp (by omega), by rw [c2.2.2.2]; exact nI_clamp (by omega), fun k hk' => ?_, c1.2, c2.2, c4, c5, c6.2.2⟩
    obtain ⟨d1, d2, d3, d4⟩ := c4 k hk'
    rw [d2.1, d2.2]
    exact ⟨nI_clamp (by omega), nI_clamp (by omega)⟩
  refine ⟨fun s => (hi h 1274 s).toNatClampNeg, fun s => (hi h 1275 s).toNatClampNeg, fun s => (hi h 1280 s).toNatClampNeg, fun s k => (hi h 1281 (128 * s + k)).toNatClampNeg, fun s k => (hi h 1282 (128 * s + k)).toNatClampNeg, fun s hs => ?_, fun s hs => ?_, fun s hs => ?_⟩
  · obtain ⟨z, al, m, lo', lp, e1, e2, e3, e4, f1, f2, f3, f4, f5⟩ := key s hs
    simp only [e1, e2, e3]
    refine ⟨fun k hk' => ?_, fun k hk' => ?_, f5⟩
    · rw [(e4 k hk').1, (e4 k hk').2]; exact (f3 k hk').2.2
    · rw [(e4 k (by omega)).1, (e4 k (by omega)).2, (e4 (k + 1) hk').2]; exact f4 k hk'
  · obtain ⟨z, al, m, lo', lp, e1, e2, e3, e4, f1, f2, f3, f4, f5⟩ := key s hs
    simp only [e1, e2, e3]
    refine ⟨f1, fun k hk' => ?_⟩
    rw [(e4 k hk').1, (e4 k hk').2]
    exact (f3 k hk').1
  · obtain ⟨z, al, m, lo', lp, e1, e2, e3, e4, f1, f2, f3, f4, f5⟩ := key s hs
    simp only [e1, e2, e3]
    refine ⟨f2, fun k hk' => ?_⟩
    rw [(e4 k hk').1, (e4 k hk').2]
    exact (f3 k hk').2.1
/-- a struct behind its name -/
theorem struct2 (A : ST T n c g h t S k) (B : BG T n c S t nd ns 0 nt 0 nu 0 na es et eu lo g h) (N : CN S t nd ns nt nu na es et eu g h) (Lh : LY h) (hes : es = ns + 1) (e : hi g (dS S ns) 3 = 0 ∧ hi g (dS S ns) 6 = 0 ∧ hi g (dS S ns) 7 = 1 ∧ hi g (dS S ns) 11 = 0) : OUT T n c S t nd (ns + 1) nt nu na es et eu lo g h (f_p_readStruct t (some (dS S ns)) g) (Option.bind (f_m_sign 123 h) fun r5 => Option.bind (f_m_structBody r5.2) fun r16 => some ((), r16.2)) := by
  have n12 : ns < 12 := by have := B.2.2.2.2.2.2.2.2.2.2.2; omega
  have t17 := A.1.2.1
  have S1 := A.1.2.2.2.1
  have n20 : hi h 1262 20 = nI ns := N.2.2.2.2.2.1
  have bd : ∀ {p q : XH} {X : Option (Unit × XH)}, hi p 1262 20 = nI ns → q = hsi (hsi (hsi (hsi p 1273 ns 0) 1274 ns 0) 1275 ns 1) 1280 ns 0 → b_m_structBody_35 100000 (nI ns) 1 q = X → f_m_structBody p = X := by
    intro p q X r1 r2 r3
    unfold f_m_structBody
    rw [r1, nI_clamp (show ns < 2 ^ 31 by omega), ← r2]
    exact o_pos (by (first | (simp (maxSteps := 4000000) (disch := omega) only [n_0, n_1, n_2, n_3, n_4, n_5, n_6, n_7, n_8, n_9, n_10, n_11, n_12, n_13, n_14, n_15, n_16, n_18, n_20, n_24, n_31, n_32, n_34, n_40, n_41, n_44, n_45, n_47, n_48, n_57, n_58, n_59, n_61, n_63, n_64, n_65, n_68, n_90, n_91, n_93, n_95, n_97, n_100, n_122, n_123, n_125, n_128, n_144, n_200, n_255, n_256, n_300, n_400, n_600, n_1536, n_3980, n_4000, n_4001, n_4300, n_65536, l_0, l_1, l_2, l_3, l_4, l_10, l_48, l_63, l_255, l_300, nI_ltI, nI_leI, nI_eq, nI_clamp, nI_add, pk_sub, pk_mul, nI_ne1, ne1_nI, nI_pge, nI_nlt0, nI_l, lN_i, lN_add, lN_mul, lN_sub, pk_lLT, pk_lLE, pk_lEQ, lg_lt, lg_ge, lg_eq0, lg_le, lg_gt, lg_ltn, lg_gen, lg_eq0n, lg_len, lg_gtn, Nat.zero_le, Nat.not_lt_zero, not_false_eq_true, not_true_eq_false, true_and, and_true]; done) | (simp (maxSteps := 4000000) (disch := omega) only [n_0, n_1, n_2, n_3, n_4, n_5, n_6, n_7, n_8, n_9, n_10, n_11, n_12, n_13, n_14, n_15, n_16, n_18, n_20, n_24, n_31, n_32, n_34, n_40, n_41, n_44, n_45, n_47, n_48, n_57, n_58, n_59, n_61, n_63, n_64, n_65, n_68, n_90, n_91, n_93, n_95, n_97, n_100, n_122, n_123, n_125, n_128, n_144, n_200, n_255, n_256, n_300, n_400, n_600, n_1536, n_3980, n_4000, n_4001, n_4300, n_65536, l_0, l_1, l_2, l_3, l_4, l_10, l_48, l_63, l_255, l_300, nI_ltI, nI_leI, nI_eq, nI_clamp, nI_add, pk_sub, pk_mul, nI_ne1, ne1_nI, nI_pge, nI_nlt0, nI_l, lN_i, lN_add, lN_mul, lN_sub, pk_lLT, pk_lLE, pk_lEQ, lg_lt, lg_ge, lg_eq0, lg_le, lg_gt, lg_ltn, lg_gen, lg_eq0n, lg_len, lg_gtn, Nat.zero_le, Nat.not_lt_zero, not_false_eq_true, not_true_eq_false, true_and, and_true]; omega) | omega)) r3
  rcases exp2 (x := 123) A (by decide) with ⟨u, p, x1, x2, x3, x4, x5⟩ | ⟨u, p, x1, x2, x3, x4, x5⟩
  · obtain ⟨q, eq⟩ : ∃ q, q = hsi (hsi (hsi (hsi p 1273 ns 0) 1274 ns 0) 1275 ns 1) 1280 ns 0 := ⟨_, rfl⟩
    have m20 : hi p 1262 20 = nI ns := by rw [x5.at (by simp [m13])]; exact n20
    have F1 : FRX (bSP S t ns 0) (bSJ S ns 0) nW g u := x4.x (fun a k z => by unfold tP at z; unfold bSP; omega) (fun k => Or.inl rfl)
    have G1 : FRX (bSM ns 0) sJ nW h q := by
      rw [eq]
      exact ((((x5.x (P2 := bSM ns 0) (J2 := sJ) (W2 := nW) (fun a k z => by unfold m13 at z; unfold bSM; omega) (fun k => rfl)).si (by simp [bSM])).si (by simp [bSM])).si (by simp [bSM])).si (by simp [bSM])
    have Gx : FRX xM nJ nW p q := by
      rw [eq]
      exact (((FRX.refl.si (by simp [xM])).si (by simp [xM])).si (by simp [xM])).si (by simp [xM])
    have B1 := B.fr A.1.1 t17 (F1.mono (fun a k z => bSP_y n12 z) (fun a k z => bSJ_y n12 z) (fun _ _ z => z.elim)) (G1.mono (fun a k z => bSM_z z) (fun a k z => sJ_z z) (fun _ _ z => z))
    have dr : S + 3 ≤ dS S ns ∧ dS S ns + 16 ≤ S + 195 := by unfold dS; omega
    have N1 : CN S t nd ns nt nu na es et eu u q := N.fr F1 G1 ⟨by unfold bSP; omega, by unfold bSP; omega, by unfold bSP; omega, by unfold bSP; omega, by unfold bSP; omega⟩ ⟨by simp [bSM], by simp [bSM], by simp [bSM], by simp [bSM], by simp [bSM]⟩
    have FC1 : FC S t g u := FC.tPq x4
    have FM1 : FMx h q := G1.mono (fun a k z => zP_m (bSM_z (nd := nd) (nt := nt) (nu := nu) (na := na) z)) (fun a k z => Or.inl z) (fun _ _ z => z)
    obtain ⟨zS, aS, mS, lS, pS, o1, o2, o3⟩ := B1.old
    have u0 : ∀ k, hi u (dS S ns) k = hi g (dS S ns) k := fun k => x4.at (by unfold tP; omega)
    have SB0 : SB T n c S t nd ns nt nu na es et eu lo (k + 1) 0 (fun _ => 0) (fun _ => 0) zS aS mS lS pS u q := by
      refine ⟨x3.con FRX.refl Gx, B1, N1, FM1.ly Lh, ⟨o1, o2, o3⟩, fun j hj' => absurd hj' (Nat.not_lt_zero j), ⟨?_, ?_, fun j hj' => absurd hj' (Nat.not_lt_zero j), fun _ => ⟨?_, fun j hj' => absurd hj' (Nat.not_lt_zero j)⟩⟩, ?_, ?_, hes⟩
      · rw [eq, hi_hsi_ne (by decide), hi_hsi_ne (by decide), hi_at]; rfl
      · rw [eq, hi_hsi_ne (by decide), hi_at]; rfl
      · rw [eq, hi_at]; rfl
      · rw [u0, u0, u0, u0]; exact e
      · rw [eq, hi_hsi_ne (by decide), hi_hsi_ne (by decide), hi_hsi_ne (by decide), hi_at]; rfl
    have cm : ∀ {X : Option (Unit × XH)}, s_m_structBody_35 (b_m_structBody_35 99999) (nI ns) 1 q = X → (∃ p', X = some ((), p')) → (Option.bind (f_m_sign 123 h) fun r5 => Option.bind (f_m_structBody r5.2) fun r16 => some ((), r16.2)) = X := by
      intro X r1 ⟨p', r2⟩
      refine o_bind x2 ?_
      rw [r2] at r1
      rw [r2]
      exact o_bind (bd m20 eq r1) rfl
    rcases structTurn SB0 (by omega) with ⟨u2, p2, k', so', o', x, u1, w1, w2, w3, w4, w5, w6, w7, w8⟩ | ⟨u2, p2, x, u1, w1, w2, w3, w4, w5, w6, w7⟩
    · have r := structLoop 11 1 0 100000 99999 k' so' o' u2 p2 (by omega) (by omega) (by omega) (by omega) (by omega) w5
      have c1 : f_p_readStruct t (some (dS S ns)) g = b_p_readStruct_30 100000 t (some (dS S ns)) (nI 0) u2 := by
        unfold f_p_readStruct
        exact o_elim (o_pos A.1.tk (o_bind x1 (o_neg one0 (o_pos x3.1.tk (o_bind w1 (o_pos w2 (o_bind w3 (o_pos one0 rfl))))))))
      rw [c1]
      rcases r with ⟨u', p', k'', r1, r2, r3, r4, r5, r6, r7, r8⟩ | ⟨u', p', r1, r2, r3, r4, r5⟩
      · exact Or.inl ⟨u', p', k'', r1, cm ((w4 _).trans r2) ⟨_, rfl⟩, r3, r4, r5, r6, FC1.trans (w7.trans r7), FRX.trans FM1 (FRX.trans w8 r8)⟩
      · exact Or.inr ⟨u', p', r1, cm ((w4 _).trans r2) ⟨_, rfl⟩, r3, FC1.trans (w7.trans r4), FRX.trans FM1 (FRX.trans w8 r5)⟩
    · refine Or.inr ⟨u2, hsi p2 1262 20 (hi p2 1262 20 + 1), ?_, cm ((w4 _).trans (nf_sb131 w5.2.2)) ⟨_, rfl⟩, w5.up (by decide), FC1.trans w6, FRX.si (FRX.trans FM1 w7) (by simp [nM])⟩
      unfold f_p_readStruct
      exact o_elim (o_pos A.1.tk (o_bind x1 (o_neg one0 (o_pos x3.1.tk (o_bind w1 (o_pos w2 (o_bind w3 (o_neg (not_not_intro rfl) rfl))))))))
  · have m20 : hi p 1262 20 = nI ns := by rw [x5.at (by simp [m14])]; exact n20
    obtain ⟨q, eq⟩ : ∃ q, q = hsi (hsi (hsi (hsi p 1273 ns 0) 1274 ns 0) 1275 ns 1) 1280 ns 0 := ⟨_, rfl⟩
    have q62 : hi q 1262 = hi p 1262 := by rw [eq, hi_hsi_ne (by decide), hi_hsi_ne (by decide), hi_hsi_ne (by decide), hi_hsi_ne (by decide)]
    have fq : FLT u q t := by unfold FLT; rw [q62]; exact x3
    have G1 : FMx h q := by
      rw [eq]
      exact FRX.si (FRX.si (FRX.si (FRX.si (FMx.q14 x5) (by simp [nM])) (by simp [nM])) (by simp [nM])) (by simp [nM])
    refine Or.inr ⟨u, hsi q 1262 20 (hi q 1262 20 + 1), ?_, o_bind x2 (o_bind (bd m20 eq (nf_sb35 fq.2.2)) rfl), fq.up (by decide), FC.tFq x4, FRX.si G1 (by simp [nM])⟩
    unfold f_p_readStruct
    exact o_elim (o_pos A.1.tk (o_bind x1 (o_pos rfl rfl)))
end Sl
