/-! Calls: text -/

section Text
variable {h g : XH} {S : Nat} {sg : SGT} {sd : Nat → Int64}
/-- the text's bytes, and what comes behind them -/
theorem e_m_text_92 {m : Nat} {T : Nat → Nat} (hm : m ≤ 4000) (hT : ∀ k, T k < 256) : ∀ (r n fuel : Nat) (h : XH), r < fuel → r ≤ m → hi h 1262 57 = nI n → n + r ≤ 4300 → (∀ k, k < r → hi h 1263 k = nI (T k)) → ∃ g, b_m_text_92 fuel (nI m) (nI r - 1) h = (Option.bind (f_m_ahead (lN m) 4 g) fun r2 => (Option.bind (f_m_thing 1 (-1) 0 r2.2) fun r5 => (some (r5.1, r5.2)))) ∧ FRM mP h g ∧ hi g 1262 57 = nI (n + r) ∧ (∀ i, i < n → hi g 1299 i = hi h 1299 i) ∧ ∀ j, j < r → hi g 1299 (n + j) = nI (T (r - 1 - j)) := by
  intro r
  induction r with
  | zero =>
    intro n fuel h hf h8 e hn' ht
    obtain ⟨f, rfl, -⟩ := fuel_pos hf
    refine ⟨h, ?_, FRM.refl, e, fun _ _ => rfl, fun j hj' => absurd hj' (Nat.not_lt_zero j)⟩
    show s_m_text_92 (b_m_text_92 f) _ _ _ = _
    unfold s_m_text_92
    rw [← nI_l (show m < 2 ^ 31 by omega)]
    exact o_pos (by decide) rfl
  | succ r ih =>
    intro n fuel h hf h8 e hn' ht
    obtain ⟨f, rfl, -⟩ := fuel_pos hf
    have tr := ht r (by omega)
    have tl' := hT r
    obtain ⟨g1, y1, F1, y2, y3, y4⟩ := e_m_aheadk (v := lN (T r)) (k := 1) e (by decide) (by omega)
    obtain ⟨g, z1, F, z2, z3, z4⟩ := ih (n + 1) f g1 (by omega) (by omega) y2 (by omega) (fun k hk' => by rw [F1.at (by unfold mP; omega)]; exact ht k (by omega))
    refine ⟨g, ?_, F1.trans F, ?_, ?_, ?_⟩
    · show s_m_text_92 (b_m_text_92 f) _ _ _ = _
      unfold s_m_text_92
      rw [nI_pred, nI_clamp (show r < 2 ^ 31 by omega), tr, nI_l (show T r < 2 ^ 31 by omega), i_m1]
      exact o_neg (by (first | (simp (maxSteps := 4000000) (disch := omega) only [n_0, n_1, n_2, n_3, n_4, n_5, n_6, n_7, n_8, n_9, n_10, n_11, n_12, n_13, n_14, n_15, n_16, n_18, n_20, n_24, n_31, n_32, n_34, n_40, n_41, n_44, n_45, n_47, n_48, n_57, n_58, n_59, n_61, n_63, n_64, n_65, n_68, n_90, n_91, n_93, n_95, n_97, n_100, n_122, n_123, n_125, n_128, n_144, n_200, n_255, n_256, n_300, n_400, n_600, n_1536, n_3980, n_4000, n_4001, n_4300, n_65536, l_0, l_1, l_2, l_3, l_4, l_10, l_48, l_63, l_255, l_300, nI_ltI, nI_leI, nI_eq, nI_clamp, nI_add, pk_sub, pk_mul, nI_ne1, ne1_nI, nI_pge, nI_nlt0, nI_l, lN_i, lN_add, lN_mul, lN_sub, pk_lLT, pk_lLE, pk_lEQ, lg_lt, lg_ge, lg_eq0, lg_le, lg_gt, lg_ltn, lg_gen, lg_eq0n, lg_len, lg_gtn, Nat.zero_le, Nat.not_lt_zero, not_false_eq_true, not_true_eq_false, true_and, and_true]; done) | (simp (maxSteps := 4000000) (disch := omega) only [n_0, n_1, n_2, n_3, n_4, n_5, n_6, n_7, n_8, n_9, n_10, n_11, n_12, n_13, n_14, n_15, n_16, n_18, n_20, n_24, n_31, n_32, n_34, n_40, n_41, n_44, n_45, n_47, n_48, n_57, n_58, n_59, n_61, n_63, n_64, n_65, n_68, n_90, n_91, n_93, n_95, n_97, n_100, n_122, n_123, n_125, n_128, n_144, n_200, n_255, n_256, n_300, n_400, n_600, n_1536, n_3980, n_4000, n_4001, n_4300, n_65536, l_0, l_1, l_2, l_3, l_4, l_10, l_48, l_63, l_255, l_300, nI_ltI, nI_leI, nI_eq, nI_clamp, nI_add, pk_sub, pk_mul, nI_ne1, ne1_nI, nI_pge, nI_nlt0, nI_l, lN_i, lN_add, lN_mul, lN_sub, pk_lLT, pk_lLE, pk_lEQ, lg_lt, lg_ge, lg_eq0, lg_le, lg_gt, lg_ltn, lg_gen, lg_eq0n, lg_len, lg_gtn, Nat.zero_le, Nat.not_lt_zero, not_false_eq_true, not_true_eq_false, true_and, and_true]; omega) | omega)) (o_pos (by (first | (simp (maxSteps := 4000000) (disch := omega) only [n_0, n_1, n_2, n_3, n_4, n_5, n_6, n_7, n_8, n_9, n_10, n_11, n_12, n_13, n_14, n_15, n_16, n_18, n_20, n_24, n_31, n_32, n_34, n_40, n_41, n_44, n_45, n_47, n_48, n_57, n_58, n_59, n_61, n_63, n_64, n_65, n_68, n_90, n_91, n_93, n_95, n_97, n_100, n_122, n_123, n_125, n_128, n_144, n_200, n_255, n_256, n_300, n_400, n_600, n_1536, n_3980, n_4000, n_4001, n_4300, n_65536, l_0, l_1, l_2, l_3, l_4, l_10, l_48, l_63, l_255, l_300, nI_ltI, nI_leI, nI_eq, nI_clamp, nI_add, pk_sub, pk_mul, nI_ne1, ne1_nI, nI_pge, nI_nlt0, nI_l, lN_i, lN_add, lN_mul, lN_sub, pk_lLT, pk_lLE, pk_lEQ, lg_lt, lg_ge, lg_eq0, lg_le, lg_gt, lg_ltn, lg_gen, lg_eq0n, lg_len, lg_gtn, Nat.zero_le, Nat.not_lt_zero, not_false_eq_true, not_true_eq_false, true_and, and_true]; done) | (simp (maxSteps := 4000000) (disch := omega) only [n_0, n_1, n_2, n_3, n_4, n_5, n_6, n_7, n_8, n_9, n_10, n_11, n_12, n_13, n_14, n_15, n_16, n_18, n_20, n_24, n_31, n_32, n_34, n_40, n_41, n_44, n_45, n_47, n_48, n_57, n_58, n_59, n_61, n_63, n_64, n_65, n_68, n_90, n_91, n_93, n_95, n_97, n_100, n_122, n_123, n_125, n_128, n_144, n_200, n_255, n_256, n_300, n_400, n_600, n_1536, n_3980, n_4000, n_4001, n_4300, n_65536, l_0, l_1, l_2, l_3, l_4, l_10, l_48, l_63, l_255, l_300, nI_ltI, nI_leI, nI_eq, nI_clamp, nI_add, pk_sub, pk_mul, nI_ne1, ne1_nI, nI_pge, nI_nlt0, nI_l, lN_i, lN_add, lN_mul, lN_sub, pk_lLT, pk_lLE, pk_lEQ, lg_lt, lg_ge, lg_eq0, lg_le, lg_gt, lg_ltn, lg_gen, lg_eq0n, lg_len, lg_gtn, Nat.zero_le, Nat.not_lt_zero, not_false_eq_true, not_true_eq_false, true_and, and_true]; omega) | omega)) (o_bind y1 z1))
    · rw [z2]
      congr 1
      omega
    · intro i hi'
      rw [z3 i (by omega), y3 i hi']
    · intro j hj'
      by_cases c : j = 0
      · subst c
        rw [Nat.add_zero, z3 n (by omega)]
        have := y4 0 (by decide)
        rw [Nat.add_zero] at this
        rw [this]
        show nI (v8 (lN (T r)) 0) = nI (T r)
        rw [v8_0 tl']
      · have := z4 (j - 1) (by omega)
        rw [show n + 1 + (j - 1) = n + j by omega, show r - 1 - (j - 1) = r + 1 - 1 - j by omega] at this
        exact this
/-- the class's text -/
theorem e_u_addText {c : XH} {n m tc ga N : Nat} (L : LY c) (i1 : hi c 1244 1 = nI n) (i2 : hi c 1244 2 = nI ga) (i7 : hi c 1244 7 = nI tc) (hg : ga ≤ 8) (n4 : n ≤ 4000) (m4 : m ≤ 4000) (hN : N = rU (n + m + 1) 4) (c4 : N + 4 ≤ 4000) (t3 : tc < 300) : ∃ u, f_u_addText 1 (nI m) c = some (nI tc, u) ∧ FRM (uA tc) c u ∧ (hi u 1244 1 = nI (N + 4) ∧ hi u 1244 2 = nI (max (max ga 4) 4) ∧ hi u 1244 7 = nI (tc + 1)) ∧ (hi u 1247 tc = 1 ∧ hi u 1248 tc = 0 ∧ hi u 1249 tc = -1 ∧ hi u 1250 tc = nI (N + 4)) ∧ (∀ k, 4000 - n ≤ k → cb u 1246 k = cb c 1246 k) ∧ (∀ k, 4000 - N + m ≤ k → k < 4000 - n → cb u 1246 k = 0) ∧ (∀ j, j < m → cb u 1246 (4000 - N + j) = cb c 2 j) ∧ ∀ j, j < 4 → cb u 1246 (4000 - (N + 4) + j) = v8 (lN m) j := by
  obtain ⟨r1, r2, r3⟩ := rU_f (x := n + m + 1) (a := 4) (by omega)
  have eR := e_t_roundUp (h := c) (x := n + m + 1) (a := 4) (by omega) (by omega)
  rw [← hN] at r1 r2 r3 eR
  have c3 : f_u_hasRoomForThing (nI (N + 4)) c = some (1, c) := by
    rcases e_u_room (h := c) (N := N + 4) i7 (by omega) (by omega) with ⟨-, -, q⟩ | ⟨q, -⟩
    · exact q
    · omega
  have rU1 : rU (n + (m + 1)) 4 = N := by rw [hN]; congr 1
  have rU2 : rU (N + 4) 4 = N + 4 := by unfold rU; omega
  obtain ⟨u1, y1, F1, y2, y3, y4, y5⟩ := e_u_grow (b := m + 1) (a := 4) L.b1245 i1 i2 hg (by omega) (by rw [rU1]; omega)
  rw [rU1] at y1 y2 y4 y5
  have B1 : BY u1 1245 1246 := by rw [F1.by]; exact L.b1245
  have B1t : BY u1 1 2 := by rw [F1.by]; exact L.b1
  obtain ⟨u2, z1, F2, z2, z3⟩ := e_u_copy (m := m) (f0 := 0) (t0 := 4000 - N) B1 B1t (by omega) (by omega)
  have B2 : BY u2 1245 1246 := by rw [F2.by]; exact B1
  obtain ⟨u3, x1, F3, x2, x3, x4, x5⟩ := e_u_grow (b := 4) (a := 4) B2 (by rw [F2.at (by decide)]; exact y2) (by rw [F2.at (by decide)]; exact y3) (by omega) (by omega) (by rw [rU2]; exact c4)
  rw [rU2] at x1 x2 x4 x5
  have B3 : BY u3 1245 1246 := by rw [F3.by]; exact B2
  obtain ⟨u4, w1, F4, w2, w3⟩ := e_u_put (i := 4000 - (N + 4)) (k := 4) (v := lN m) B3 (by decide) (by omega)
  obtain ⟨u5, v1, F5, v2, v3, v4, v5, v6⟩ := e_u_addThing (h := u4) (x := 1) (y := 0) (z := -1) (by rw [F4.at (by decide), F3.at (by simp [uP]), F2.at (by decide), F1.at (by simp [uP])]; exact i7) t3
  have cb5 : ∀ k, cb u5 1246 k = cb u4 1246 k := fun k => F5.cbq (by simp [uTh])
  refine ⟨u5, ?_, (((F1.mono (fun _ _ => uP_uA)).trans (F2.mono (fun _ _ => e46_uA))).trans (F3.mono (fun _ _ => uP_uA))).trans ((F4.mono (fun _ _ => e46_uA)).trans (F5.mono (fun _ _ => uTh_uA))), ⟨?_, ?_, v2⟩, ⟨v3, v4, v5, ?_⟩, fun k hk' => ?_, fun k h1 h2 => ?_, fun j hj' => ?_, fun j hj' => ?_⟩
  · unfold f_u_addText
    rw [i1, nI_add, n_1, nI_add]
    refine o_bind eR ?_
    dsimp only
    rw [show nI N + 4 = nI (N + 4) by rw [n_4, nI_add]]
    refine o_bind c3 (o_pos one0 ?_)
    rw [nI_add]
    refine o_bind y1 (o_bind z1 (o_bind x1 ?_))
    dsimp only
    rw [nI_l (show m < 2 ^ 31 by omega)]
    exact o_bind w1 (o_bind v1 rfl)
  · rw [F5.at (by simp [uTh]), F4.at (by decide)]; exact x2
  · rw [F5.at (by simp [uTh]), F4.at (by decide)]; exact x3
  · rw [v6, F4.at (by decide)]; exact x2
  · rw [cb5, cb_q (w3 k (by omega)), cb_q (x5 k (by omega)), cb_q (z3 k (by omega)), cb_q (y5 k (by omega))]
  · rw [cb5, cb_q (w3 k (by omega)), cb_q (x5 k (by omega)), cb_q (z3 k (by omega))]
    exact y4 k (by omega) h2
  · rw [cb5, cb_q (w3 _ (by omega)), cb_q (x5 _ (by omega)), z2 j hj', Nat.zero_add]
    exact F1.cbq (by simp [uP])
  · rw [cb5]; exact w2 j hj'
/-- the model's text -/
theorem e_m_textGo {c : XH} {n m tc gm N : Nat} {T : Nat → Nat} (k57 : hi c 1262 57 = nI n) (k58 : hi c 1262 58 = nI gm) (k59 : hi c 1262 59 = nI tc) (hg : gm ≤ 8) (n4 : n ≤ 4000) (m4 : m ≤ 4000) (nN : n + m + 1 ≤ N) (c4 : N + 4 ≤ 4000) (t3 : tc < 300) (hT : ∀ k, T k < 256) (tt : ∀ k, k < m → hi c 1263 k = nI (T k)) : ∃ p, (Option.bind (f_m_aligned 4 c) fun r18 => (Option.bind (f_m_zeros (nI (N - (n + m))) r18.2) fun r21 => (b_m_text_92 100000 (nI m) ((nI m) - 1) r21.2))) = some (nI tc, p) ∧ FRM (mA tc) c p ∧ (hi p 1262 57 = nI (N + 4) ∧ hi p 1262 58 = nI (max gm 4) ∧ hi p 1262 59 = nI (tc + 1)) ∧ (hi p 1300 tc = 1 ∧ hi p 1301 tc = -1 ∧ hi p 1302 tc = 0 ∧ hi p 1303 tc = nI (N + 4)) ∧ (∀ i, i < n → hi p 1299 i = hi c 1299 i) ∧ (∀ i, n ≤ i → i < N - m → hi p 1299 i = 0) ∧ (∀ i, N - m ≤ i → i < N → hi p 1299 i = nI (T (N - 1 - i))) ∧ ∀ i, N ≤ i → i < N + 4 → hi p 1299 i = nI (v8 (lN m) (N + 3 - i)) := by
  obtain ⟨p1, hp1⟩ : ∃ p1, p1 = hsi c 1262 58 (nI (max gm 4)) := ⟨_, rfl⟩
  have al : f_m_aligned 4 c = some ((), p1) := by
    rw [hp1]
    exact e_m_aligned (a := 4) k58 hg (by decide)
  have G1 : FRM (mA tc) c p1 := by rw [hp1]; exact FRM.refl.si (by simp [mA])
  obtain ⟨p2, s1, G2, s2, s3, s4⟩ := e_m_zeros (h := p1) (n := n) (k := N - (n + m)) (by rw [hp1, hi_nk (by decide)]; exact k57) (by omega)
  have en : n + (N - (n + m)) = N - m := by omega
  rw [en] at s2 s4
  obtain ⟨p3, q1, G3, q2, q3, q4⟩ := e_m_text_92 (m := m) (T := T) m4 hT m (N - m) 100000 p2 (by omega) (Nat.le_refl m) s2 (by omega) (fun k hk' => by
    rw [G2.at (by simp [mP]), hp1, hi_hsi_ne (by decide)]
    exact tt k hk')
  rw [show N - m + m = N by omega] at q2
  obtain ⟨p4, d1, G4, d2, d3, d4⟩ := e_m_aheadk (v := lN m) (k := 4) q2 (by decide) (by omega)
  obtain ⟨p5, f1, G5, f2, f3, f4, f5, f6⟩ := e_m_thing (h := p4) (x := 1) (y := -1) (z := 0) (by rw [G4.at (by simp [mP]), G3.at (by simp [mP]), G2.at (by simp [mP]), hp1, hi_nk (by decide)]; exact k59) t3
  refine ⟨p5, ?_, (((G1.trans (G2.mono (fun _ _ => mP_mA))).trans (G3.mono (fun _ _ => mP_mA))).trans (G4.mono (fun _ _ => mP_mA))).trans (G5.mono (fun _ _ => mTh_mA)), ⟨?_, ?_, f2⟩, ⟨f3, f4, f5, ?_⟩, fun i hi' => ?_, fun i h1 h2 => ?_, fun i h1 h2 => ?_, fun i h1 h2 => ?_⟩
  · refine o_bind al (o_bind s1 ?_)
    dsimp only
    rw [q1]
    exact o_bind d1 (o_bind f1 rfl)
  · rw [G5.at (by simp [mTh])]; exact d2
  · rw [G5.at (by simp [mTh]), G4.at (by simp [mP]), G3.at (by simp [mP]), G2.at (by simp [mP]), hp1, hi_at]
  · rw [f6]; exact d2
  · rw [G5.at (by simp [mTh]), d3 i (by omega), q3 i (by omega), s3 i hi', hp1, hi_hsi_ne (by decide)]
  · rw [G5.at (by simp [mTh]), d3 i (by omega), q3 i h2]
    exact s4 i h1 h2
  · rw [G5.at (by simp [mTh]), d3 i h2]
    have := q4 (i - (N - m)) (by omega)
    rw [show N - m + (i - (N - m)) = i by omega] at this
    rw [this]
    congr 2
    omega
  · rw [G5.at (by simp [mTh])]
    have := d4 (i - N) (by omega)
    rw [show N + (i - N) = i by omega] at this
    rw [this]
    congr 2
    omega
theorem op_text (H : RX h) (hm : hz h < 900000) : TH h f_t_text f_m_text (fun v w => v = w) [(1, 1), (2, 2)] := by
  obtain ⟨S, sg, sd, H⟩ := H
  have L := H.1
  obtain ⟨m, m4, t1, t2, t3⟩ := H.2.2.1
  have F0 : FRM (fun a k => a = 1 ∧ k = 1) h (hsi h 1 1 0) := FRM.refl.si ⟨rfl, rfl⟩
  obtain ⟨c, hc⟩ : ∃ c, c = hsi h 1 1 0 := ⟨_, rfl⟩
  rw [← hc] at F0
  have L0 : LY c := by rw [F0.ly]; exact L
  have hm1 : hz c < 1000000 := by rw [F0.1.1]; omega
  have c11 : hi c 1 1 = 0 := by rw [hc, hi_at]
  have c51 : hi c 5 1 = hi h 5 1 := F0.at (by simp)
  have ck : ∀ k, hi c 1262 k = hi h 1262 k := fun k => F0.at (by simp)
  -- where it throws
  have thw : ∀ (j k : Nat), (j, k) ∈ [(1, 1), (2, 2)] → f_t_text h = some (Sum.inr j, hthr c) → (∀ g1, (∀ k, hi g1 1262 k = hi h 1262 k) → f_m_text g1 = some (0, hsi (hsi (hsi g1 1262 0 0) 1262 2 0) 1262 0 (nI k))) → TH h f_t_text f_m_text (fun v w => v = w) [(1, 1), (2, 2)] := by
    intro j k hjk z1 z2
    refine TH.no H hm (F0.mono (fun _ _ => e1_cP)) hjk z1 (fun g1 W rd => ⟨0, _, z2 g1 (fun k => by rw [rd 1262 (by decide)]; exact ck k), ((FRM.refl.si (by simp [cP])).si (by simp [cP])).si (by simp [cP]), hi_at, fun X => ⟨RT.zero ?_ ?_, H.2.2.2.1.cg ?_ ?_ (X.2.2.2.1 6 (by decide)) (X.2.2.2.1 1298 (by decide))⟩⟩)
    · rw [hi_hsi_ne (by decide), hi_hsi_ne (by decide), hi_hsi_ne (by decide), rd 1 (by decide)]; exact c11
    · rw [hi_nk (by decide), hi_at]
    · rw [hi_hsi_ne (by decide), hi_hsi_ne (by decide), hi_hsi_ne (by decide), rd 5 (by decide)]; exact c51
    · rw [hi_nk (by decide), hi_nk (by decide), hi_nk (by decide), rd 1262 (by decide)]; exact ck 55
  have e10 : hi c 1244 10 = hi h 1244 10 := F0.at (by simp)
  rcases H.op with ⟨o1, o2⟩ | ⟨t, -, -, -, -, -, o1, o2⟩
  · obtain ⟨n, tc, b1, b2, b3, b4, b5⟩ := H.2.2.2.2.2.2.2.1
    have n4 := b1.1
    have tc3 := b3.1
    have e1 : hi c 1244 1 = nI n := by rw [F0.at (by simp)]; exact b1.2.1
    have e7 : hi c 1244 7 = nI tc := by rw [F0.at (by simp)]; exact b3.2.1
    obtain ⟨r1, r2, r3⟩ := rU_f (x := n + m + 1) (a := 4) (by omega)
    obtain ⟨N, hN⟩ : ∃ N, N = rU (n + m + 1) 4 := ⟨_, rfl⟩
    have eR := e_t_roundUp (h := c) (x := n + m + 1) (a := 4) (by omega) (by omega)
    rw [← hN] at r1 r2 r3 eR
    have fl : ∀ g0 : XH, f_m_fill (nI n) (nI (m + 1)) (nI 4) g0 = some (nI (N - (n + m + 1)), g0) := fun g0 => by
      have := e_m_fill (h := g0) (n := n) (k := m + 1) (a := 4) (by omega) (by omega)
      rw [show n + (m + 1) = n + m + 1 by omega, ← hN] at this
      exact this
    have mt : ∀ (g0 : XH) X, hi g0 1262 67 = -1 → hi g0 1262 57 = nI n → hi g0 1262 2 = nI m → (if (hi (hsi (hsi g0 1262 0 0) 1262 2 0) 1262 59) = 300 then (b_m_text_69 (hsi (hsi g0 1262 0 0) 1262 2 0)) else (if nI (N + 4) ≤ 4000 then (Option.bind (f_m_aligned 4 (hsi (hsi g0 1262 0 0) 1262 2 0)) fun r18 => (Option.bind (f_m_zeros (nI (N - (n + m))) r18.2) fun r21 => (b_m_text_92 100000 (nI m) ((nI m) - 1) r21.2))) else (b_m_text_69 (hsi (hsi g0 1262 0 0) 1262 2 0)))) = X → f_m_text g0 = X := by
      intro g0 X q1 q2 q3 q
      unfold f_m_text
      rw [q2, q3, n_1, nI_add]
      refine o_pos q1 (o_bind (fl _) ?_)
      dsimp only
      rw [show hi (hsi (hsi g0 1262 0 0) 1262 2 0) 1262 57 = nI n by rw [hi_nk (by decide), hi_nk (by decide)]; exact q2, nI_add, nI_add, n_5, nI_add, nI_add, show n + (N - (n + m + 1)) + m + 5 = N + 4 by omega, show N - (n + m + 1) + 1 = N - (n + m) by omega]
      exact q
    by_cases c4 : tc < 300 ∧ N + 4 ≤ 4000
    · -- room
      obtain ⟨ga, gm, g1, g2, g3, g4, g5⟩ := b2
      obtain ⟨u, y1, F1, ⟨y2, y3, y4⟩, ⟨y5, y6, y7, y8⟩, y9, y10, y11, y12⟩ := e_u_addText (ga := ga) L0 e1 (by rw [F0.at (by simp)]; exact g2) e7 (by omega) n4 m4 hN c4.2 c4.1
      have cl : f_t_text h = some (Sum.inl (nI tc), u) := by
        unfold f_t_text
        rw [t1, ← hc]
        exact o_bind (e_u_isOpen0 (by rw [e10]; exact o1)) (o_pos rfl (o_bind y1 (o_pos (nI_n1 (by omega)) rfl)))
      refine Or.inl ⟨_, _, cl, fun p0 W => ?_⟩
      have FO : FRM (bT tc) h p0 := ((F0.mono (fun _ _ => e1_bT)).trans (F1.mono (fun _ _ => uA_bT))).ow W
      have FL : FRM lt62 h p0 := ((F0.mono (fun _ _ => e1_62)).trans (F1.mono (fun _ _ => uA_62))).ow W
      obtain ⟨q0, hq0⟩ : ∃ q0, q0 = hsi (hsi p0 1262 0 0) 1262 2 0 := ⟨_, rfl⟩
      have kq : ∀ k, k ≠ 0 → k ≠ 2 → hi q0 1262 k = hi h 1262 k := fun k h1 h2 => by rw [hq0, hi_nk h2, hi_nk h1]; exact FL.up (by decide)
      have aq : ∀ a k, 1262 < a → hi q0 a k = hi h a k := fun a k ha => by rw [hq0, hi_hsi_ne (by omega), hi_hsi_ne (by omega)]; exact FL.up (by omega)
      obtain ⟨p, z1, G1, ⟨z2, z3, z4⟩, ⟨z5, z6, z7, z8⟩, z9, z10, z11, z12⟩ := e_m_textGo (c := q0) (n := n) (m := m) (tc := tc) (gm := gm) (N := N) (T := cb h 2) (by rw [kq 57 (by decide) (by decide)]; exact b1.2.2.1) (by rw [kq 58 (by decide) (by decide)]; exact g3) (by rw [kq 59 (by decide) (by decide)]; exact b3.2.2.1) (by omega) n4 m4 r1 c4.2 c4.1 (cb_lt h 2) (fun k hk' => by rw [aq 1263 k (by decide)]; exact t3 k hk')
      have mo : f_m_text p0 = some (nI tc, p) := by
        refine mt p0 _ (by rw [FL.up (by decide)]; exact o2) (by rw [FL.up (by decide)]; exact b1.2.2.1) (by rw [FL.up (by decide)]; exact t2) ?_
        rw [← hq0, kq 59 (by decide) (by decide), b3.2.2.1]
        exact o_neg (show ¬ nI tc = nI 300 by (first | (simp (maxSteps := 4000000) (disch := omega) only [n_0, n_1, n_2, n_3, n_4, n_5, n_6, n_7, n_8, n_9, n_10, n_11, n_12, n_13, n_14, n_15, n_16, n_18, n_20, n_24, n_31, n_32, n_34, n_40, n_41, n_44, n_45, n_47, n_48, n_57, n_58, n_59, n_61, n_63, n_64, n_65, n_68, n_90, n_91, n_93, n_95, n_97, n_100, n_122, n_123, n_125, n_128, n_144, n_200, n_255, n_256, n_300, n_400, n_600, n_1536, n_3980, n_4000, n_4001, n_4300, n_65536, l_0, l_1, l_2, l_3, l_4, l_10, l_48, l_63, l_255, l_300, nI_ltI, nI_leI, nI_eq, nI_clamp, nI_add, pk_sub, pk_mul, nI_ne1, ne1_nI, nI_pge, nI_nlt0, nI_l, lN_i, lN_add, lN_mul, lN_sub, pk_lLT, pk_lLE, pk_lEQ, lg_lt, lg_ge, lg_eq0, lg_le, lg_gt, lg_ltn, lg_gen, lg_eq0n, lg_len, lg_gtn, Nat.zero_le, Nat.not_lt_zero, not_false_eq_true, not_true_eq_false, true_and, and_true]; done) | (simp (maxSteps := 4000000) (disch := omega) only [n_0, n_1, n_2, n_3, n_4, n_5, n_6, n_7, n_8, n_9, n_10, n_11, n_12, n_13, n_14, n_15, n_16, n_18, n_20, n_24, n_31, n_32, n_34, n_40, n_41, n_44, n_45, n_47, n_48, n_57, n_58, n_59, n_61, n_63, n_64, n_65, n_68, n_90, n_91, n_93, n_95, n_97, n_100, n_122, n_123, n_125, n_128, n_144, n_200, n_255, n_256, n_300, n_400, n_600, n_1536, n_3980, n_4000, n_4001, n_4300, n_65536, l_0, l_1, l_2, l_3, l_4, l_10, l_48, l_63, l_255, l_300, nI_ltI, nI_leI, nI_eq, nI_clamp, nI_add, pk_sub, pk_mul, nI_ne1, ne1_nI, nI_pge, nI_nlt0, nI_l, lN_i, lN_add, lN_mul, lN_sub, pk_lLT, pk_lLE, pk_lEQ, lg_lt, lg_ge, lg_eq0, lg_le, lg_gt, lg_ltn, lg_gen, lg_eq0n, lg_len, lg_gtn, Nat.zero_le, Nat.not_lt_zero, not_false_eq_true, not_true_eq_false, true_and, and_true]; omega) | omega)) (o_pos (show nI (N + 4) ≤ nI 4000 by (first | (simp (maxSteps := 4000000) (disch := omega) only [n_0, n_1, n_2, n_3, n_4, n_5, n_6, n_7, n_8, n_9, n_10, n_11, n_12, n_13, n_14, n_15, n_16, n_18, n_20, n_24, n_31, n_32, n_34, n_40, n_41, n_44, n_45, n_47, n_48, n_57, n_58, n_59, n_61, n_63, n_64, n_65, n_68, n_90, n_91, n_93, n_95, n_97, n_100, n_122, n_123, n_125, n_128, n_144, n_200, n_255, n_256, n_300, n_400, n_600, n_1536, n_3980, n_4000, n_4001, n_4300, n_65536, l_0, l_1, l_2, l_3, l_4, l_10, l_48, l_63, l_255, l_300, nI_ltI, nI_leI, nI_eq, nI_clamp, nI_add, pk_sub, pk_mul, nI_ne1, ne1_nI, nI_pge, nI_nlt0, nI_l, lN_i, lN_add, lN_mul, lN_sub, pk_lLT, pk_lLE, pk_lEQ, lg_lt, lg_ge, lg_eq0, lg_le, lg_gt, lg_ltn, lg_gen, lg_eq0n, lg_len, lg_gtn, Nat.zero_le, Nat.not_lt_zero, not_false_eq_true, not_true_eq_false, true_and, and_true]; done) | (simp (maxSteps := 4000000) (disch := omega) only [n_0, n_1, n_2, n_3, n_4, n_5, n_6, n_7, n_8, n_9, n_10, n_11, n_12, n_13, n_14, n_15, n_16, n_18, n_20, n_24, n_31, n_32, n_34, n_40, n_41, n_44, n_45, n_47, n_48, n_57, n_58, n_59, n_61, n_63, n_64, n_65, n_68, n_90, n_91, n_93, n_95, n_97, n_100, n_122, n_123, n_125, n_128, n_144, n_200, n_255, n_256, n_300, n_400, n_600, n_1536, n_3980, n_4000, n_4001, n_4300, n_65536, l_0, l_1, l_2, l_3, l_4, l_10, l_48, l_63, l_255, l_300, nI_ltI, nI_leI, nI_eq, nI_clamp, nI_add, pk_sub, pk_mul, nI_ne1, ne1_nI, nI_pge, nI_nlt0, nI_l, lN_i, lN_add, lN_mul, lN_sub, pk_lLT, pk_lLE, pk_lEQ, lg_lt, lg_ge, lg_eq0, lg_le, lg_gt, lg_ltn, lg_gen, lg_eq0n, lg_len, lg_gtn, Nat.zero_le, Nat.not_lt_zero, not_false_eq_true, not_true_eq_false, true_and, and_true]; omega) | omega)) z1)
      have G0 : FRM (fun a k => a = 1262 ∧ (k = 0 ∨ k = 2)) p0 q0 := by rw [hq0]; exact (FRM.refl.si (by simp)).si (by simp)
      have FA : FRM (bT tc) h p := (FO.trans (G0.mono (fun a k q => by rw [q.1]; simp [bT]; rcases q.2 with z | z <;> simp [z]))).trans (G1.mono (fun _ _ => mA_bT))
      have GL : FRM ge62 p0 p := (G0.mono (fun a k q => by rw [q.1]; exact Nat.le_refl _)).trans (G1.mono (fun _ _ => mA_62))
      have cel : ∀ a k, a < 1262 → hi p a k = hi u a k := fun a k ha => by rw [GL.lo ha, W.hiq]
      have cbe : ∀ k, cb p 1246 k = cb u 1246 k := fun k => cb_q (cel 1246 k (by decide))
      have c46 : ∀ k, cb c 1246 k = cb h 1246 k := fun k => F0.cbq (by simp)
      have c2 : ∀ k, cb c 2 k = cb h 2 k := fun k => F0.cbq (by simp)
      have X : FX (bT tc) h p := FA.fx L
      have row : ∀ i, i < N + 4 → hi p 1299 i = nI (cb p 1246 (3999 - i)) := by
        intro i hi'
        rw [cbe]
        by_cases i1 : i < N
        · by_cases i2 : i < N - m
          · by_cases i3 : i < n
            · rw [z9 i i3, aq 1299 i (by decide), y9 _ (by omega), c46]
              exact b1.2.2.2 i i3
            · rw [z10 i (by omega) i2, y10 _ (by omega) (by omega)]
              rfl
          · have := y11 (N - 1 - i) (by omega)
            rw [show 4000 - N + (N - 1 - i) = 3999 - i by omega, c2] at this
            rw [z11 i (by omega) i1, this]
        · have := y12 (N + 3 - i) (by omega)
          rw [show 4000 - (N + 4) + (N + 3 - i) = 3999 - i by omega] at this
          rw [z12 i (by omega) hi', this]
      have r0 : hi p 1262 0 = 0 := by rw [G1.at (by simp [mA]), hq0, hi_nk (by decide), hi_at]
      have rt : RT p := RT.zero (by rw [cel 1 1 (by decide), F1.at (by simp [uA])]; exact c11) (by rw [G1.at (by simp [mA]), hq0, hi_at])
      have rv : RV p := H.2.2.2.1.cg (by rw [cel 5 1 (by decide), F1.at (by simp [uA])]; exact c51) (by rw [G1.at (by simp [mA])]; exact kq 55 (by decide) (by decide)) (X.2.2.2.1 6 (by decide)) (X.2.2.2.1 1298 (by decide))
      have rg : RBg p := ⟨max (max ga 4) 4, max gm 4, by omega, by rw [cel 1244 2 (by decide)]; exact y3, z3, by omega, fun q => by
        rw [FA.at (by simp [bT])] at q
        have := g5 q
        omega⟩
      have rb : RB p sg := RB.add b1 b3 b4 ⟨o1, o2⟩ X.2.2.1 ⟨by omega, c4.2, by omega⟩ (by rw [cel 1244 1 (by decide)]; exact y2) z2 row (fun k h1 h2 => by rw [cbe, y9 k h1, c46]) rg (by rw [cel 1244 7 (by decide)]; exact y4) z4 c4.1 (so := 1) (Or.inl rfl) (fun q => absurd q (by decide)) (by rw [cel 1247 tc (by decide)]; exact y5) z5 (by rw [cel 1248 tc (by decide), y6, z7]) (by rw [cel 1249 tc (by decide), y7, z6]) (by rw [cel 1250 tc (by decide)]; exact y8) z8
      exact ⟨_, _, mo, rfl, r0, ⟨S, sg, sd, H.bld (X.mono fun a k => bT_bP) rt rv rb⟩, X.2.2.2.2⟩
    · -- no room
      have c3 : f_u_hasRoomForThing (nI (N + 4)) c = some (0, c) := by
        rcases e_u_room (h := c) (N := N + 4) e7 tc3 (by omega) with ⟨q1, q2, -⟩ | ⟨-, q⟩
        · exact absurd ⟨q1, q2⟩ c4
        · exact q
      refine thw 2 2 (by decide) ?_ (fun p0 kq => ?_)
      · unfold f_t_text
        rw [t1, ← hc]
        refine o_bind (e_u_isOpen0 (by rw [e10]; exact o1)) (o_pos rfl (o_bind (v := (-1, c)) ?_ (o_neg (not_not_intro rfl) (o_pos hm1 rfl))))
        unfold f_u_addText
        dsimp only
        rw [e1, nI_add, n_1, nI_add]
        refine o_bind eR ?_
        dsimp only
        rw [show nI N + 4 = nI (N + 4) by rw [n_4, nI_add]]
        exact o_bind c3 (o_neg (not_not_intro rfl) rfl)
      · refine mt p0 _ (by rw [kq]; exact o2) (by rw [kq]; exact b1.2.2.1) (by rw [kq]; exact t2) ?_
        have e59 : hi (hsi (hsi p0 1262 0 0) 1262 2 0) 1262 59 = nI tc := by rw [hi_nk (by decide), hi_nk (by decide), kq]; exact b3.2.2.1
        rw [e59]
        by_cases c5 : tc = 300
        · exact o_pos (by rw [c5]; rfl) rfl
        · exact o_neg (show ¬ nI tc = nI 300 by (first | (simp (maxSteps := 4000000) (disch := omega) only [n_0, n_1, n_2, n_3, n_4, n_5, n_6, n_7, n_8, n_9, n_10, n_11, n_12, n_13, n_14, n_15, n_16, n_18, n_20, n_24, n_31, n_32, n_34, n_40, n_41, n_44, n_45, n_47, n_48, n_57, n_58, n_59, n_61, n_63, n_64, n_65, n_68, n_90, n_91, n_93, n_95, n_97, n_100, n_122, n_123, n_125, n_128, n_144, n_200, n_255, n_256, n_300, n_400, n_600, n_1536, n_3980, n_4000, n_4001, n_4300, n_65536, l_0, l_1, l_2, l_3, l_4, l_10, l_48, l_63, l_255, l_300, nI_ltI, nI_leI, nI_eq, nI_clamp, nI_add, pk_sub, pk_mul, nI_ne1, ne1_nI, nI_pge, nI_nlt0, nI_l, lN_i, lN_add, lN_mul, lN_sub, pk_lLT, pk_lLE, pk_lEQ, lg_lt, lg_ge, lg_eq0, lg_le, lg_gt, lg_ltn, lg_gen, lg_eq0n, lg_len, lg_gtn, Nat.zero_le, Nat.not_lt_zero, not_false_eq_true, not_true_eq_false, true_and, and_true]; done) | (simp (maxSteps := 4000000) (disch := omega) only [n_0, n_1, n_2, n_3, n_4, n_5, n_6, n_7, n_8, n_9, n_10, n_11, n_12, n_13, n_14, n_15, n_16, n_18, n_20, n_24, n_31, n_32, n_34, n_40, n_41, n_44, n_45, n_47, n_48, n_57, n_58, n_59, n_61, n_63, n_64, n_65, n_68, n_90, n_91, n_93, n_95, n_97, n_100, n_122, n_123, n_125, n_128, n_144, n_200, n_255, n_256, n_300, n_400, n_600, n_1536, n_3980, n_4000, n_4001, n_4300, n_65536, l_0, l_1, l_2, l_3, l_4, l_10, l_48, l_63, l_255, l_300, nI_ltI, nI_leI, nI_eq, nI_clamp, nI_add, pk_sub, pk_mul, nI_ne1, ne1_nI, nI_pge, nI_nlt0, nI_l, lN_i, lN_add, lN_mul, lN_sub, pk_lLT, pk_lLE, pk_lEQ, lg_lt, lg_ge, lg_eq0, lg_le, lg_gt, lg_ltn, lg_gen, lg_eq0n, lg_len, lg_gtn, Nat.zero_le, Nat.not_lt_zero, not_false_eq_true, not_true_eq_false, true_and, and_true]; omega) | omega)) (o_neg (show ¬ nI (N + 4) ≤ nI 4000 by (first | (simp (maxSteps := 4000000) (disch := omega) only [n_0, n_1, n_2, n_3, n_4, n_5, n_6, n_7, n_8, n_9, n_10, n_11, n_12, n_13, n_14, n_15, n_16, n_18, n_20, n_24, n_31, n_32, n_34, n_40, n_41, n_44, n_45, n_47, n_48, n_57, n_58, n_59, n_61, n_63, n_64, n_65, n_68, n_90, n_91, n_93, n_95, n_97, n_100, n_122, n_123, n_125, n_128, n_144, n_200, n_255, n_256, n_300, n_400, n_600, n_1536, n_3980, n_4000, n_4001, n_4300, n_65536, l_0, l_1, l_2, l_3, l_4, l_10, l_48, l_63, l_255, l_300, nI_ltI, nI_leI, nI_eq, nI_clamp, nI_add, pk_sub, pk_mul, nI_ne1, ne1_nI, nI_pge, nI_nlt0, nI_l, lN_i, lN_add, lN_mul, lN_sub, pk_lLT, pk_lLE, pk_lEQ, lg_lt, lg_ge, lg_eq0, lg_le, lg_gt, lg_ltn, lg_gen, lg_eq0n, lg_len, lg_gtn, Nat.zero_le, Nat.not_lt_zero, not_false_eq_true, not_true_eq_false, true_and, and_true]; done) | (simp (maxSteps := 4000000) (disch := omega) only [n_0, n_1, n_2, n_3, n_4, n_5, n_6, n_7, n_8, n_9, n_10, n_11, n_12, n_13, n_14, n_15, n_16, n_18, n_20, n_24, n_31, n_32, n_34, n_40, n_41, n_44, n_45, n_47, n_48, n_57, n_58, n_59, n_61, n_63, n_64, n_65, n_68, n_90, n_91, n_93, n_95, n_97, n_100, n_122, n_123, n_125, n_128, n_144, n_200, n_255, n_256, n_300, n_400, n_600, n_1536, n_3980, n_4000, n_4001, n_4300, n_65536, l_0, l_1, l_2, l_3, l_4, l_10, l_48, l_63, l_255, l_300, nI_ltI, nI_leI, nI_eq, nI_clamp, nI_add, pk_sub, pk_mul, nI_ne1, ne1_nI, nI_pge, nI_nlt0, nI_l, lN_i, lN_add, lN_mul, lN_sub, pk_lLT, pk_lLE, pk_lEQ, lg_lt, lg_ge, lg_eq0, lg_le, lg_gt, lg_ltn, lg_gen, lg_eq0n, lg_len, lg_gtn, Nat.zero_le, Nat.not_lt_zero, not_false_eq_true, not_true_eq_false, true_and, and_true]; omega) | omega)) rfl)
  · refine thw 1 1 (by decide) ?_ (fun p0 kq => ?_)
    · unfold f_t_text
      rw [← hc]
      exact o_bind (e_u_isOpen1 (by rw [e10]; exact o1)) (o_neg one0 (o_pos hm1 rfl))
    · unfold f_m_text
      exact o_neg (by rw [kq]; exact o2) rfl
end Text
