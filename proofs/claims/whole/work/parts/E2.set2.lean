/-! Calls: set, a union and all cases -/

section SetU
variable {h g : XH} {S : Nat} {sg : SGT} {sd : Nat → Int64}
theorem v8_oct (v : Int64) : tn v.toInt32 % 256 = v8 v 0 := by
  rw [l_i32]
  unfold v8
  rw [Nat.pow_zero, Nat.div_one]
  omega
theorem uni_cls {c : XH} {n ga t f slot N tt st : Nat} (L : LY c) (hS : S + 616 ≤ 1244) (r4 : hr c 0 4 = some S) (C : CS c S sg sd) (W : WF sg sd) (ht : t < sg 0 1) (hf : f < sg 10 t) (f16 : f < 16) (j1 : hi c 1244 1 = nI n) (j2 : hi c 1244 2 = nI ga) (hg : ga ≤ 8) (n4 : n ≤ 4000) (i3 : hi c (dT S t + 2 + f) 3 = nI 4) (i6 : hi c (dT S t + 2 + f) 6 = nI slot) (fk : dT S t + 2 + f < hz c ∧ hk c (dT S t + 2 + f) = 3) (s32 : slot + 1 < 32) (hN : N = rU (n + 4) 4) (c4 : N + 1 ≤ 4000) (t3 : tt < 300) (ev : hj c 6 1 = lN tt) (stn : st ≤ n) (a8 : hi c 1250 tt = nI st) : ∃ u, b_t_set_130 (nI f) (some (dT S t + 2 + f)) c = some (Sum.inl 1, u) ∧ FRM uS c u ∧ (hi u 1244 1 = nI (N + 1) ∧ hi u 1244 2 = nI (max (max ga 4) 1)) ∧ (∀ j, hi u 1252 j = if j = f then 1 else hi c 1252 j) ∧ (∀ s, hi u 1253 s = if s = slot then nI (N + 1) else if s = slot + 1 then nI N else hi c 1253 s) ∧ (∀ k, 4000 - n ≤ k → cb u 1246 k = cb c 1246 k) ∧ (∀ k, 4000 - N + 4 ≤ k → k < 4000 - n → cb u 1246 k = 0) ∧ (∀ j, j < 4 → cb u 1246 (4000 - N + j) = v8 (lN (N - st)) j) ∧ cb u 1246 (4000 - (N + 1)) = v8 (hj c 6 0) 0 := by
  have w0 := W.1
  obtain ⟨r1, r2, r3⟩ := rU_f (x := n + 4) (a := 4) (by omega)
  have eR := e_t_roundUp (h := c) (x := n + 4) (a := 4) (by omega) (by omega)
  rw [← hN] at r1 r2 r3 eR
  have dl : S ≤ dT S t + 2 + f ∧ dT S t + 2 + f < S + 616 := by
    have := (W.2.2.1 t ht).1
    unfold dT
    omega
  have d46 : ¬ dT S t + 2 + f = 1246 := by omega
  have d44 : ¬ dT S t + 2 + f = 1244 := by omega
  have d53 : ¬ dT S t + 2 + f = 1253 := by omega
  have nu : ∀ k, ¬ uP (dT S t + 2 + f) k := fun k => by simp [uP, d46, d44]
  obtain ⟨u1, u2, y1, y2, F1, F2, y3, y4, y5, y6, y7⟩ := e_u_gp (c := c) (n := n) (a := 4) (b := 4) (EB := fun j => v8 (lN (N - st)) j) (A := fun u => f_u_putReference (nI (4000 - N)) (lN tt) u) L.b1245 j1 j2 hg (by omega) (by rw [← hN]; omega) (by
    rw [← hN]
    intro u Fu zu
    have Lu : LY u := by rw [Fu.ly]; exact L
    exact e_u_ref Lu.b1245 (by rw [Fu.at (by simp [uP])]; exact a8) t3 (by omega) (by omega))
  rw [← hN] at y1 y3 y6 y7
  have L1 : LY u1 := by rw [F1.ly]; exact L
  have L2 : LY u2 := by rw [F2.ly]; exact L1
  have fk2 : dT S t + 2 + f < hz u2 ∧ hk u2 (dT S t + 2 + f) = 3 := by rw [F2.1.1, F2.1.2.2.1, F1.1.1, F1.1.2.2.1]; exact fk
  have q6 : hi u2 (dT S t + 2 + f) 6 = nI slot := by rw [F2.at d46, F1.at (nu 6)]; exact i6
  have v1u : hj u1 6 1 = lN tt := by rw [F1.hj (by decide)]; exact ev
  obtain ⟨u3, hu3⟩ : ∃ u3, u3 = hsi u2 1253 (slot + 1) (nI N) := ⟨_, rfl⟩
  have F3 : FRM (fun a _ => a = 1253) u2 u3 := by rw [hu3]; exact FRM.refl.si (by simp)
  have L3 : LY u3 := by rw [F3.ly]; exact L2
  have rU1 : rU (N + 1) 1 = N + 1 := by unfold rU; omega
  obtain ⟨u4, x1, F4, x2, x3, x4, x5⟩ := e_u_grow (b := 1) (a := 1) L3.b1245 (by rw [F3.at (by simp)]; exact y3) (by rw [F3.at (by simp)]; exact y4) (by omega) (by omega) (by rw [rU1]; exact c4)
  rw [rU1] at x1 x2 x4 x5
  have L4 : LY u4 := by rw [F4.ly]; exact L3
  have v0u : hj u4 6 0 = hj c 6 0 := by rw [F4.hj (by decide), F3.hj (by decide), F2.hj (by decide), F1.hj (by decide)]
  obtain ⟨u5, hu5⟩ : ∃ u5, u5 = hsi u4 1246 (4000 - (N + 1)) (vp_nar .byte (Int32.toInt8 (hj c 6 0).toInt32).toInt32) := ⟨_, rfl⟩
  have F5 : FRM (fun a k => a = 1246 ∧ k = 4000 - (N + 1)) u4 u5 := by rw [hu5]; exact FRM.refl.si ⟨rfl, rfl⟩
  have po : f_b_putOctet 1245 (nI (4000 - (N + 1))) (hj c 6 0).toInt32 u4 = some ((), u5) := by rw [hu5]; exact e_b_putOctet L4.b1245 (by omega)
  have fk5 : dT S t + 2 + f < hz u5 ∧ hk u5 (dT S t + 2 + f) = 3 := by rw [F5.1.1, F5.1.2.2.1, F4.1.1, F4.1.2.2.1, F3.1.1, F3.1.2.2.1]; exact fk2
  have q65 : hi u5 (dT S t + 2 + f) 6 = nI slot := by rw [F5.at (by simp [d46]), F4.at (nu 6), F3.at d53]; exact q6
  have l5 : hi u5 1244 1 = nI (N + 1) := by rw [F5.at (by simp)]; exact x2
  obtain ⟨u7, hu7⟩ : ∃ u7, u7 = hsi (hsi u5 1253 slot (nI (N + 1))) 1252 f (vp_nar .boolean 1) := ⟨_, rfl⟩
  have F7 : FRM (fun a _ => a = 1253 ∨ a = 1252) u5 u7 := by rw [hu7]; exact (FRM.refl.si (by simp)).si (by simp)
  have cb7 : ∀ k, cb u7 1246 k = cb u5 1246 k := fun k => F7.cbq (by simp)
  have cb2 : ∀ k, 4000 - N ≤ k → cb u5 1246 k = cb u2 1246 k := fun k hk' => by
    rw [F5.cbq (fun q => by omega), cb_q (x5 k (by omega))]
    exact F3.cbq (by simp)
  refine ⟨u7, ?_, (((F1.mono (fun _ _ q => Or.inl q)).trans (F2.mono (fun _ _ q => Or.inl (Or.inl q)))).trans ((F3.mono (fun _ _ q => Or.inr (Or.inr q))).trans (F4.mono (fun _ _ q => Or.inl q)))).trans ((F5.mono (fun _ _ q => Or.inl (Or.inl q.1))).trans (F7.mono (fun _ _ q => Or.inr (Or.symm q)))), ⟨?_, ?_⟩, fun j => ?_, fun s => ?_, fun k hk' => ?_, fun k h1 h2 => ?_, fun j hj' => ?_, ?_⟩
  · unfold b_t_set_130
    refine o_bind r4 (o_bind rfl (o_bind (v := (1, hsi u5 1253 slot (nI (N + 1)))) ?_ (o_pos one0 (o_bind (e_u_markSet f16) ?_))))
    · unfold f_u_putField
      rw [i3]
      refine o_pos fk (o_neg (not_not_intro rfl) (o_bind (v := (1, hsi u5 1253 slot (nI (N + 1)))) ?_ (o_pos (Or.inr rfl) rfl)))
      unfold f_u_putUnion
      rw [j1, n_4, nI_add]
      refine o_bind eR (o_pos (show nI N + nI 1 ≤ nI 4000 by rw [nI_add]; (first | (simp (maxSteps := 4000000) (disch := omega) only [n_0, n_1, n_2, n_3, n_4, n_5, n_6, n_7, n_8, n_9, n_10, n_11, n_12, n_13, n_14, n_15, n_16, n_18, n_20, n_24, n_31, n_32, n_34, n_40, n_41, n_44, n_45, n_47, n_48, n_57, n_58, n_59, n_61, n_63, n_64, n_65, n_68, n_90, n_91, n_93, n_95, n_97, n_100, n_122, n_123, n_125, n_128, n_144, n_200, n_255, n_256, n_300, n_400, n_600, n_1536, n_3980, n_4000, n_4001, n_4300, n_65536, l_0, l_1, l_2, l_3, l_4, l_10, l_48, l_63, l_255, l_300, nI_ltI, nI_leI, nI_eq, nI_clamp, nI_add, pk_sub, pk_mul, nI_ne1, ne1_nI, nI_pge, nI_nlt0, nI_l, lN_i, lN_add, lN_mul, lN_sub, pk_lLT, pk_lLE, pk_lEQ, lg_lt, lg_ge, lg_eq0, lg_le, lg_gt, lg_ltn, lg_gen, lg_eq0n, lg_len, lg_gtn, Nat.zero_le, Nat.not_lt_zero, not_false_eq_true, not_true_eq_false, true_and, and_true]; done) | (simp (maxSteps := 4000000) (disch := omega) only [n_0, n_1, n_2, n_3, n_4, n_5, n_6, n_7, n_8, n_9, n_10, n_11, n_12, n_13, n_14, n_15, n_16, n_18, n_20, n_24, n_31, n_32, n_34, n_40, n_41, n_44, n_45, n_47, n_48, n_57, n_58, n_59, n_61, n_63, n_64, n_65, n_68, n_90, n_91, n_93, n_95, n_97, n_100, n_122, n_123, n_125, n_128, n_144, n_200, n_255, n_256, n_300, n_400, n_600, n_1536, n_3980, n_4000, n_4001, n_4300, n_65536, l_0, l_1, l_2, l_3, l_4, l_10, l_48, l_63, l_255, l_300, nI_ltI, nI_leI, nI_eq, nI_clamp, nI_add, pk_sub, pk_mul, nI_ne1, ne1_nI, nI_pge, nI_nlt0, nI_l, lN_i, lN_add, lN_mul, lN_sub, pk_lLT, pk_lLE, pk_lEQ, lg_lt, lg_ge, lg_eq0, lg_le, lg_gt, lg_ltn, lg_gen, lg_eq0n, lg_len, lg_gtn, Nat.zero_le, Nat.not_lt_zero, not_false_eq_true, not_true_eq_false, true_and, and_true]; omega) | omega)) (o_bind y1 (o_pos ⟨L1.lt (by decide), L1.k5⟩ (o_bind (e_w_at L1 (k := 1) (by decide)) ?_))))
      dsimp only
      rw [v1u]
      refine o_bind y2 (o_pos fk2 ?_)
      dsimp only
      rw [q6, n_1, nI_add]
      refine o_bind (v := ((), u3)) (by rw [e_u_markStored s32, y3, hu3]) (o_bind x1 (o_pos ⟨L4.lt (by decide), L4.k5⟩ (o_bind (e_w_at L4 (k := 0) (by decide)) ?_)))
      dsimp only
      rw [v0u]
      refine o_bind po (o_pos fk5 ?_)
      dsimp only
      rw [q65]
      refine o_bind (e_u_markStored (by omega)) ?_
      dsimp only
      rw [l5]
    · rw [hu7]
  · rw [F7.at (by simp)]; exact l5
  · rw [F7.at (by simp), F5.at (by simp)]; exact x3
  · by_cases q : j = f
    · rw [if_pos q, q, hu7, hi_at]; rfl
    · rw [if_neg q, hu7, hi_nk q, hi_hsi_ne (by decide), F5.at (by simp), F4.at (by simp [uP]), F3.at (by simp), F2.at (by decide), F1.at (by simp [uP])]
  · by_cases q : s = slot
    · rw [if_pos q, q, hu7, hi_hsi_ne (by decide), hi_at]
    · rw [if_neg q, hu7, hi_hsi_ne (by decide), hi_nk q, F5.at (by simp), F4.at (by simp [uP])]
      by_cases q2 : s = slot + 1
      · rw [if_pos q2, q2, hu3, hi_at]
      · rw [if_neg q2, hu3, hi_nk q2, F2.at (by decide), F1.at (by simp [uP])]
  · rw [cb7, cb2 k (by omega)]; exact y5 k hk'
  · rw [cb7, cb2 k (by omega)]; exact y6 k h1 h2
  · rw [cb7, cb2 _ (by omega)]; exact y7 j hj'
  · rw [cb7, hu5, cb_put, v8_oct]
theorem uni_mod {c : XH} {n gm f i slot N tt st : Nat} {v0 : Int64} (k57 : hi c 1262 57 = nI n) (k58 : hi c 1262 58 = nI gm) (hg : gm ≤ 8) (n4 : n ≤ 4000) (f16 : f < 16) (i256 : i < 256) (s32 : slot + 1 < 32) (m89 : hi c 1289 i = nI slot) (nN : n + 4 ≤ N) (c4 : N + 1 ≤ 4000) (t3 : tt < 300) (ev : hj c 1298 1 = lN tt) (ev0 : hj c 1298 0 = v0) (stn : st ≤ n) (a9 : hi c 1303 tt = nI st) : ∃ p, b_m_set_224 (nI f) (nI i) (nI 4) (nI 4) (nI 4) (nI (N - (n + 4))) (nI N) 1 c = some (1, p) ∧ FRM mS c p ∧ (hi p 1262 57 = nI (N + 1) ∧ hi p 1262 58 = nI (max gm 4)) ∧ (∀ j, hi p 1306 j = if j = f then 1 else hi c 1306 j) ∧ (∀ s, hi p 1307 s = if s = slot then nI (N + 1) else if s = slot + 1 then nI N else hi c 1307 s) ∧ (∀ i, i < n → hi p 1299 i = hi c 1299 i) ∧ (∀ i, n ≤ i → i < N - 4 → hi p 1299 i = 0) ∧ (∀ j, j < 4 → hi p 1299 (N - 4 + j) = nI (v8 (lN (N - st)) (4 - 1 - j))) ∧ hi p 1299 N = nI (v8 v0 0) := by
  have al1 := e_m_aligned (h := hsi c 1306 f (vp_nar .boolean 1)) (a := 4) (gm := gm) (by rw [hi_hsi_ne (by decide)]; exact k58) hg (by decide)
  obtain ⟨p2, s1', G2, s2, s3, s4⟩ := e_m_zeros (h := hsi (hsi c 1306 f (vp_nar .boolean 1)) 1262 58 (nI (max gm 4))) (n := n) (k := N - (n + 4)) (by rw [hi_nk (by decide), hi_hsi_ne (by decide)]; exact k57) (by omega)
  have en : n + (N - (n + 4)) = N - 4 := by omega
  rw [en] at s2 s4
  have GV : FRM mW c p2 := ((FRM.refl.si (by simp [mW])).si (by simp [mW])).trans (G2.mono (fun _ _ => mP_mW))
  obtain ⟨p3, d1, G3, d2, d3, d4⟩ := e_m_ref (t := tt) (st := st) s2 (by rw [GV.at (by simp [mW])]; exact a9) t3 (by omega) (by omega)
  rw [show N - 4 + 4 = N by omega] at d2 d4
  obtain ⟨p4, hp4⟩ : ∃ p4, p4 = hsi p3 1307 (slot + 1) (nI N) := ⟨_, rfl⟩
  have G4 : FRM (fun a _ => a = 1307) p3 p4 := by rw [hp4]; exact FRM.refl.si (by simp)
  obtain ⟨p5, l1, G5, l2, l3, l4⟩ := e_m_aheadk (h := p4) (v := v0) (k := 1) (by rw [G4.at (by simp)]; exact d2) (by decide) (by omega)
  obtain ⟨p6, hp6⟩ : ∃ p6, p6 = hsi p5 1307 slot (nI (N + 1)) := ⟨_, rfl⟩
  have G6 : FRM (fun a _ => a = 1307) p5 p6 := by rw [hp6]; exact FRM.refl.si (by simp)
  have hj2 : hj p2 1298 1 = lN tt := by rw [GV.hj (by decide)]; exact ev
  have hj3 : hj p3 1298 0 = v0 := by rw [G3.hj (by decide), GV.hj (by decide)]; exact ev0
  refine ⟨p6, ?_, ((GV.mono (fun _ _ q => Or.inl q)).trans (G3.mono (fun _ _ q => Or.inl (mP_mW q)))).trans (((G4.mono (fun _ _ q => Or.inr q)).trans (G5.mono (fun _ _ q => Or.inl (mP_mW q)))).trans (G6.mono (fun _ _ q => Or.inr q))), ⟨?_, ?_⟩, fun j => ?_, fun s => ?_, fun i hi' => ?_, fun i h1 h2 => ?_, fun j hj' => ?_, ?_⟩
  · unfold b_m_set_224
    rw [nI_clamp (show f < 2 ^ 31 by omega), nI_clamp (show i < 2 ^ 31 by omega)]
    refine o_pos (show nI N + nI 1 ≤ nI 4000 by rw [nI_add]; (first | (simp (maxSteps := 4000000) (disch := omega) only [n_0, n_1, n_2, n_3, n_4, n_5, n_6, n_7, n_8, n_9, n_10, n_11, n_12, n_13, n_14, n_15, n_16, n_18, n_20, n_24, n_31, n_32, n_34, n_40, n_41, n_44, n_45, n_47, n_48, n_57, n_58, n_59, n_61, n_63, n_64, n_65, n_68, n_90, n_91, n_93, n_95, n_97, n_100, n_122, n_123, n_125, n_128, n_144, n_200, n_255, n_256, n_300, n_400, n_600, n_1536, n_3980, n_4000, n_4001, n_4300, n_65536, l_0, l_1, l_2, l_3, l_4, l_10, l_48, l_63, l_255, l_300, nI_ltI, nI_leI, nI_eq, nI_clamp, nI_add, pk_sub, pk_mul, nI_ne1, ne1_nI, nI_pge, nI_nlt0, nI_l, lN_i, lN_add, lN_mul, lN_sub, pk_lLT, pk_lLE, pk_lEQ, lg_lt, lg_ge, lg_eq0, lg_le, lg_gt, lg_ltn, lg_gen, lg_eq0n, lg_len, lg_gtn, Nat.zero_le, Nat.not_lt_zero, not_false_eq_true, not_true_eq_false, true_and, and_true]; done) | (simp (maxSteps := 4000000) (disch := omega) only [n_0, n_1, n_2, n_3, n_4, n_5, n_6, n_7, n_8, n_9, n_10, n_11, n_12, n_13, n_14, n_15, n_16, n_18, n_20, n_24, n_31, n_32, n_34, n_40, n_41, n_44, n_45, n_47, n_48, n_57, n_58, n_59, n_61, n_63, n_64, n_65, n_68, n_90, n_91, n_93, n_95, n_97, n_100, n_122, n_123, n_125, n_128, n_144, n_200, n_255, n_256, n_300, n_400, n_600, n_1536, n_3980, n_4000, n_4001, n_4300, n_65536, l_0, l_1, l_2, l_3, l_4, l_10, l_48, l_63, l_255, l_300, nI_ltI, nI_leI, nI_eq, nI_clamp, nI_add, pk_sub, pk_mul, nI_ne1, ne1_nI, nI_pge, nI_nlt0, nI_l, lN_i, lN_add, lN_mul, lN_sub, pk_lLT, pk_lLE, pk_lEQ, lg_lt, lg_ge, lg_eq0, lg_le, lg_gt, lg_ltn, lg_gen, lg_eq0n, lg_len, lg_gtn, Nat.zero_le, Nat.not_lt_zero, not_false_eq_true, not_true_eq_false, true_and, and_true]; omega) | omega)) (o_pos (by (first | (simp (maxSteps := 4000000) (disch := omega) only [n_0, n_1, n_2, n_3, n_4, n_5, n_6, n_7, n_8, n_9, n_10, n_11, n_12, n_13, n_14, n_15, n_16, n_18, n_20, n_24, n_31, n_32, n_34, n_40, n_41, n_44, n_45, n_47, n_48, n_57, n_58, n_59, n_61, n_63, n_64, n_65, n_68, n_90, n_91, n_93, n_95, n_97, n_100, n_122, n_123, n_125, n_128, n_144, n_200, n_255, n_256, n_300, n_400, n_600, n_1536, n_3980, n_4000, n_4001, n_4300, n_65536, l_0, l_1, l_2, l_3, l_4, l_10, l_48, l_63, l_255, l_300, nI_ltI, nI_leI, nI_eq, nI_clamp, nI_add, pk_sub, pk_mul, nI_ne1, ne1_nI, nI_pge, nI_nlt0, nI_l, lN_i, lN_add, lN_mul, lN_sub, pk_lLT, pk_lLE, pk_lEQ, lg_lt, lg_ge, lg_eq0, lg_le, lg_gt, lg_ltn, lg_gen, lg_eq0n, lg_len, lg_gtn, Nat.zero_le, Nat.not_lt_zero, not_false_eq_true, not_true_eq_false, true_and, and_true]; done) | (simp (maxSteps := 4000000) (disch := omega) only [n_0, n_1, n_2, n_3, n_4, n_5, n_6, n_7, n_8, n_9, n_10, n_11, n_12, n_13, n_14, n_15, n_16, n_18, n_20, n_24, n_31, n_32, n_34, n_40, n_41, n_44, n_45, n_47, n_48, n_57, n_58, n_59, n_61, n_63, n_64, n_65, n_68, n_90, n_91, n_93, n_95, n_97, n_100, n_122, n_123, n_125, n_128, n_144, n_200, n_255, n_256, n_300, n_400, n_600, n_1536, n_3980, n_4000, n_4001, n_4300, n_65536, l_0, l_1, l_2, l_3, l_4, l_10, l_48, l_63, l_255, l_300, nI_ltI, nI_leI, nI_eq, nI_clamp, nI_add, pk_sub, pk_mul, nI_ne1, ne1_nI, nI_pge, nI_nlt0, nI_l, lN_i, lN_add, lN_mul, lN_sub, pk_lLT, pk_lLE, pk_lEQ, lg_lt, lg_ge, lg_eq0, lg_le, lg_gt, lg_ltn, lg_gen, lg_eq0n, lg_len, lg_gtn, Nat.zero_le, Nat.not_lt_zero, not_false_eq_true, not_true_eq_false, true_and, and_true]; omega) | omega)) (o_bind al1 (o_bind s1' (o_pos (by (first | (simp (maxSteps := 4000000) (disch := omega) only [n_0, n_1, n_2, n_3, n_4, n_5, n_6, n_7, n_8, n_9, n_10, n_11, n_12, n_13, n_14, n_15, n_16, n_18, n_20, n_24, n_31, n_32, n_34, n_40, n_41, n_44, n_45, n_47, n_48, n_57, n_58, n_59, n_61, n_63, n_64, n_65, n_68, n_90, n_91, n_93, n_95, n_97, n_100, n_122, n_123, n_125, n_128, n_144, n_200, n_255, n_256, n_300, n_400, n_600, n_1536, n_3980, n_4000, n_4001, n_4300, n_65536, l_0, l_1, l_2, l_3, l_4, l_10, l_48, l_63, l_255, l_300, nI_ltI, nI_leI, nI_eq, nI_clamp, nI_add, pk_sub, pk_mul, nI_ne1, ne1_nI, nI_pge, nI_nlt0, nI_l, lN_i, lN_add, lN_mul, lN_sub, pk_lLT, pk_lLE, pk_lEQ, lg_lt, lg_ge, lg_eq0, lg_le, lg_gt, lg_ltn, lg_gen, lg_eq0n, lg_len, lg_gtn, Nat.zero_le, Nat.not_lt_zero, not_false_eq_true, not_true_eq_false, true_and, and_true]; done) | (simp (maxSteps := 4000000) (disch := omega) only [n_0, n_1, n_2, n_3, n_4, n_5, n_6, n_7, n_8, n_9, n_10, n_11, n_12, n_13, n_14, n_15, n_16, n_18, n_20, n_24, n_31, n_32, n_34, n_40, n_41, n_44, n_45, n_47, n_48, n_57, n_58, n_59, n_61, n_63, n_64, n_65, n_68, n_90, n_91, n_93, n_95, n_97, n_100, n_122, n_123, n_125, n_128, n_144, n_200, n_255, n_256, n_300, n_400, n_600, n_1536, n_3980, n_4000, n_4001, n_4300, n_65536, l_0, l_1, l_2, l_3, l_4, l_10, l_48, l_63, l_255, l_300, nI_ltI, nI_leI, nI_eq, nI_clamp, nI_add, pk_sub, pk_mul, nI_ne1, ne1_nI, nI_pge, nI_nlt0, nI_l, lN_i, lN_add, lN_mul, lN_sub, pk_lLT, pk_lLE, pk_lEQ, lg_lt, lg_ge, lg_eq0, lg_le, lg_gt, lg_ltn, lg_gen, lg_eq0n, lg_len, lg_gtn, Nat.zero_le, Nat.not_lt_zero, not_false_eq_true, not_true_eq_false, true_and, and_true]; omega) | omega)) (o_pos (by decide) (o_pos (by decide) (o_neg (not_not_intro rfl) ?_)))))))
    dsimp only
    rw [GV.at (a := 1289) (by simp [mW]), m89]
    unfold b_m_set_321
    rw [c1', hj2, lN_i]
    refine o_pos (by decide) (o_bind d1 ?_)
    unfold b_m_set_326
    dsimp only
    rw [n_1, nI_add, nI_clamp (show slot + 1 < 2 ^ 31 by omega), d2, cz, hj3, ← hp4]
    refine o_neg (not_not_intro rfl) (o_pos (by (first | (simp (maxSteps := 4000000) (disch := omega) only [n_0, n_1, n_2, n_3, n_4, n_5, n_6, n_7, n_8, n_9, n_10, n_11, n_12, n_13, n_14, n_15, n_16, n_18, n_20, n_24, n_31, n_32, n_34, n_40, n_41, n_44, n_45, n_47, n_48, n_57, n_58, n_59, n_61, n_63, n_64, n_65, n_68, n_90, n_91, n_93, n_95, n_97, n_100, n_122, n_123, n_125, n_128, n_144, n_200, n_255, n_256, n_300, n_400, n_600, n_1536, n_3980, n_4000, n_4001, n_4300, n_65536, l_0, l_1, l_2, l_3, l_4, l_10, l_48, l_63, l_255, l_300, nI_ltI, nI_leI, nI_eq, nI_clamp, nI_add, pk_sub, pk_mul, nI_ne1, ne1_nI, nI_pge, nI_nlt0, nI_l, lN_i, lN_add, lN_mul, lN_sub, pk_lLT, pk_lLE, pk_lEQ, lg_lt, lg_ge, lg_eq0, lg_le, lg_gt, lg_ltn, lg_gen, lg_eq0n, lg_len, lg_gtn, Nat.zero_le, Nat.not_lt_zero, not_false_eq_true, not_true_eq_false, true_and, and_true]; done) | (simp (maxSteps := 4000000) (disch := omega) only [n_0, n_1, n_2, n_3, n_4, n_5, n_6, n_7, n_8, n_9, n_10, n_11, n_12, n_13, n_14, n_15, n_16, n_18, n_20, n_24, n_31, n_32, n_34, n_40, n_41, n_44, n_45, n_47, n_48, n_57, n_58, n_59, n_61, n_63, n_64, n_65, n_68, n_90, n_91, n_93, n_95, n_97, n_100, n_122, n_123, n_125, n_128, n_144, n_200, n_255, n_256, n_300, n_400, n_600, n_1536, n_3980, n_4000, n_4001, n_4300, n_65536, l_0, l_1, l_2, l_3, l_4, l_10, l_48, l_63, l_255, l_300, nI_ltI, nI_leI, nI_eq, nI_clamp, nI_add, pk_sub, pk_mul, nI_ne1, ne1_nI, nI_pge, nI_nlt0, nI_l, lN_i, lN_add, lN_mul, lN_sub, pk_lLT, pk_lLE, pk_lEQ, lg_lt, lg_ge, lg_eq0, lg_le, lg_gt, lg_ltn, lg_gen, lg_eq0n, lg_len, lg_gtn, Nat.zero_le, Nat.not_lt_zero, not_false_eq_true, not_true_eq_false, true_and, and_true]; omega) | omega)) (o_bind l1 ?_))
    unfold b_m_set_356
    dsimp only
    rw [l2, nI_clamp (show slot < 2 ^ 31 by omega)]
    refine o_pos (by (first | (simp (maxSteps := 4000000) (disch := omega) only [n_0, n_1, n_2, n_3, n_4, n_5, n_6, n_7, n_8, n_9, n_10, n_11, n_12, n_13, n_14, n_15, n_16, n_18, n_20, n_24, n_31, n_32, n_34, n_40, n_41, n_44, n_45, n_47, n_48, n_57, n_58, n_59, n_61, n_63, n_64, n_65, n_68, n_90, n_91, n_93, n_95, n_97, n_100, n_122, n_123, n_125, n_128, n_144, n_200, n_255, n_256, n_300, n_400, n_600, n_1536, n_3980, n_4000, n_4001, n_4300, n_65536, l_0, l_1, l_2, l_3, l_4, l_10, l_48, l_63, l_255, l_300, nI_ltI, nI_leI, nI_eq, nI_clamp, nI_add, pk_sub, pk_mul, nI_ne1, ne1_nI, nI_pge, nI_nlt0, nI_l, lN_i, lN_add, lN_mul, lN_sub, pk_lLT, pk_lLE, pk_lEQ, lg_lt, lg_ge, lg_eq0, lg_le, lg_gt, lg_ltn, lg_gen, lg_eq0n, lg_len, lg_gtn, Nat.zero_le, Nat.not_lt_zero, not_false_eq_true, not_true_eq_false, true_and, and_true]; done) | (simp (maxSteps := 4000000) (disch := omega) only [n_0, n_1, n_2, n_3, n_4, n_5, n_6, n_7, n_8, n_9, n_10, n_11, n_12, n_13, n_14, n_15, n_16, n_18, n_20, n_24, n_31, n_32, n_34, n_40, n_41, n_44, n_45, n_47, n_48, n_57, n_58, n_59, n_61, n_63, n_64, n_65, n_68, n_90, n_91, n_93, n_95, n_97, n_100, n_122, n_123, n_125, n_128, n_144, n_200, n_255, n_256, n_300, n_400, n_600, n_1536, n_3980, n_4000, n_4001, n_4300, n_65536, l_0, l_1, l_2, l_3, l_4, l_10, l_48, l_63, l_255, l_300, nI_ltI, nI_leI, nI_eq, nI_clamp, nI_add, pk_sub, pk_mul, nI_ne1, ne1_nI, nI_pge, nI_nlt0, nI_l, lN_i, lN_add, lN_mul, lN_sub, pk_lLT, pk_lLE, pk_lEQ, lg_lt, lg_ge, lg_eq0, lg_le, lg_gt, lg_ltn, lg_gen, lg_eq0n, lg_len, lg_gtn, Nat.zero_le, Nat.not_lt_zero, not_false_eq_true, not_true_eq_false, true_and, and_true]; omega) | omega)) ?_
    rw [hp6]
    rfl
  · rw [G6.at (by simp)]; exact l2
  · rw [G6.at (by simp), G5.at (by simp [mP]), G4.at (by simp), G3.at (by simp [mP]), G2.at (by simp [mP]), hi_at]
  · by_cases q : j = f
    · rw [if_pos q, q, G6.at (by simp), G5.at (by simp [mP]), G4.at (by simp), G3.at (by simp [mP]), G2.at (by simp [mP]), hi_hsi_ne (by decide), hi_at]; rfl
    · rw [if_neg q, G6.at (by simp), G5.at (by simp [mP]), G4.at (by simp), G3.at (by simp [mP]), G2.at (by simp [mP]), hi_hsi_ne (by decide), hi_nk q]
  · by_cases q : s = slot
    · rw [if_pos q, q, hp6, hi_at]
    · rw [if_neg q, hp6, hi_nk q, G5.at (by simp [mP])]
      by_cases q2 : s = slot + 1
      · rw [if_pos q2, q2, hp4, hi_at]
      · rw [if_neg q2, hp4, hi_nk q2, G3.at (by simp [mP]), GV.at (by simp [mW])]
  · rw [G6.at (by simp), l3 i (by omega), G4.at (by simp), d3 i (by omega), s3 i hi', hi_hsi_ne (by decide), hi_hsi_ne (by decide)]
  · rw [G6.at (by simp), l3 i (by omega), G4.at (by simp), d3 i h2]; exact s4 i h1 h2
  · rw [G6.at (by simp), l3 _ (by omega), G4.at (by simp)]; exact d4 j hj'
  · have := l4 0 (by decide)
    rw [Nat.add_zero] at this
    rw [G6.at (by simp), this]
/-- a union is put -/
theorem set_uni {n tc t f i lo slot N tt st : Nat} (H : RA h S sg sd) (hm : hz h < 900000) (C : CS (hsi h 5 1 0) S sg sd) (M : MS (hsi h 5 1 0) sg sd) (W : WF sg sd) (b1 : RBr h n) (b2 : RBg h) (b3 : RBt h n tc sg) (b4 : RBl h n tc) (ht : t < sg 0 1) (hf : f < sg 10 t) (f16 : f < 16) (ei : i = 16 * t + f) (e7 : hi h 1262 7 = 1) (e10 : hi h 1244 10 = nI t) (e67 : hi h 1262 67 = nI t) (e11 : hi h 1244 11 = nI lo) (e68 : hi h 1262 68 = nI lo) (lon : lo ≤ n) (fl : ∀ f, f < 16 → hi h 1252 f = hi h 1306 f ∧ (hi h 1306 f = 0 ∨ hi h 1306 f = 1)) (sl : ∀ s, s < 32 → ∃ v : Nat, hi h 1253 s = nI v ∧ hi h 1307 s = nI v ∧ v ≤ n ∧ (sg 11 t ≤ s → v = 0) ∧ (v = 0 ∨ lo < v)) (es : sg 12 i = 4) (esl : sg 15 i = slot) (hN : N = rU (n + 4) 4) (w0v : hj h 6 0 = hj h 1298 0) (w1v : hj h 6 1 = hj h 1298 1) (t3 : tt < tc) (ev : hj h 6 1 = lN tt) (stn : st ≤ n) (a8 : hi h 1250 tt = nI st) (a9 : hi h 1303 tt = nI st) : (∃ u, b_t_set_130 (nI f) (some (dT S t + 2 + f)) (hsi h 5 1 0) = some (Sum.inl 1, u) ∧ ∀ p0, OW u p0 → MSm (hsi h 5 1 0) p0 ∧ hi p0 1262 55 = hi h 1262 55 ∧ ∃ p, b_m_set_116 (nI f) (nI i) (nI 4) (hsi (hsi p0 1262 0 0) 1262 55 0) = some (1, p) ∧ hi p 1262 0 = 0 ∧ RX p ∧ RM h p) ∨ (b_t_set_130 (nI f) (some (dT S t + 2 + f)) (hsi h 5 1 0) = some (Sum.inr 2, hthr (hsi h 5 1 0)) ∧ ∀ g, MSm (hsi h 5 1 0) g → b_m_set_116 (nI f) (nI i) (nI 4) g = some (0, hsi g 1262 0 4)) := by
  have L := H.1
  have hS := H.sS
  have F0 : FRM (fun a k => a = 5 ∧ k = 1) h (hsi h 5 1 0) := FRM.refl.si ⟨rfl, rfl⟩
  obtain ⟨c, hc⟩ : ∃ c, c = hsi h 5 1 0 := ⟨_, rfl⟩
  rw [← hc] at C M F0 ⊢
  have L0 : LY c := by rw [F0.ly]; exact L
  have hm1 : hz c < 1000000 := by rw [F0.1.1]; omega
  have n4 := b1.1
  have tc3 := b3.1
  have w0 := W.1
  have i256 : i < 256 := by rw [ei]; exact W.i256 ht hf
  obtain ⟨⟨f1, f2⟩, i3, i4, i5, i6, i7, i8⟩ := C.fi W ht hf
  rw [← ei, es] at i3
  rw [← ei, esl] at i6
  have wff := ((W.2.2.1 t ht).2.2 f hf).2.2.1
  have wsl := (W.2.2.1 t ht).2.1
  rw [← ei, esl, es, if_pos rfl] at wff
  have s32 : slot + 1 < 32 := by omega
  have o8 : sg 13 i < 8 := by
    rcases W.fk ht hf with ⟨-, k⟩ | ⟨k, -⟩ | ⟨k, -⟩
    · rw [← ei] at k
      omega
    · rw [← ei] at k
      exact absurd es k
    · rw [← ei, es] at k
      exact absurd k (by decide)
  have r4 : hr c 0 4 = some S := by rw [F0.1.2.2.2.2]; exact H.2.1.1
  obtain ⟨r1, r2, r3⟩ := rU_f (x := n + 4) (a := 4) (by omega)
  rw [← hN] at r1 r2
  have j1 : hi c 1244 1 = nI n := by rw [F0.at (by simp)]; exact b1.2.1
  have m116 : ∀ g, MSm c g → b_m_set_116 (nI f) (nI i) (nI 4) g = b_m_set_187 (nI f) (nI i) (nI 4) (nI (zO sg 4 (sg 13 i))) (nI (aO sg 4 (sg 13 i))) g := fun g Q => e_m_set116 (Q.ms M) W (by rw [ei]; exact (Q.ms M).fi ht hf) i256 es rfl (Or.inr (Or.inl rfl)) (by omega)
  have z4 : zO sg 4 (sg 13 i) = 4 := rfl
  have a4 : aO sg 4 (sg 13 i) = 4 := rfl
  rw [z4, a4] at m116
  have m187 : ∀ g, MSm c g → ∀ X : Option (Int32 × XH), b_m_set_224 (nI f) (nI i) (nI 4) (nI 4) (nI 4) (nI (N - (n + 4))) (nI N) 1 g = X → b_m_set_116 (nI f) (nI i) (nI 4) g = X := by
    intro g Q X q
    have k57 : hi g 1262 57 = nI n := by rw [Q.2.2 57 (by decide) (by decide) (by decide), F0.at (by simp)]; exact b1.2.2.1
    rw [m116 g Q]
    unfold b_m_set_187
    rw [k57]
    have ff := e_m_fill (h := g) (n := n) (k := 4) (a := 4) (by omega) (by omega)
    rw [← hN] at ff
    refine o_bind ff (o_neg (not_not_intro rfl) ?_)
    dsimp only
    rw [k57, nI_add, nI_add, show n + (N - (n + 4)) + 4 = N by omega]
    exact q
  by_cases c4 : N + 1 ≤ 4000
  · refine Or.inl ?_
    obtain ⟨ga, gm, g1, g2, g3, g4, g5⟩ := b2
    obtain ⟨u, y1, F1, ⟨y2, y3⟩, y4, y5, y6, y7, y8, y9⟩ := uni_cls (ga := ga) (tt := tt) (st := st) L0 hS.1 r4 C W ht hf f16 j1 (by rw [F0.at (by simp)]; exact g2) (by omega) n4 i3 i6 ⟨f1, f2⟩ s32 hN c4 (by omega) (by rw [F0.hj (by decide)]; exact ev) stn (by rw [F0.at (by simp)]; exact a8)
    refine ⟨u, y1, fun p0 O => ?_⟩
    have FL : FRM lt62 c p0 := (F1.mono (fun _ _ => uS_62)).ow O
    have FH : FRM sP h p0 := ((F0.mono (fun _ _ => e5_sP)).trans (F1.mono (fun _ _ => uS_sP))).ow O
    have Q : MSm c p0 := FL.msm (fun a k q => Or.inl q)
    refine ⟨Q, by rw [FL.up (by decide), F0.at (by simp)], ?_⟩
    have Q0 : MSm c (hsi (hsi p0 1262 0 0) 1262 55 0) := (Q.si (Or.inl rfl)).si (Or.inr (Or.inr rfl))
    obtain ⟨q0, hq0⟩ : ∃ q0, q0 = hsi (hsi p0 1262 0 0) 1262 55 0 := ⟨_, rfl⟩
    rw [← hq0] at Q0 ⊢
    have MF := (Q0.ms M).fi ht hf
    rw [← ei] at MF
    have kq : ∀ k, k ≠ 0 → k ≠ 2 → k ≠ 55 → hi q0 1262 k = hi h 1262 k := fun k h1 h2 h3 => by rw [Q0.2.2 k h1 h2 h3, F0.at (by simp)]
    obtain ⟨p, z1, G1, ⟨z2, z3⟩, z4', z5, z6, z7, z8, z9⟩ := uni_mod (c := q0) (n := n) (gm := gm) (f := f) (i := i) (slot := slot) (N := N) (tt := tt) (st := st) (v0 := hj h 6 0) (by rw [kq 57 (by decide) (by decide) (by decide)]; exact b1.2.2.1) (by rw [kq 58 (by decide) (by decide) (by decide)]; exact g3) (by omega) n4 f16 i256 s32 (by rw [MF.2.2.2.1, esl]) r1 c4 (by omega) (by rw [Q0.2.1 1298 (by decide), F0.hj (by decide), ← w1v]; exact ev) (by rw [Q0.2.1 1298 (by decide), F0.hj (by decide), ← w0v]) stn (by rw [Q0.1 1303 (by decide) (by decide), F0.at (by simp)]; exact a9)
    have mo := m187 q0 Q0 _ z1
    clear m187 m116 z1 y1
    have G0 : FRM (fun a k => a = 1262 ∧ (k = 0 ∨ k = 55)) p0 q0 := by rw [hq0]; exact (FRM.refl.si (by simp)).si (by simp)
    have GL : FRM ge62 p0 p := (G0.mono (fun a k q => by rw [q.1]; exact Nat.le_refl _)).trans (G1.mono (fun _ _ => mS_62))
    have FA : FRM sP h p := (FH.trans (G0.mono (fun a k q => by rw [q.1]; simp [sP]; rcases q.2 with z | z <;> simp [z]))).trans (G1.mono (fun _ _ => mS_sP))
    have cel : ∀ a k, a < 1262 → hi p a k = hi u a k := fun a k ha => by rw [GL.lo ha, O.hiq]
    have cbe : ∀ k, cb p 1246 k = cb u 1246 k := fun k => cb_q (cel 1246 k (by decide))
    have c46 : ∀ k, cb c 1246 k = cb h 1246 k := fun k => F0.cbq (by simp)
    have q99 : ∀ i, hi q0 1299 i = hi h 1299 i := fun i => by rw [Q0.1 1299 (by decide) (by decide), F0.at (by simp)]
    have ro := row_join (EB := fun j => v8 (lN (N - st)) j) (h0 := h) (u := u) (p := p) (n := n) (N := N) (b := 4) b1 ⟨r1, by omega⟩ (fun k hk' => by rw [y6 k hk', c46]) y7 y8 (fun k hk' => by rw [z6 k hk', q99]) z7 z8
    have row : ∀ k, k < N + 1 → hi p 1299 k = nI (cb p 1246 (3999 - k)) := by
      intro k hk'
      rw [cbe]
      by_cases ck : k < N
      · exact ro k ck
      · have ek : k = N := by omega
        rw [ek, z9, show 3999 - N = 4000 - (N + 1) by omega, y9, F0.hj (by decide)]
    have r55 : hi p 1262 55 = 0 := by rw [G1.at (by simp [mS, mW]), hq0, hi_at]
    have r0 : hi p 1262 0 = 0 := by rw [G1.at (by simp [mS, mW]), hq0, hi_nk (by decide), hi_at]
    have r51 : hi p 5 1 = 0 := by rw [cel 5 1 (by decide), F1.at (by simp [uS, uP]), hc, hi_at]
    have rg : RBg p := ⟨max (max ga 4) 1, max gm 4, by omega, by rw [cel 1244 2 (by decide)]; exact y3, z3, by omega, fun q => by have := g5 e7; omega⟩
    have p11 : hi p 1 1 = hi h 1 1 := by rw [cel 1 1 (by decide), F1.at (by simp [uS, uP]), F0.at (by simp)]
    have p22 : hi p 1262 2 = hi h 1262 2 := by rw [G1.at (by simp [mS, mW]), G0.at (by simp), FL.up (by decide), F0.at (by simp)]
    have fin := set_fin (p := p) (N := N + 1) (f := f) H b1 b3 b4 ht e7 e10 e67 e11 e68 lon fl FA ⟨by omega, c4⟩ (by rw [cel 1244 1 (by decide)]; exact y2) z2 row (fun k h1 h2 => by rw [cbe, y6 k h1, c46]) rg (fun j hj' => ⟨fun q => ⟨by rw [cel 1252 j (by decide), y4, if_pos q], by rw [z4', if_pos q]⟩, fun q => ⟨by rw [cel 1252 j (by decide), y4, if_neg q, F0.at (by simp)], by rw [z4', if_neg q, Q0.1 1306 (by decide) (by decide), F0.at (by simp)]⟩⟩) (fun s hs => by
      rw [cel 1253 s (by decide), y5, z5]
      by_cases cs : s = slot
      · exact ⟨N + 1, by rw [if_pos cs], by rw [if_pos cs], Nat.le_refl _, fun q => by omega, Or.inr (by omega)⟩
      · rw [if_neg cs, if_neg cs]
        by_cases cs1 : s = slot + 1
        · exact ⟨N, by rw [if_pos cs1], by rw [if_pos cs1], by omega, fun q => by omega, Or.inr (by omega)⟩
        · obtain ⟨v, v1, v2, v3, v4, v5⟩ := sl s hs
          exact ⟨v, by rw [if_neg cs1, F0.at (by simp)]; exact v1, by rw [if_neg cs1, Q0.1 1307 (by decide) (by decide), F0.at (by simp)]; exact v2, by omega, v4, v5⟩) r51 r55 p11 p22
    exact ⟨p, mo, r0, ⟨S, sg, sd, fin.1⟩, fin.2⟩
  · refine Or.inr ⟨?_, fun g Q => m187 g Q _ ?_⟩
    · have eR := e_t_roundUp (h := c) (x := n + 4) (a := 4) (by omega) (by omega)
      rw [← hN] at eR
      unfold b_t_set_130
      refine o_bind r4 (o_bind rfl (o_bind (v := (0, c)) ?_ (o_neg (not_not_intro rfl) (o_pos hm1 rfl))))
      unfold f_u_putField
      rw [i3]
      refine o_pos ⟨f1, f2⟩ (o_neg (not_not_intro rfl) (o_bind (v := (0, c)) ?_ (o_pos (Or.inl rfl) rfl)))
      unfold f_u_putUnion
      rw [j1, n_4, nI_add]
      exact o_bind eR (o_neg (show ¬ nI N + nI 1 ≤ nI 4000 by rw [nI_add]; (first | (simp (maxSteps := 4000000) (disch := omega) only [n_0, n_1, n_2, n_3, n_4, n_5, n_6, n_7, n_8, n_9, n_10, n_11, n_12, n_13, n_14, n_15, n_16, n_18, n_20, n_24, n_31, n_32, n_34, n_40, n_41, n_44, n_45, n_47, n_48, n_57, n_58, n_59, n_61, n_63, n_64, n_65, n_68, n_90, n_91, n_93, n_95, n_97, n_100, n_122, n_123, n_125, n_128, n_144, n_200, n_255, n_256, n_300, n_400, n_600, n_1536, n_3980, n_4000, n_4001, n_4300, n_65536, l_0, l_1, l_2, l_3, l_4, l_10, l_48, l_63, l_255, l_300, nI_ltI, nI_leI, nI_eq, nI_clamp, nI_add, pk_sub, pk_mul, nI_ne1, ne1_nI, nI_pge, nI_nlt0, nI_l, lN_i, lN_add, lN_mul, lN_sub, pk_lLT, pk_lLE, pk_lEQ, lg_lt, lg_ge, lg_eq0, lg_le, lg_gt, lg_ltn, lg_gen, lg_eq0n, lg_len, lg_gtn, Nat.zero_le, Nat.not_lt_zero, not_false_eq_true, not_true_eq_false, true_and, and_true]; done) | (simp (maxSteps := 4000000) (disch := omega) only [n_0, n_1, n_2, n_3, n_4, n_5, n_6, n_7, n_8, n_9, n_10, n_11, n_12, n_13, n_14, n_15, n_16, n_18, n_20, n_24, n_31, n_32, n_34, n_40, n_41, n_44, n_45, n_47, n_48, n_57, n_58, n_59, n_61, n_63, n_64, n_65, n_68, n_90, n_91, n_93, n_95, n_97, n_100, n_122, n_123, n_125, n_128, n_144, n_200, n_255, n_256, n_300, n_400, n_600, n_1536, n_3980, n_4000, n_4001, n_4300, n_65536, l_0, l_1, l_2, l_3, l_4, l_10, l_48, l_63, l_255, l_300, nI_ltI, nI_leI, nI_eq, nI_clamp, nI_add, pk_sub, pk_mul, nI_ne1, ne1_nI, nI_pge, nI_nlt0, nI_l, lN_i, lN_add, lN_mul, lN_sub, pk_lLT, pk_lLE, pk_lEQ, lg_lt, lg_ge, lg_eq0, lg_le, lg_gt, lg_ltn, lg_gen, lg_eq0n, lg_len, lg_gtn, Nat.zero_le, Nat.not_lt_zero, not_false_eq_true, not_true_eq_false, true_and, and_true]; omega) | omega)) rfl)
    · unfold b_m_set_224
      exact o_neg (show ¬ nI N + nI 1 ≤ nI 4000 by rw [nI_add]; (first | (simp (maxSteps := 4000000) (disch := omega) only [n_0, n_1, n_2, n_3, n_4, n_5, n_6, n_7, n_8, n_9, n_10, n_11, n_12, n_13, n_14, n_15, n_16, n_18, n_20, n_24, n_31, n_32, n_34, n_40, n_41, n_44, n_45, n_47, n_48, n_57, n_58, n_59, n_61, n_63, n_64, n_65, n_68, n_90, n_91, n_93, n_95, n_97, n_100, n_122, n_123, n_125, n_128, n_144, n_200, n_255, n_256, n_300, n_400, n_600, n_1536, n_3980, n_4000, n_4001, n_4300, n_65536, l_0, l_1, l_2, l_3, l_4, l_10, l_48, l_63, l_255, l_300, nI_ltI, nI_leI, nI_eq, nI_clamp, nI_add, pk_sub, pk_mul, nI_ne1, ne1_nI, nI_pge, nI_nlt0, nI_l, lN_i, lN_add, lN_mul, lN_sub, pk_lLT, pk_lLE, pk_lEQ, lg_lt, lg_ge, lg_eq0, lg_le, lg_gt, lg_ltn, lg_gen, lg_eq0n, lg_len, lg_gtn, Nat.zero_le, Nat.not_lt_zero, not_false_eq_true, not_true_eq_false, true_and, and_true]; done) | (simp (maxSteps := 4000000) (disch := omega) only [n_0, n_1, n_2, n_3, n_4, n_5, n_6, n_7, n_8, n_9, n_10, n_11, n_12, n_13, n_14, n_15, n_16, n_18, n_20, n_24, n_31, n_32, n_34, n_40, n_41, n_44, n_45, n_47, n_48, n_57, n_58, n_59, n_61, n_63, n_64, n_65, n_68, n_90, n_91, n_93, n_95, n_97, n_100, n_122, n_123, n_125, n_128, n_144, n_200, n_255, n_256, n_300, n_400, n_600, n_1536, n_3980, n_4000, n_4001, n_4300, n_65536, l_0, l_1, l_2, l_3, l_4, l_10, l_48, l_63, l_255, l_300, nI_ltI, nI_leI, nI_eq, nI_clamp, nI_add, pk_sub, pk_mul, nI_ne1, ne1_nI, nI_pge, nI_nlt0, nI_l, lN_i, lN_add, lN_mul, lN_sub, pk_lLT, pk_lLE, pk_lEQ, lg_lt, lg_ge, lg_eq0, lg_le, lg_gt, lg_ltn, lg_gen, lg_eq0n, lg_len, lg_gtn, Nat.zero_le, Nat.not_lt_zero, not_false_eq_true, not_true_eq_false, true_and, and_true]; omega) | omega)) rfl
end SetU
