/-! ready: the table is closed, on both sides -/

/-- what closing writes in the class -/
def uR (tc lc a k : Nat) : Prop := a = 1246 ∨ (a = 1244 ∧ (k = 1 ∨ k = 2 ∨ k = 7 ∨ k = 9 ∨ k = 10)) ∨ (1247 ≤ a ∧ a ≤ 1250 ∧ k = tc) ∨ (a = 1251 ∧ k = lc)
def mR (tc lc a k : Nat) : Prop := a = 1299 ∨ (a = 1262 ∧ (k = 57 ∨ k = 59 ∨ k = 64 ∨ k = 67)) ∨ (1300 ≤ a ∧ a ≤ 1303 ∧ k = tc) ∨ ((a = 1304 ∨ a = 1305) ∧ k = lc)
section RdMono
variable {tc lc a k : Nat}
theorem uP_uR (q : uP a k) : uR tc lc a k := by unfold uP at q; unfold uR; omega
theorem uTh_uR (q : uTh tc a k) : uR tc lc a k := by unfold uTh at q; unfold uR; omega
theorem uL_uR (q : uL lc a k) : uR tc lc a k := by unfold uL at q; unfold uR; omega
theorem mP_mR (q : mP a k) : mR tc lc a k := by unfold mP at q; unfold mR; omega
theorem mTh_mR (q : mTh tc a k) : mR tc lc a k := by unfold mTh at q; unfold mR; omega
theorem uR_62 (q : uR tc lc a k) : lt62 a k := by unfold uR at q; unfold lt62; omega
theorem mR_62 (q : mR tc lc a k) : ge62 a k := by unfold mR at q; unfold ge62; omega
end RdMono
section Cls
variable {h g : XH} {S n tc t : Nat} {sg : SGT} {sd : Nat → Int64}
/-- the class's first half: the table's own bytes -/
theorem cls_tab {c : XH} {n p ga tc : Nat} {tI : Int32} (Ly : LY c) (j1 : hi c 1244 1 = nI n) (j2 : hi c 1244 2 = nI ga) (hg : ga ≤ 8) (n4 : n ≤ 4000) (hp : p = rU (n + 4) 4) (c4 : p ≤ 4000) (i7 : hi c 1244 7 = nI tc) (t3 : tc < 300) (i10 : hi c 1244 10 = tI) : ∃ u1 u, f_u_grow 4 4 c = some (nI (4000 - p), u1) ∧ f_u_addThing 3 (hi u1 1244 10) (-1) u1 = some (nI tc, u) ∧ FRM (fun a k => uP a k ∨ uTh tc a k) c u ∧ (hi u 1244 1 = nI p ∧ hi u 1244 2 = nI (max ga 4) ∧ hi u 1244 7 = nI (tc + 1)) ∧ (hi u 1247 tc = 3 ∧ hi u 1248 tc = tI ∧ hi u 1249 tc = -1 ∧ hi u 1250 tc = nI p) ∧ (∀ k, 4000 - n ≤ k → cb u 1246 k = cb c 1246 k) ∧ ∀ k, 4000 - p ≤ k → k < 4000 - n → cb u 1246 k = 0 := by
  obtain ⟨u1, y1, F1, y2, y3, y4, y5⟩ := e_u_grow (b := 4) (a := 4) Ly.b1245 j1 j2 hg (by omega) (by rw [← hp]; exact c4)
  rw [← hp] at y1 y2 y4 y5
  obtain ⟨r1, r2, r3⟩ := rU_f (x := n + 4) (a := 4) (by omega)
  obtain ⟨u, z1, F2, z2, z3, z4, z5, z6⟩ := e_u_addThing (h := u1) (x := 3) (y := hi u1 1244 10) (z := -1) (by rw [F1.at (by simp [uP])]; exact i7) t3
  have cb2 : ∀ k, cb u 1246 k = cb u1 1246 k := fun k => F2.cbq (by simp [uTh])
  refine ⟨u1, u, y1, z1, (F1.mono (fun _ _ q => Or.inl q)).trans (F2.mono (fun _ _ q => Or.inr q)), ⟨?_, ?_, z2⟩, ⟨z3, ?_, z5, ?_⟩, fun k hk' => ?_, fun k h1 h2 => ?_⟩
  · rw [F2.at (by simp [uTh])]; exact y2
  · rw [F2.at (by simp [uTh])]; exact y3
  · rw [z4, F1.at (by simp [uP])]; exact i10
  · rw [z6]; exact y2
  · rw [cb2, cb_q (y5 k (by omega))]
  · rw [cb2]; exact y4 k h1 h2
/-- the class closes over a list that stands -/
theorem cls_old {c : XH} {n p ga tc ls lc : Nat} {tI : Int32} (Ly : LY c) (j1 : hi c 1244 1 = nI n) (j2 : hi c 1244 2 = nI ga) (hg : ga ≤ 8) (n4 : n ≤ 4000) (hp : p = rU (n + 4) 4) (c4 : p ≤ 4000) (i7 : hi c 1244 7 = nI tc) (t3 : tc < 300) (i10 : hi c 1244 10 = tI) (hl : ls ≤ 4000) : ∃ u, b_u_close_38 (nI p) (nI ls) (nI p) c = some (nI tc, u) ∧ FRM (uR tc lc) c u ∧ (hi u 1244 1 = nI p ∧ hi u 1244 2 = nI (max ga 4) ∧ hi u 1244 7 = nI (tc + 1) ∧ hi u 1244 9 = hi c 1244 9 ∧ hi u 1244 10 = -1 ∧ hi u 1251 = hi c 1251) ∧ (hi u 1247 tc = 3 ∧ hi u 1248 tc = tI ∧ hi u 1249 tc = -1 ∧ hi u 1250 tc = nI p) ∧ (∀ k, 4000 - n ≤ k → cb u 1246 k = cb c 1246 k) ∧ (∀ k, 4000 - p + 4 ≤ k → k < 4000 - n → cb u 1246 k = 0) ∧ ∀ j, j < 4 → cb u 1246 (4000 - p + j) = v8 (Int32.toInt64 (nI ls - nI p)) j := by
  obtain ⟨r1, r2, r3⟩ := rU_f (x := n + 4) (a := 4) (by omega)
  rw [← hp] at r1 r2
  have rm : f_u_hasRoomForThing (nI p) c = some (1, c) := by
    rcases e_u_room (h := c) (N := p) i7 (by omega) (by omega) with ⟨-, -, q⟩ | ⟨q, -⟩
    · exact q
    · omega
  obtain ⟨u1, u2, y1, y2, F1, ⟨y3, y4, y5⟩, ⟨y6, y7, y8, y9⟩, y10, y11⟩ := cls_tab (p := p) (tI := tI) Ly j1 j2 hg n4 hp c4 i7 t3 i10
  have B2 : BY u2 1245 1246 := by rw [F1.by]; exact Ly.b1245
  obtain ⟨u3, x1, F2, x2, x3⟩ := e_u_put (i := 4000 - p) (k := 4) (v := Int32.toInt64 (nI ls - nI p)) B2 (by decide) (by omega)
  have F2' : FRM (uR tc lc) u2 u3 := F2.mono (fun _ _ q => Or.inl q)
  have F1' : FRM (uR tc lc) c u2 := F1.mono (fun _ _ q => q.elim uP_uR uTh_uR)
  refine ⟨hsi u3 1244 10 (-1), ?_, (F1'.trans F2').si (by simp [uR]), ⟨?_, ?_, ?_, ?_, hi_at, ?_⟩, ⟨?_, ?_, ?_, ?_⟩, fun k hk' => ?_, fun k h1 h2 => ?_, fun j hj' => ?_⟩
  · unfold b_u_close_38 b_u_close_79
    exact o_bind rm (o_pos one0 (o_bind y1 (o_bind y2 (o_pos (nI_n1 (by omega)) (o_bind x1 rfl)))))
  · rw [hi_nk (by decide), F2.at (by simp)]; exact y3
  · rw [hi_nk (by decide), F2.at (by simp)]; exact y4
  · rw [hi_nk (by decide), F2.at (by simp)]; exact y5
  · rw [hi_nk (by decide), F2.at (by simp), F1.at (by simp [uP, uTh])]
  · rw [hi_hsi_ne (by decide), F2.row (by simp), F1.row (by simp [uP, uTh])]
  · rw [hi_hsi_ne (by decide), F2.at (by simp)]; exact y6
  · rw [hi_hsi_ne (by decide), F2.at (by simp)]; exact y7
  · rw [hi_hsi_ne (by decide), F2.at (by simp)]; exact y8
  · rw [hi_hsi_ne (by decide), F2.at (by simp)]; exact y9
  · rw [cb_ne (by decide), cb_q (x3 k (by omega))]; exact y10 k hk'
  · rw [cb_ne (by decide), cb_q (x3 k (by omega))]; exact y11 k (by omega) h2
  · rw [cb_ne (by decide)]; exact x2 j hj'
/-- the class closes with a new list -/
theorem cls_new {c : XH} {L : Nat → Nat} {n p ga tc lc cnt : Nat} {tI : Int32} (Ly : LY c) (j1 : hi c 1244 1 = nI n) (j2 : hi c 1244 2 = nI ga) (hg : ga ≤ 8) (n4 : n ≤ 4000) (hp : p = rU (n + 4) 4) (c4 : p + 2 * cnt ≤ 4000) (i7 : hi c 1244 7 = nI tc) (t3 : tc < 300) (i10 : hi c 1244 10 = tI) (e15 : hi c 1244 15 = nI cnt) (c34 : cnt ≤ 34) (e54 : ∀ i, i < 34 → hi c 1254 i = nI (L i)) (hL : ∀ i, L i < 65536) (e9 : hi c 1244 9 = nI lc) (l3 : lc < 300) : ∃ u, b_u_close_38 (nI p) (-1) (nI (p + 2 * cnt)) c = some (nI tc, u) ∧ FRM (uR tc lc) c u ∧ (hi u 1244 1 = nI (p + 2 * cnt) ∧ hi u 1244 2 = nI (max (max ga 4) 2) ∧ hi u 1244 7 = nI (tc + 1) ∧ hi u 1244 9 = nI (lc + 1) ∧ hi u 1244 10 = -1 ∧ hi u 1251 lc = nI (p + 2 * cnt)) ∧ (hi u 1247 tc = 3 ∧ hi u 1248 tc = tI ∧ hi u 1249 tc = -1 ∧ hi u 1250 tc = nI p) ∧ (∀ k, 4000 - n ≤ k → cb u 1246 k = cb c 1246 k) ∧ (∀ k, 4000 - p + 4 ≤ k → k < 4000 - n → cb u 1246 k = 0) ∧ (∀ j, j < 4 → cb u 1246 (4000 - p + j) = v8 (Int32.toInt64 (nI (p + 2 * cnt) - nI p)) j) ∧ ∀ i, i < cnt → cb u 1246 (4000 - (p + 2 * cnt) + 2 * i) = L i % 256 ∧ cb u 1246 (4000 - (p + 2 * cnt) + 2 * i + 1) = L i / 256 := by
  obtain ⟨r1, r2, r3⟩ := rU_f (x := n + 4) (a := 4) (by omega)
  rw [← hp] at r1 r2 r3
  have rm : f_u_hasRoomForThing (nI (p + 2 * cnt)) c = some (1, c) := by
    rcases e_u_room (h := c) (N := p + 2 * cnt) i7 (by omega) (by omega) with ⟨-, -, q⟩ | ⟨q, -⟩
    · exact q
    · omega
  obtain ⟨u1, u2, y1, y2, F1, ⟨y3, y4, y5⟩, ⟨y6, y7, y8, y9⟩, y10, y11⟩ := cls_tab (p := p) (tI := tI) Ly j1 j2 hg n4 hp (by omega) i7 t3 i10
  have L2 : LY u2 := by rw [F1.ly]; exact Ly
  obtain ⟨u3, w1, F3, ⟨w2, w3, w4, w5⟩, w6, w7⟩ := e_u_putList (c := u2) (L := L) (cnt := cnt) (p := p) (lc := lc) (ga := max ga 4) L2 y3 y4 (by omega) (by rw [F1.at (by simp [uP, uTh])]; exact e15) c34 (fun i hi' => by rw [F1.at (by simp [uP, uTh])]; exact e54 i hi') hL (by rw [F1.at (by simp [uP, uTh])]; exact e9) l3 (by omega) c4
  have B3 : BY u3 1245 1246 := by rw [F3.by]; exact L2.b1245
  obtain ⟨u4, x1, F2, x2, x3⟩ := e_u_put (i := 4000 - p) (k := 4) (v := Int32.toInt64 (nI (p + 2 * cnt) - nI p)) B3 (by decide) (by omega)
  have F2' : FRM (uR tc lc) u3 u4 := F2.mono (fun _ _ q => Or.inl q)
  have F1' : FRM (uR tc lc) c u2 := F1.mono (fun _ _ q => q.elim uP_uR uTh_uR)
  have F3' : FRM (uR tc lc) u2 u3 := F3.mono (fun _ _ => uL_uR)
  refine ⟨hsi u4 1244 10 (-1), ?_, ((F1'.trans F3').trans F2').si (by simp [uR]), ⟨?_, ?_, ?_, ?_, hi_at, ?_⟩, ⟨?_, ?_, ?_, ?_⟩, fun k hk' => ?_, fun k h1 h2 => ?_, fun j hj' => ?_, fun i hi' => ?_⟩
  · unfold b_u_close_38 b_u_close_79
    exact o_bind rm (o_pos one0 (o_bind y1 (o_bind y2 (o_neg (not_not_intro rfl) (o_bind w1 (o_bind x1 rfl))))))
  · rw [hi_nk (by decide), F2.at (by simp)]; exact w2
  · rw [hi_nk (by decide), F2.at (by simp)]; exact w3
  · rw [hi_nk (by decide), F2.at (by simp), F3.at (by simp [uL])]; exact y5
  · rw [hi_nk (by decide), F2.at (by simp)]; exact w4
  · rw [hi_hsi_ne (by decide), F2.at (by simp)]; exact w5
  · rw [hi_hsi_ne (by decide), F2.at (by simp), F3.at (by simp [uL])]; exact y6
  · rw [hi_hsi_ne (by decide), F2.at (by simp), F3.at (by simp [uL])]; exact y7
  · rw [hi_hsi_ne (by decide), F2.at (by simp), F3.at (by simp [uL])]; exact y8
  · rw [hi_hsi_ne (by decide), F2.at (by simp), F3.at (by simp [uL])]; exact y9
  · rw [cb_ne (by decide), cb_q (x3 k (by omega)), w6 k (by omega)]; exact y10 k hk'
  · rw [cb_ne (by decide), cb_q (x3 k (by omega)), w6 k (by omega)]; exact y11 k (by omega) h2
  · rw [cb_ne (by decide)]; exact x2 j hj'
  · rw [cb_ne (by decide), cb_q (x3 _ (by omega)), cb_q (x3 (4000 - (p + 2 * cnt) + 2 * i + 1) (by omega))]
    exact w7 i hi'
/-- the model's first half -/
theorem mod_tab {c : XH} {n p tc : Nat} {tI : Int32} {w : Int64} (k57 : hi c 1262 57 = nI n) (n4 : n ≤ 4000) (np : n + 4 ≤ p) (c4 : p ≤ 4000) (k59 : hi c 1262 59 = nI tc) (t3 : tc < 300) (k67 : hi c 1262 67 = tI) : ∃ p1 p2 p3, f_m_zeros (nI (p - (n + 4))) c = some ((), p1) ∧ f_m_ahead w 4 p1 = some ((), p2) ∧ f_m_thing 3 (-1) (hi p2 1262 67) p2 = some (nI tc, p3) ∧ FRM (fun a k => mP a k ∨ mTh tc a k) c p3 ∧ (hi p3 1262 57 = nI p ∧ hi p3 1262 59 = nI (tc + 1)) ∧ (hi p3 1300 tc = 3 ∧ hi p3 1301 tc = -1 ∧ hi p3 1302 tc = tI ∧ hi p3 1303 tc = nI p) ∧ (∀ i, i < n → hi p3 1299 i = hi c 1299 i) ∧ (∀ i, n ≤ i → i < p - 4 → hi p3 1299 i = 0) ∧ ∀ i, p - 4 ≤ i → i < p → hi p3 1299 i = nI (v8 w (p - 1 - i)) := by
  obtain ⟨p1, y1, G1, y2, y3, y4⟩ := e_m_zeros (h := c) (n := n) (k := p - (n + 4)) k57 (by omega)
  have en : n + (p - (n + 4)) = p - 4 := by omega
  rw [en] at y2 y4
  obtain ⟨p2, x1, G2, x2, x3, x4⟩ := e_m_aheadk (v := w) (k := 4) y2 (by decide) (by omega)
  rw [show p - 4 + 4 = p by omega] at x2
  obtain ⟨p3, z1, G3, z2, z3, z4, z5, z6⟩ := e_m_thing (h := p2) (x := 3) (y := -1) (z := hi p2 1262 67) (by rw [G2.at (by simp [mP]), G1.at (by simp [mP])]; exact k59) t3
  refine ⟨p1, p2, p3, y1, x1, z1, ((G1.mono (fun _ _ q => Or.inl q)).trans (G2.mono (fun _ _ q => Or.inl q))).trans (G3.mono (fun _ _ q => Or.inr q)), ⟨?_, z2⟩, ⟨z3, z4, ?_, ?_⟩, fun i hi' => ?_, fun i h1 h2 => ?_, fun i h1 h2 => ?_⟩
  · rw [G3.at (by simp [mTh])]; exact x2
  · rw [z5, G2.at (by simp [mP]), G1.at (by simp [mP])]; exact k67
  · rw [z6]; exact x2
  · rw [G3.at (by simp [mTh]), x3 i (by omega), y3 i hi']
  · rw [G3.at (by simp [mTh]), x3 i h2]; exact y4 i h1 h2
  · rw [G3.at (by simp [mTh])]
    have := x4 (i - (p - 4)) (by omega)
    rw [show p - 4 + (i - (p - 4)) = i by omega] at this
    rw [this]
    congr 2
    omega
theorem mod_old {c : XH} {n p tc ls lc : Nat} {tI v : Int32} (k57 : hi c 1262 57 = nI n) (n4 : n ≤ 4000) (np : n + 4 ≤ p) (c4 : p ≤ 4000) (k59 : hi c 1262 59 = nI tc) (t3 : tc < 300) (k67 : hi c 1262 67 = tI) (l0 : 0 < ls) (l4 : ls ≤ 4000) : ∃ q, b_m_ready_185 (nI (p - (n + 4))) (nI p) v (nI ls) 0 (nI p) c = some (nI tc, q) ∧ FRM (mR tc lc) c q ∧ (hi q 1262 57 = nI p ∧ hi q 1262 59 = nI (tc + 1) ∧ hi q 1262 64 = hi c 1262 64 ∧ hi q 1262 67 = -1 ∧ hi q 1304 = hi c 1304 ∧ hi q 1305 = hi c 1305) ∧ (hi q 1300 tc = 3 ∧ hi q 1301 tc = -1 ∧ hi q 1302 tc = tI ∧ hi q 1303 tc = nI p) ∧ (∀ i, i < n → hi q 1299 i = hi c 1299 i) ∧ (∀ i, n ≤ i → i < p - 4 → hi q 1299 i = 0) ∧ ∀ i, p - 4 ≤ i → i < p → hi q 1299 i = nI (v8 (Int32.toInt64 (nI ls - nI p)) (p - 1 - i)) := by
  have nl : ¬ nI ls = 0 := show ¬ nI ls = nI 0 by (first | (simp (maxSteps := 4000000) (disch := omega) only [n_0, n_1, n_2, n_3, n_4, n_5, n_6, n_7, n_8, n_9, n_10, n_11, n_12, n_13, n_14, n_15, n_16, n_18, n_20, n_24, n_31, n_32, n_34, n_40, n_41, n_44, n_45, n_47, n_48, n_57, n_58, n_59, n_61, n_63, n_64, n_65, n_68, n_90, n_91, n_93, n_95, n_97, n_100, n_122, n_123, n_125, n_128, n_144, n_200, n_255, n_256, n_300, n_400, n_600, n_1536, n_3980, n_4000, n_4001, n_4300, n_65536, l_0, l_1, l_2, l_3, l_4, l_10, l_48, l_63, l_255, l_300, nI_ltI, nI_leI, nI_eq, nI_clamp, nI_add, pk_sub, pk_mul, nI_ne1, ne1_nI, nI_pge, nI_nlt0, nI_l, lN_i, lN_add, lN_mul, lN_sub, pk_lLT, pk_lLE, pk_lEQ, lg_lt, lg_ge, lg_eq0, lg_le, lg_gt, lg_ltn, lg_gen, lg_eq0n, lg_len, lg_gtn, Nat.zero_le, Nat.not_lt_zero, not_false_eq_true, not_true_eq_false, true_and, and_true]; done) | (simp (maxSteps := 4000000) (disch := omega) only [n_0, n_1, n_2, n_3, n_4, n_5, n_6, n_7, n_8, n_9, n_10, n_11, n_12, n_13, n_14, n_15, n_16, n_18, n_20, n_24, n_31, n_32, n_34, n_40, n_41, n_44, n_45, n_47, n_48, n_57, n_58, n_59, n_61, n_63, n_64, n_65, n_68, n_90, n_91, n_93, n_95, n_97, n_100, n_122, n_123, n_125, n_128, n_144, n_200, n_255, n_256, n_300, n_400, n_600, n_1536, n_3980, n_4000, n_4001, n_4300, n_65536, l_0, l_1, l_2, l_3, l_4, l_10, l_48, l_63, l_255, l_300, nI_ltI, nI_leI, nI_eq, nI_clamp, nI_add, pk_sub, pk_mul, nI_ne1, ne1_nI, nI_pge, nI_nlt0, nI_l, lN_i, lN_add, lN_mul, lN_sub, pk_lLT, pk_lLE, pk_lEQ, lg_lt, lg_ge, lg_eq0, lg_le, lg_gt, lg_ltn, lg_gen, lg_eq0n, lg_len, lg_gtn, Nat.zero_le, Nat.not_lt_zero, not_false_eq_true, not_true_eq_false, true_and, and_true]; omega) | omega)
  obtain ⟨p1, p2, p3, y1, y2, y3, G1, ⟨y4, y5⟩, ⟨y6, y7, y8, y9⟩, y10, y11, y12⟩ := mod_tab (tI := tI) (w := Int32.toInt64 (nI ls - nI p)) k57 n4 np c4 k59 t3 k67
  have G1' : FRM (mR tc lc) c p3 := G1.mono (fun _ _ q => q.elim mP_mR mTh_mR)
  refine ⟨hsi p3 1262 67 (-1), ?_, G1'.si (by simp [mR]), ⟨?_, ?_, ?_, hi_at, ?_, ?_⟩, ⟨?_, ?_, ?_, ?_⟩, fun i hi' => ?_, fun i h1 h2 => ?_, fun i h1 h2 => ?_⟩
  · unfold b_m_ready_185 b_m_ready_220 b_m_ready_312
    exact o_pos (show nI p ≤ nI 4000 by (first | (simp (maxSteps := 4000000) (disch := omega) only [n_0, n_1, n_2, n_3, n_4, n_5, n_6, n_7, n_8, n_9, n_10, n_11, n_12, n_13, n_14, n_15, n_16, n_18, n_20, n_24, n_31, n_32, n_34, n_40, n_41, n_44, n_45, n_47, n_48, n_57, n_58, n_59, n_61, n_63, n_64, n_65, n_68, n_90, n_91, n_93, n_95, n_97, n_100, n_122, n_123, n_125, n_128, n_144, n_200, n_255, n_256, n_300, n_400, n_600, n_1536, n_3980, n_4000, n_4001, n_4300, n_65536, l_0, l_1, l_2, l_3, l_4, l_10, l_48, l_63, l_255, l_300, nI_ltI, nI_leI, nI_eq, nI_clamp, nI_add, pk_sub, pk_mul, nI_ne1, ne1_nI, nI_pge, nI_nlt0, nI_l, lN_i, lN_add, lN_mul, lN_sub, pk_lLT, pk_lLE, pk_lEQ, lg_lt, lg_ge, lg_eq0, lg_le, lg_gt, lg_ltn, lg_gen, lg_eq0n, lg_len, lg_gtn, Nat.zero_le, Nat.not_lt_zero, not_false_eq_true, not_true_eq_false, true_and, and_true]; done) | (simp (maxSteps := 4000000) (disch := omega) only [n_0, n_1, n_2, n_3, n_4, n_5, n_6, n_7, n_8, n_9, n_10, n_11, n_12, n_13, n_14, n_15, n_16, n_18, n_20, n_24, n_31, n_32, n_34, n_40, n_41, n_44, n_45, n_47, n_48, n_57, n_58, n_59, n_61, n_63, n_64, n_65, n_68, n_90, n_91, n_93, n_95, n_97, n_100, n_122, n_123, n_125, n_128, n_144, n_200, n_255, n_256, n_300, n_400, n_600, n_1536, n_3980, n_4000, n_4001, n_4300, n_65536, l_0, l_1, l_2, l_3, l_4, l_10, l_48, l_63, l_255, l_300, nI_ltI, nI_leI, nI_eq, nI_clamp, nI_add, pk_sub, pk_mul, nI_ne1, ne1_nI, nI_pge, nI_nlt0, nI_l, lN_i, lN_add, lN_mul, lN_sub, pk_lLT, pk_lLE, pk_lEQ, lg_lt, lg_ge, lg_eq0, lg_le, lg_gt, lg_ltn, lg_gen, lg_eq0n, lg_len, lg_gtn, Nat.zero_le, Nat.not_lt_zero, not_false_eq_true, not_true_eq_false, true_and, and_true]; omega) | omega)) (o_bind y1 (o_pos nl (o_bind y2 (o_bind y3 (o_pos nl rfl)))))
  · rw [hi_nk (by decide)]; exact y4
  · rw [hi_nk (by decide)]; exact y5
  · rw [hi_nk (by decide), G1.at (by simp [mP, mTh])]
  · rw [hi_hsi_ne (by decide), G1.row (by simp [mP, mTh])]
  · rw [hi_hsi_ne (by decide), G1.row (by simp [mP, mTh])]
  · rw [hi_hsi_ne (by decide)]; exact y6
  · rw [hi_hsi_ne (by decide)]; exact y7
  · rw [hi_hsi_ne (by decide)]; exact y8
  · rw [hi_hsi_ne (by decide)]; exact y9
  · rw [hi_hsi_ne (by decide)]; exact y10 i hi'
  · rw [hi_hsi_ne (by decide)]; exact y11 i h1 h2
  · rw [hi_hsi_ne (by decide)]; exact y12 i h1 h2
theorem mod_new {c : XH} {B : Nat → Nat} {n p tc lc v : Nat} {tI : Int32} (k57 : hi c 1262 57 = nI n) (n4 : n ≤ 4000) (np : n + 4 ≤ p) (c4 : p + v ≤ 4000) (k59 : hi c 1262 59 = nI tc) (t3 : tc < 300) (k67 : hi c 1262 67 = tI) (k64 : hi c 1262 64 = nI lc) (l3 : lc < 300) (v68 : v ≤ 68) (hB : ∀ i, B i < 256) (eB : ∀ i, i < v → hi c 1309 i = nI (B i)) : ∃ q, b_m_ready_185 (nI (p - (n + 4))) (nI p) (nI v) 0 0 (nI (p + v)) c = some (nI tc, q) ∧ FRM (mR tc lc) c q ∧ (hi q 1262 57 = nI (p + v) ∧ hi q 1262 59 = nI (tc + 1) ∧ hi q 1262 64 = nI (lc + 1) ∧ hi q 1262 67 = -1 ∧ hi q 1304 lc = nI (p + v) ∧ hi q 1305 lc = nI v) ∧ (hi q 1300 tc = 3 ∧ hi q 1301 tc = -1 ∧ hi q 1302 tc = tI ∧ hi q 1303 tc = nI p) ∧ (∀ i, i < n → hi q 1299 i = hi c 1299 i) ∧ (∀ i, n ≤ i → i < p - 4 → hi q 1299 i = 0) ∧ (∀ i, p - 4 ≤ i → i < p → hi q 1299 i = nI (v8 (Int32.toInt64 (nI (p + v) - nI p)) (p - 1 - i))) ∧ ∀ i, p ≤ i → i < p + v → hi q 1299 i = nI (B (p + v - 1 - i)) := by
  obtain ⟨p1, p2, p3, y1, y2, y3, G1, ⟨y4, y5⟩, ⟨y6, y7, y8, y9⟩, y10, y11, y12⟩ := mod_tab (tI := tI) (w := Int32.toInt64 (nI (p + v) - nI p)) k57 n4 np (by omega) k59 t3 k67
  have G1' : FRM (mR tc lc) c p3 := G1.mono (fun _ _ q => q.elim mP_mR mTh_mR)
  obtain ⟨p4, x1, G2, x2, x3, x4⟩ := e_m_zeros (h := p3) (n := p) (k := 0) y4 (by omega)
  rw [Nat.add_zero] at x2
  obtain ⟨p5, z1, G3, z2, z3, z4⟩ := e_m_put255 (v := v) (tcI := nI tc) (B := B) v68 hB v p 100000 p4 (Nat.le_refl v) (by omega) x2 (by omega) (fun i hi' => by rw [G2.at (by simp [mP]), G1.at (by simp [mP, mTh])]; exact eB i hi')
  have e64 : hi p5 1262 64 = nI lc := by rw [G3.at (by simp [mP]), G2.at (by simp [mP]), G1.at (by simp [mP, mTh])]; exact k64
  obtain ⟨q, hq⟩ : ∃ q, q = hsi (hsi (hsi (hsi p5 1304 lc (nI (p + v))) 1305 lc (nI v)) 1262 64 (nI (lc + 1))) 1262 67 (-1) := ⟨_, rfl⟩
  have G4 : FRM (mR tc lc) p5 q := by rw [hq]; exact (((FRM.refl.si (by simp [mR])).si (by simp [mR])).si (by simp [mR])).si (by simp [mR])
  have rw99 : ∀ i, hi q 1299 i = hi p5 1299 i := fun i => by rw [hq, hi_hsi_ne (by decide), hi_hsi_ne (by decide), hi_hsi_ne (by decide), hi_hsi_ne (by decide)]
  have rth : ∀ a, 1300 ≤ a → a ≤ 1303 → hi q a tc = hi p3 a tc := fun a h1 h2 => by rw [hq, hi_hsi_ne (by omega), hi_hsi_ne (by omega), hi_hsi_ne (by omega), hi_hsi_ne (by omega), G3.at (by unfold mP; omega), G2.at (by unfold mP; omega)]
  refine ⟨q, ?_, ((G1'.trans (G2.mono (fun _ _ => mP_mR))).trans (G3.mono (fun _ _ => mP_mR))).trans G4, ⟨?_, ?_, ?_, ?_, ?_, ?_⟩, ⟨?_, ?_, ?_, ?_⟩, fun i hi' => ?_, fun i h1 h2 => ?_, fun i h1 h2 => ?_, fun i h1 h2 => ?_⟩
  · unfold b_m_ready_185 b_m_ready_220
    have e0 : nI p + 0 + nI v = nI (p + v) := by rw [n_0, nI_add, nI_add, Nat.add_zero]
    rw [e0]
    refine o_pos (show nI (p + v) ≤ nI 4000 by (first | (simp (maxSteps := 4000000) (disch := omega) only [n_0, n_1, n_2, n_3, n_4, n_5, n_6, n_7, n_8, n_9, n_10, n_11, n_12, n_13, n_14, n_15, n_16, n_18, n_20, n_24, n_31, n_32, n_34, n_40, n_41, n_44, n_45, n_47, n_48, n_57, n_58, n_59, n_61, n_63, n_64, n_65, n_68, n_90, n_91, n_93, n_95, n_97, n_100, n_122, n_123, n_125, n_128, n_144, n_200, n_255, n_256, n_300, n_400, n_600, n_1536, n_3980, n_4000, n_4001, n_4300, n_65536, l_0, l_1, l_2, l_3, l_4, l_10, l_48, l_63, l_255, l_300, nI_ltI, nI_leI, nI_eq, nI_clamp, nI_add, pk_sub, pk_mul, nI_ne1, ne1_nI, nI_pge, nI_nlt0, nI_l, lN_i, lN_add, lN_mul, lN_sub, pk_lLT, pk_lLE, pk_lEQ, lg_lt, lg_ge, lg_eq0, lg_le, lg_gt, lg_ltn, lg_gen, lg_eq0n, lg_len, lg_gtn, Nat.zero_le, Nat.not_lt_zero, not_false_eq_true, not_true_eq_false, true_and, and_true]; done) | (simp (maxSteps := 4000000) (disch := omega) only [n_0, n_1, n_2, n_3, n_4, n_5, n_6, n_7, n_8, n_9, n_10, n_11, n_12, n_13, n_14, n_15, n_16, n_18, n_20, n_24, n_31, n_32, n_34, n_40, n_41, n_44, n_45, n_47, n_48, n_57, n_58, n_59, n_61, n_63, n_64, n_65, n_68, n_90, n_91, n_93, n_95, n_97, n_100, n_122, n_123, n_125, n_128, n_144, n_200, n_255, n_256, n_300, n_400, n_600, n_1536, n_3980, n_4000, n_4001, n_4300, n_65536, l_0, l_1, l_2, l_3, l_4, l_10, l_48, l_63, l_255, l_300, nI_ltI, nI_leI, nI_eq, nI_clamp, nI_add, pk_sub, pk_mul, nI_ne1, ne1_nI, nI_pge, nI_nlt0, nI_l, lN_i, lN_add, lN_mul, lN_sub, pk_lLT, pk_lLE, pk_lEQ, lg_lt, lg_ge, lg_eq0, lg_le, lg_gt, lg_ltn, lg_gen, lg_eq0n, lg_len, lg_gtn, Nat.zero_le, Nat.not_lt_zero, not_false_eq_true, not_true_eq_false, true_and, and_true]; omega) | omega)) (o_bind y1 (o_neg (not_not_intro rfl) (o_bind y2 (o_bind y3 (o_neg (not_not_intro rfl) (o_bind x1 ?_))))))
    refine z1.trans ?_
    rw [e64, z2, nI_clamp (show lc < 2 ^ 31 by omega), n_1, nI_add]
    refine o_pos (by (first | (simp (maxSteps := 4000000) (disch := omega) only [n_0, n_1, n_2, n_3, n_4, n_5, n_6, n_7, n_8, n_9, n_10, n_11, n_12, n_13, n_14, n_15, n_16, n_18, n_20, n_24, n_31, n_32, n_34, n_40, n_41, n_44, n_45, n_47, n_48, n_57, n_58, n_59, n_61, n_63, n_64, n_65, n_68, n_90, n_91, n_93, n_95, n_97, n_100, n_122, n_123, n_125, n_128, n_144, n_200, n_255, n_256, n_300, n_400, n_600, n_1536, n_3980, n_4000, n_4001, n_4300, n_65536, l_0, l_1, l_2, l_3, l_4, l_10, l_48, l_63, l_255, l_300, nI_ltI, nI_leI, nI_eq, nI_clamp, nI_add, pk_sub, pk_mul, nI_ne1, ne1_nI, nI_pge, nI_nlt0, nI_l, lN_i, lN_add, lN_mul, lN_sub, pk_lLT, pk_lLE, pk_lEQ, lg_lt, lg_ge, lg_eq0, lg_le, lg_gt, lg_ltn, lg_gen, lg_eq0n, lg_len, lg_gtn, Nat.zero_le, Nat.not_lt_zero, not_false_eq_true, not_true_eq_false, true_and, and_true]; done) | (simp (maxSteps := 4000000) (disch := omega) only [n_0, n_1, n_2, n_3, n_4, n_5, n_6, n_7, n_8, n_9, n_10, n_11, n_12, n_13, n_14, n_15, n_16, n_18, n_20, n_24, n_31, n_32, n_34, n_40, n_41, n_44, n_45, n_47, n_48, n_57, n_58, n_59, n_61, n_63, n_64, n_65, n_68, n_90, n_91, n_93, n_95, n_97, n_100, n_122, n_123, n_125, n_128, n_144, n_200, n_255, n_256, n_300, n_400, n_600, n_1536, n_3980, n_4000, n_4001, n_4300, n_65536, l_0, l_1, l_2, l_3, l_4, l_10, l_48, l_63, l_255, l_300, nI_ltI, nI_leI, nI_eq, nI_clamp, nI_add, pk_sub, pk_mul, nI_ne1, ne1_nI, nI_pge, nI_nlt0, nI_l, lN_i, lN_add, lN_mul, lN_sub, pk_lLT, pk_lLE, pk_lEQ, lg_lt, lg_ge, lg_eq0, lg_le, lg_gt, lg_ltn, lg_gen, lg_eq0n, lg_len, lg_gtn, Nat.zero_le, Nat.not_lt_zero, not_false_eq_true, not_true_eq_false, true_and, and_true]; omega) | omega)) ?_
    unfold b_m_ready_312
    rw [hq]
  · rw [hq, hi_nk (by decide), hi_nk (by decide), hi_hsi_ne (by decide), hi_hsi_ne (by decide)]; exact z2
  · rw [hq, hi_nk (by decide), hi_nk (by decide), hi_hsi_ne (by decide), hi_hsi_ne (by decide), G3.at (by simp [mP]), G2.at (by simp [mP])]; exact y5
  · rw [hq, hi_nk (by decide), hi_at]
  · rw [hq, hi_at]
  · rw [hq, hi_hsi_ne (by decide), hi_hsi_ne (by decide), hi_hsi_ne (by decide), hi_at]
  · rw [hq, hi_hsi_ne (by decide), hi_hsi_ne (by decide), hi_at]
  · rw [rth 1300 (by decide) (by decide)]; exact y6
  · rw [rth 1301 (by decide) (by decide)]; exact y7
  · rw [rth 1302 (by decide) (by decide)]; exact y8
  · rw [rth 1303 (by decide) (by decide)]; exact y9
  · rw [rw99, z3 i (by omega), x3 i (by omega)]; exact y10 i hi'
  · rw [rw99, z3 i (by omega), x3 i (by omega)]; exact y11 i h1 h2
  · rw [rw99, z3 i (by omega), x3 i (by omega)]; exact y12 i h1 h2
  · rw [rw99]
    have := z4 (i - p) (by omega)
    rw [show p + (i - p) = i by omega] at this
    rw [this]
    congr 2
    omega
end Cls
