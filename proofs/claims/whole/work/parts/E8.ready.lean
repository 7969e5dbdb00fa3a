/-! Calls: ready -/

def rP (tc lc a k : Nat) : Prop := uR tc lc a k ∨ (a = 1244 ∧ k = 15) ∨ a = 1254 ∨ mR tc lc a k ∨ a = 1309 ∨ (a = 1262 ∧ k = 0)
section Rdy
variable {h g : XH} {S n tc t : Nat} {sg : SGT} {sd : Nat → Int64}
theorem rP_bP {tc lc a k : Nat} (q : rP tc lc a k) : bP a k := by unfold rP uR mR at q; unfold bP; omega
/-- a list that stood stands -/
theorem lst_kept {lc N : Nat} (l4 : ∀ l, l < lc → ∃ ls ln : Nat, hi h 1251 l = nI ls ∧ hi h 1304 l = nI ls ∧ hi h 1305 l = nI ln ∧ 4 ≤ ln ∧ ln ≤ 68 ∧ ln % 2 = 0 ∧ ln ≤ ls ∧ ls ≤ n ∧ nb (cb h 1246) 2 (4000 - ls) = ln) (n4 : n ≤ 4000) (hN : n ≤ N) (e : ∀ l, l < lc → hi g 1251 l = hi h 1251 l ∧ hi g 1304 l = hi h 1304 l ∧ hi g 1305 l = hi h 1305 l) (old : ∀ m, 4000 - n ≤ m → m < 4000 → cb g 1246 m = cb h 1246 m) : ∀ l, l < lc → ∃ ls ln : Nat, hi g 1251 l = nI ls ∧ hi g 1304 l = nI ls ∧ hi g 1305 l = nI ln ∧ 4 ≤ ln ∧ ln ≤ 68 ∧ ln % 2 = 0 ∧ ln ≤ ls ∧ ls ≤ N ∧ nb (cb g 1246) 2 (4000 - ls) = ln := by
  intro l hl
  obtain ⟨ls, ln, q1, q2, q3, q4, q5, q6, q7, q8, q9⟩ := l4 l hl
  obtain ⟨e1, e2, e3⟩ := e l hl
  rw [e1, e2, e3]
  refine ⟨ls, ln, q1, q2, q3, q4, q5, q6, q7, by omega, ?_⟩
  rw [← q9]
  exact nb_congr 2 _ (fun j h1 h2 => old j (by omega) (by omega))
theorem rdy_fin {p N lc : Nat} {tI : Int32} (H : RA h S sg sd) (b3 : RBt h n tc sg) (e7 : hi h 1262 7 = 1) (t3 : tc < 300) (FA : FRM (rP tc lc) h g) (hN : n ≤ p ∧ p ≤ N ∧ N ≤ 4000 ∧ 0 < p) (e1 : hi g 1244 1 = nI N) (e57 : hi g 1262 57 = nI N) (row : ∀ i, i < N → hi g 1299 i = nI (cb g 1246 (3999 - i))) (G : RBg g) (e7' : hi g 1244 7 = nI (tc + 1)) (e59 : hi g 1262 59 = nI (tc + 1)) (t1 : hi g 1247 tc = 3) (t2 : hi g 1300 tc = 3) (t3' : hi g 1248 tc = tI) (t4 : hi g 1302 tc = tI) (t5 : hi g 1249 tc = -1) (t6 : hi g 1301 tc = -1) (t7 : hi g 1250 tc = nI p) (t8 : hi g 1303 tc = nI p) (rl : RBl g N (tc + 1)) (o1 : hi g 1244 10 = -1) (o2 : hi g 1262 67 = -1) : RA g S sg sd ∧ RM h g := by
  have X : FX (rP tc lc) h g := FA.fx H.1
  have i7 : hi g 1262 7 = 1 := by rw [FA.at (by simp [rP, uR, mR])]; exact e7
  refine ⟨H.bld (X.mono fun a k => rP_bP) (H.2.2.1.fx X ⟨by simp [rP, uR, mR], by simp [rP, uR, mR], fun k => ⟨by simp [rP, uR, mR], by simp [rP, uR, mR]⟩⟩) (H.2.2.2.1.fx X ⟨by simp [rP, uR, mR], by simp [rP, uR, mR]⟩) ⟨N, tc + 1, ⟨hN.2.2.1, e1, e57, row⟩, G, ⟨by omega, e7', e59, fun t ht => ?_⟩, rl, Or.inl ⟨o1, o2⟩⟩, X.2.2.2.2⟩
  by_cases c : t = tc
  · subst c
    exact ⟨3, p, by omega, hN.2.2.2, hN.2.1, by rw [t1]; rfl, by rw [t2]; rfl, by rw [t3', t4], by rw [t5, t6], t7, t8, fun _ => i7⟩
  · obtain ⟨s, st, q1, q2, q3, q4, q5, q6, q7, q8, q9, q10⟩ := b3.2.2.2 t (by omega)
    rw [FA.at (a := 1247) (k := t) (by simp [rP, uR, mR, c]), FA.at (a := 1248) (k := t) (by simp [rP, uR, mR, c]), FA.at (a := 1249) (k := t) (by simp [rP, uR, mR, c]), FA.at (a := 1250) (k := t) (by simp [rP, uR, mR, c]), FA.at (a := 1300) (k := t) (by simp [rP, uR, mR, c]), FA.at (a := 1301) (k := t) (by simp [rP, uR, mR, c]), FA.at (a := 1302) (k := t) (by simp [rP, uR, mR, c]), FA.at (a := 1303) (k := t) (by simp [rP, uR, mR, c])]
    exact ⟨s, st, q1, q2, by omega, q4, q5, q6, q7, q8, q9, fun _ => i7⟩
/-- a table is ready: room or none, an equal list or none -/
theorem rdy_go {lo : Nat} (H : RA h S sg sd) (hm : hz h < 900000) (W : WF sg sd) (M : MS h sg sd) (b1 : RBr h n) (b2 : RBg h) (b3 : RBt h n tc sg) (b4 : RBl h n tc) (ht : t < sg 0 1) (e7 : hi h 1262 7 = 1) (e10 : hi h 1244 10 = nI t) (e67 : hi h 1262 67 = nI t) (e11 : hi h 1244 11 = nI lo) (e68 : hi h 1262 68 = nI lo) (lon : lo ≤ n) (sl : ∀ s, s < 32 → ∃ v : Nat, hi h 1253 s = nI v ∧ hi h 1307 s = nI v ∧ v ≤ n ∧ (sg 11 t ≤ s → v = 0) ∧ (v = 0 ∨ lo < v)) (cl : ∀ X, (Option.bind (f_u_close h) fun r21 => (if ¬ r21.1 = (-1) then (some (Sum.inl r21.1, r21.2)) else (if hz r21.2 < 1000000 then (some (Sum.inr 2, hthr r21.2)) else none))) = X → f_t_ready h = X) (ml : ∀ g, MSm h g → ∀ X, (Option.bind (f_m_fill (hi (hsi g 1262 0 0) 1262 57) 4 4 (hsi g 1262 0 0)) fun r50 => (b_m_ready_52 100000 r50.1 (((hi r50.2 1262 57) + r50.1) + 4) 4 0 r50.2)) = X → f_m_ready g = X) : TH h f_t_ready f_m_ready (fun v w => v = w) [(1, 1), (2, 2)] := by
  have L := H.1
  have n4 := b1.1
  have tc3 := b3.1
  have w0 := W.1
  have hT := (W.2.2.1 t ht).2.1
  -- the slots
  obtain ⟨V, hV⟩ : ∃ V : Nat → Nat, ∀ s, s < 32 → hi h 1253 s = nI (V s) ∧ hi h 1307 s = nI (V s) ∧ V s ≤ n ∧ (sg 11 t ≤ s → V s = 0) := by
    refine ⟨fun s => (hi h 1307 s).toNatClampNeg, fun s hs => ?_⟩
    obtain ⟨v, v1, v2, v3, v4, -⟩ := sl s hs
    have ev : (hi h 1307 s).toNatClampNeg = v := by rw [v2, nI_clamp (by omega)]
    dsimp only
    rw [ev]
    exact ⟨v1, v2, v3, v4⟩
  obtain ⟨r1, r2, r3⟩ := rU_f (x := n + 4) (a := 4) (by omega)
  obtain ⟨p, hp⟩ : ∃ p, p = rU (n + 4) 4 := ⟨_, rfl⟩
  have eR := e_t_roundUp (h := h) (x := n + 4) (a := 4) (by omega) (by omega)
  rw [← hp] at r1 r2 r3 eR
  have eN : cN V 32 = cN V (sg 11 t) := by
    have := cN_hi (V := V) (T := sg 11 t) (32 - sg 11 t) (fun s h1 h2 => (hV s (by omega)).2.2.2 h1)
    rw [show sg 11 t + (32 - sg 11 t) = 32 by omega] at this
    exact this
  have cl2 := cN_le (V := V) (sg 11 t)
  obtain ⟨cnt, hcnt⟩ : ∃ cnt, cnt = cN V (sg 11 t) := ⟨_, rfl⟩
  obtain ⟨u1, y1, F1, y2, y3⟩ := e_u_prep (c := h) (V := V) (p := p) (lo := lo) (by omega) (fun s hs => ⟨(hV s hs).1, by have := (hV s hs).2.2.1; omega⟩) e11 (by omega)
  rw [eN, ← hcnt] at y2 y3
  rw [← hcnt] at cl2
  have hL : ∀ i, Lw V p lo cnt i < 65536 := fun i => Lw_lt (by omega) (by omega)
  have L1 : LY u1 := by rw [F1.ly]; exact L
  have hm1 : hz u1 < 1000000 := by rw [F1.1.1]; omega
  have b1' : RBr u1 n := ⟨n4, by rw [F1.at (by simp)]; exact b1.2.1, by rw [F1.at (by simp)]; exact b1.2.2.1, fun i hi' => by rw [F1.at (by simp), F1.cbq (by simp)]; exact b1.2.2.2 i hi'⟩
  obtain ⟨lc, l1, l2, l3, l4⟩ := b4
  have b4' : RBl u1 n tc := ⟨lc, l1, by rw [F1.at (by simp)]; exact l2, by rw [F1.at (by simp)]; exact l3, lst_kept l4 n4 (Nat.le_refl n) (fun l hl => ⟨F1.at (by simp), F1.at (by simp), F1.at (by simp)⟩) (fun m h1 h2 => F1.cbq (by simp))⟩
  -- the model, up to the search
  have mgo : ∀ g, MSm h g → ∃ u, f_m_ready g = mTail (nI (p - (n + 4))) (nI p) (nI (2 * cnt)) u ∧ FRM (fun a _ => a = 1309) (hsi g 1262 0 0) u ∧ ∀ i, i < cnt → hi u 1309 (2 * i) = nI (Lw V p lo cnt i % 256) ∧ hi u 1309 (2 * i + 1) = nI (Lw V p lo cnt i / 256) := by
    intro g Q
    have Q0 : MSm h (hsi g 1262 0 0) := Q.si (Or.inl rfl)
    have k57 : hi (hsi g 1262 0 0) 1262 57 = nI n := by rw [Q0.2.2 57 (by decide) (by decide) (by decide)]; exact b1.2.2.1
    obtain ⟨u, z1, G1, z2⟩ := e_m_list (c := hsi g 1262 0 0) (V := V) (t := t) (T := sg 11 t) (p := p) (lo := lo) (z := nI (p - (n + 4))) (by omega) (by omega) hT (by rw [Q0.2.2 67 (by decide) (by decide) (by decide)]; exact e67) (((Q0.ms M).2.2.1 t ht).1.2) (fun s hs => ⟨by rw [Q0.1 1307 (by decide) (by decide)]; exact (hV s hs).2.1, by have := (hV s hs).2.2.1; omega⟩) (by rw [Q0.2.2 68 (by decide) (by decide) (by decide)]; exact e68) (by omega)
    rw [← hcnt] at z1 z2
    refine ⟨u, ml g Q _ ?_, G1, fun i hi' => z2 i (by omega)⟩
    rw [k57]
    have ff := e_m_fill (h := hsi g 1262 0 0) (n := n) (k := 4) (a := 4) (by omega) (by omega)
    rw [← hp] at ff
    refine o_bind ff ?_
    dsimp only
    rw [k57, nI_add, n_4, nI_add, show n + (p - (n + 4)) + 4 = p by omega, ← n_4]
    exact z1
  -- both searches, over any heap of the model
  have srch : ∀ g u, MSm h g → FRM (fun a _ => a = 1309) (hsi g 1262 0 0) u → (∀ i, i < cnt → hi u 1309 (2 * i) = nI (Lw V p lo cnt i % 256) ∧ hi u 1309 (2 * i + 1) = nI (Lw V p lo cnt i / 256)) → (f_u_startOfEqualList u1 = some (-1, u1) ∧ f_m_known (nI (2 * cnt)) u = some (0, u)) ∨ ∃ ls, 4 ≤ ls ∧ ls ≤ n ∧ f_u_startOfEqualList u1 = some (nI ls, u1) ∧ f_m_known (nI (2 * cnt)) u = some (nI ls, u) := by
    intro g u Q G eb
    have Q0 : MSm h (hsi g 1262 0 0) := Q.si (Or.inl rfl)
    exact known2 (c := u1) (m := u) (L := Lw V p lo cnt) (cnt := cnt) (v := 2 * cnt) L1.b1245 b1' b4' tc3 y2 (by omega) cl2.1 y3 hL Lw_0 rfl (by rw [G.at (by simp), Q0.2.2 64 (by decide) (by decide) (by decide), F1.at (by simp)]) (by rw [G.row (by simp), Q0.1 1304 (by decide) (by decide), F1.row (by simp)]) (by rw [G.row (by simp), Q0.1 1305 (by decide) (by decide), F1.row (by simp)]) (by rw [G.row (by simp), Q0.1 1299 (by decide) (by decide), F1.row (by simp)]) eb
  have fil : ∀ u : XH, f_m_fill (nI p) (nI (2 * cnt)) 2 u = some (0, u) := fun u => by
    have := e_m_fill (h := u) (n := p) (k := 2 * cnt) (a := 2) (by omega) (by omega)
    rw [show rU (p + 2 * cnt) 2 - (p + 2 * cnt) = 0 by unfold rU; omega] at this
    exact this
  have k59 : ∀ g u, MSm h g → FRM (fun a _ => a = 1309) (hsi g 1262 0 0) u → hi u 1262 59 = nI tc := fun g u Q G => by rw [G.at (by simp), (Q.si (Or.inl rfl)).2.2 59 (by decide) (by decide) (by decide)]; exact b3.2.2.1
  have Q00 : MSm h h := ⟨fun _ _ _ => rfl, fun _ _ => rfl, fun _ _ _ _ => rfl⟩
  -- a throw for want of room
  have thw : f_t_ready h = some (Sum.inr 2, hthr u1) → (∀ g u, MSm h g → FRM (fun a _ => a = 1309) (hsi g 1262 0 0) u → (∀ i, i < cnt → hi u 1309 (2 * i) = nI (Lw V p lo cnt i % 256) ∧ hi u 1309 (2 * i + 1) = nI (Lw V p lo cnt i / 256)) → mTail (nI (p - (n + 4))) (nI p) (nI (2 * cnt)) u = some (0, hsi u 1262 0 2)) → TH h f_t_ready f_m_ready (fun v w => v = w) [(1, 1), (2, 2)] := by
    intro z1 z2
    refine TH.no H hm (F1.mono (fun a k q => by rcases q with q | ⟨q, q'⟩ <;> subst q <;> simp [cP]; omega)) (j := 2) (k := 2) (by decide) z1 (fun g1 O rd => ?_)
    have l0 := H.1.1
    have Q : MSm h g1 := ⟨fun a h1 h2 => by rw [rd a (by omega), F1.row (fun k => by omega)], fun a ha => by rw [O.thj (by rw [F1.1.1]; omega) (by omega), F1.hj (by omega)], fun k _ _ _ => by rw [rd 1262 (by decide), F1.at (by simp)]⟩
    obtain ⟨u, a1, a2, a3⟩ := mgo g1 Q
    refine ⟨0, _, a1.trans (z2 g1 u Q a2 a3), ((FRM.refl.si (by simp [cP])).trans (a2.mono (fun a k q => by rw [q]; simp [cP]))).si (by simp [cP]), hi_at, fun X => X.tv H ?_ ?_ ?_ ?_⟩
    · rw [hi_hsi_ne (by decide), a2.at (by simp), hi_hsi_ne (by decide), rd 1 (by decide), F1.at (by simp)]
    · rw [hi_nk (by decide), a2.at (by simp), hi_nk (by decide), rd 1262 (by decide), F1.at (by simp)]
    · rw [hi_hsi_ne (by decide), a2.at (by simp), hi_hsi_ne (by decide), rd 5 (by decide), F1.at (by simp)]
    · rw [hi_nk (by decide), a2.at (by simp), hi_nk (by decide), rd 1262 (by decide), F1.at (by simp)]
  obtain ⟨ga, gm, g1, g2, g3, g4, g5⟩ := b2
  have g6 := g5 e7
  have i1 : hi u1 1244 1 = nI n := b1'.2.1
  have i2 : hi u1 1244 2 = nI ga := by rw [F1.at (by simp)]; exact g2
  have i7 : hi u1 1244 7 = nI tc := by rw [F1.at (by simp)]; exact b3.2.1
  have i10 : hi u1 1244 10 = nI t := by rw [F1.at (by simp)]; exact e10
  have i9 : hi u1 1244 9 = nI lc := by rw [F1.at (by simp)]; exact l2
  have c0 : ∀ X, (Option.bind (f_u_startOfEqualList u1) fun r24 => (if ¬ r24.1 = (-1) then (b_u_close_38 (nI p) r24.1 (nI p) r24.2) else (b_u_close_38 (nI p) r24.1 (nI p + (2 * (hi r24.2 1244 15))) r24.2))) = X → f_u_close h = X := by
    intro X q
    unfold f_u_close
    rw [b1.2.1, n_4, nI_add]
    exact o_bind eR (o_bind y1 q)
  -- the end, over both halves
  have fin : ∀ (N : Nat) (u p0 q0 q : XH), (p ≤ N ∧ N ≤ 4000) → tc < 300 → FRM (uR tc lc) u1 u → OW u p0 → FRM (fun a _ => a = 1309) (hsi p0 1262 0 0) q0 → FRM (mR tc lc) q0 q → hi u 1244 1 = nI N → (∃ G, hi u 1244 2 = nI G ∧ G = ga) → hi u 1244 7 = nI (tc + 1) → hi u 1244 10 = -1 → (hi u 1247 tc = 3 ∧ hi u 1248 tc = nI t ∧ hi u 1249 tc = -1 ∧ hi u 1250 tc = nI p) → (hi q 1262 57 = nI N ∧ hi q 1262 59 = nI (tc + 1) ∧ hi q 1262 67 = -1) → (hi q 1300 tc = 3 ∧ hi q 1301 tc = -1 ∧ hi q 1302 tc = nI t ∧ hi q 1303 tc = nI p) → (∀ i, i < N → hi q 1299 i = nI (cb u 1246 (3999 - i))) → (∀ k, 4000 - n ≤ k → cb u 1246 k = cb u1 1246 k) → (RBl q N (tc + 1)) → hi q 1262 0 = 0 ∧ RX q ∧ RM h q := by
    intro N u p0 q0 q hN t3 Fu O Gm Gq a1 a2 a3 a4 ⟨a5, a6, a7, a8⟩ ⟨c1, c2, c3⟩ ⟨d1, d2, d3, d4⟩ row old rl
    obtain ⟨G, a2, a2'⟩ := a2
    have FL : FRM ge62 p0 q := ((FRM.refl.si (by simp [ge62])).trans (Gm.mono (fun a k z => by rw [z]; simp [ge62]))).trans (Gq.mono (fun _ _ => mR_62))
    have cel : ∀ a k, a < 1262 → hi q a k = hi u a k := fun a k ha => by rw [FL.lo ha, O.hiq]
    have FA : FRM (rP tc lc) h q := (((F1.mono (fun a k z => z.elim (fun z => Or.inr (Or.inr (Or.inl z))) (fun z => Or.inr (Or.inl z)))).trans (Fu.mono (fun _ _ z => Or.inl z))).ow O).trans (((FRM.refl.si (by simp [rP])).trans (Gm.mono (fun a k z => by rw [z]; simp [rP]))).trans (Gq.mono (fun _ _ z => Or.inr (Or.inr (Or.inr (Or.inl z))))))
    have r := rdy_fin (g := q) (p := p) (N := N) (lc := lc) (tI := nI t) H b3 e7 t3 FA ⟨by omega, hN.1, hN.2, by omega⟩ (by rw [cel 1244 1 (by decide)]; exact a1) c1 (fun i hi' => by rw [row i hi', cb_q (cel 1246 (3999 - i) (by decide))]) ⟨ga, gm, g1, by rw [cel 1244 2 (by decide), a2, a2'], by rw [Gq.at (by simp [mR]), Gm.at (by simp), hi_nk (by decide), O.hiq, Fu.at (by simp [uR]), F1.at (by simp)]; exact g3, g4, fun _ => g6⟩ (by rw [cel 1244 7 (by decide)]; exact a3) c2 (by rw [cel 1247 tc (by decide)]; exact a5) d1 (by rw [cel 1248 tc (by decide)]; exact a6) d3 (by rw [cel 1249 tc (by decide)]; exact a7) d2 (by rw [cel 1250 tc (by decide)]; exact a8) d4 rl (by rw [cel 1244 10 (by decide)]; exact a4) c3
    exact ⟨by rw [Gq.at (by simp [mR]), Gm.at (by simp), hi_at], ⟨S, sg, sd, r.1⟩, r.2⟩
  obtain ⟨m0, -, G0, eb0⟩ := mgo h Q00
  rcases srch h m0 Q00 G0 eb0 with ⟨sC, -⟩ | ⟨ls, ls4, lsn, sC, -⟩
  · -- no equal list
    have sM : ∀ g u, MSm h g → FRM (fun a _ => a = 1309) (hsi g 1262 0 0) u → (∀ i, i < cnt → hi u 1309 (2 * i) = nI (Lw V p lo cnt i % 256) ∧ hi u 1309 (2 * i + 1) = nI (Lw V p lo cnt i / 256)) → f_m_known (nI (2 * cnt)) u = some (0, u) := by
      intro g u Q G eb
      rcases srch g u Q G eb with ⟨-, z⟩ | ⟨ls, -, a2, a3, -⟩
      · exact z
      · rw [sC] at a3
        injection a3 with a3
        injection a3 with a3 _
        exact absurd a3.symm (nI_n1 (by omega))
    have cN' : ∀ X, b_u_close_38 (nI p) (-1) (nI (p + 2 * cnt)) u1 = X → f_u_close h = X := by
      intro X q
      refine c0 _ (o_bind sC (o_neg (not_not_intro rfl) ?_))
      dsimp only
      rw [y2, n_2, pk_mul, nI_add]
      exact q
    have mN' : ∀ g u, MSm h g → FRM (fun a _ => a = 1309) (hsi g 1262 0 0) u → (∀ i, i < cnt → hi u 1309 (2 * i) = nI (Lw V p lo cnt i % 256) ∧ hi u 1309 (2 * i + 1) = nI (Lw V p lo cnt i / 256)) → ∀ X, (if nI tc = 300 then b_m_ready_191 u else b_m_ready_185 (nI (p - (n + 4))) (nI p) (nI (2 * cnt)) 0 0 (nI (p + 2 * cnt)) u) = X → mTail (nI (p - (n + 4))) (nI p) (nI (2 * cnt)) u = X := by
      intro g u Q G eb X q
      unfold mTail
      refine o_bind (sM g u Q G eb) (o_bind (fil u) ?_)
      dsimp only
      rw [k59 g u Q G, ← q]
      by_cases c5 : nI tc = 300
      · rw [if_pos c5, if_pos c5]
      · rw [if_neg c5, if_neg c5]
        refine o_neg (not_not_intro rfl) ?_
        rw [n_0, nI_add, nI_add, show p + 0 + 2 * cnt = p + 2 * cnt by omega]
    by_cases c4 : tc < 300 ∧ p + 2 * cnt ≤ 4000
    · obtain ⟨u, x1, Fu, ⟨x2, x3, x4, x5, x6, x7⟩, x8, x9, x10, x11, x12⟩ := cls_new (c := u1) (L := Lw V p lo cnt) (n := n) (p := p) (ga := ga) (tc := tc) (lc := lc) (cnt := cnt) (tI := nI t) L1 i1 i2 (by omega) n4 hp c4.2 i7 c4.1 i10 y2 (by omega) y3 hL i9 (by omega)
      refine Or.inl ⟨nI tc, u, cl _ (o_bind (cN' _ x1) (o_pos (nI_n1 (by omega)) rfl)), fun p0 O => ?_⟩
      have Q : MSm h p0 := (((F1.mono (fun a k z => by rcases z with z | ⟨z, -⟩ <;> rw [z] <;> simp [lt62])).trans (Fu.mono (fun _ _ => uR_62))).ow O).msm (fun a k q => Or.inl q)
      obtain ⟨q0, w1, G1, w2⟩ := mgo p0 Q
      have qk : ∀ k, k ≠ 0 → k ≠ 2 → k ≠ 55 → hi q0 1262 k = hi h 1262 k := fun k h1 h2 h3 => by rw [G1.at (by simp)]; exact (Q.si (Or.inl rfl)).2.2 k h1 h2 h3
      have qr : ∀ a, 1263 ≤ a → a ≤ 1308 → hi q0 a = hi h a := fun a h1 h2 => by rw [G1.row (fun k => by omega)]; exact (Q.si (Or.inl rfl)).1 a h1 (by omega)
      obtain ⟨q, z1, Gq, ⟨z2, z3, z4, z5, z6, z7⟩, z8, z9, z10, z11, z12⟩ := mod_new (c := q0) (B := fun j => if j % 2 = 0 then Lw V p lo cnt (j / 2) % 256 else Lw V p lo cnt (j / 2) / 256) (n := n) (p := p) (tc := tc) (lc := lc) (v := 2 * cnt) (tI := nI t) (by rw [qk 57 (by decide) (by decide) (by decide)]; exact b1.2.2.1) n4 r1 c4.2 (by rw [qk 59 (by decide) (by decide) (by decide)]; exact b3.2.2.1) c4.1 (by rw [qk 67 (by decide) (by decide) (by decide)]; exact e67) (by rw [qk 64 (by decide) (by decide) (by decide)]; exact l3) (by omega) (by omega) (fun j => by
        have := hL (j / 2)
        by_cases cj : j % 2 = 0
        · rw [if_pos cj]; omega
        · rw [if_neg cj]; omega) (fun j hj' => by
        obtain ⟨e1, e2⟩ := w2 (j / 2) (by omega)
        by_cases cj : j % 2 = 0
        · rw [if_pos cj]
          rw [show 2 * (j / 2) = j by omega] at e1
          exact e1
        · rw [if_neg cj]
          rw [show 2 * (j / 2) + 1 = j by omega] at e2
          exact e2)
      have mo : f_m_ready p0 = some (nI tc, q) := w1.trans (mN' p0 q0 Q G1 w2 _ (o_neg (show ¬ nI tc = nI 300 by (first | (simp (maxSteps := 4000000) (disch := omega) only [n_0, n_1, n_2, n_3, n_4, n_5, n_6, n_7, n_8, n_9, n_10, n_11, n_12, n_13, n_14, n_15, n_16, n_18, n_20, n_24, n_31, n_32, n_34, n_40, n_41, n_44, n_45, n_47, n_48, n_57, n_58, n_59, n_61, n_63, n_64, n_65, n_68, n_90, n_91, n_93, n_95, n_97, n_100, n_122, n_123, n_125, n_128, n_144, n_200, n_255, n_256, n_300, n_400, n_600, n_1536, n_3980, n_4000, n_4001, n_4300, n_65536, l_0, l_1, l_2, l_3, l_4, l_10, l_48, l_63, l_255, l_300, nI_ltI, nI_leI, nI_eq, nI_clamp, nI_add, pk_sub, pk_mul, nI_ne1, ne1_nI, nI_pge, nI_nlt0, nI_l, lN_i, lN_add, lN_mul, lN_sub, pk_lLT, pk_lLE, pk_lEQ, lg_lt, lg_ge, lg_eq0, lg_le, lg_gt, lg_ltn, lg_gen, lg_eq0n, lg_len, lg_gtn, Nat.zero_le, Nat.not_lt_zero, not_false_eq_true, not_true_eq_false, true_and, and_true]; done) | (simp (maxSteps := 4000000) (disch := omega) only [n_0, n_1, n_2, n_3, n_4, n_5, n_6, n_7, n_8, n_9, n_10, n_11, n_12, n_13, n_14, n_15, n_16, n_18, n_20, n_24, n_31, n_32, n_34, n_40, n_41, n_44, n_45, n_47, n_48, n_57, n_58, n_59, n_61, n_63, n_64, n_65, n_68, n_90, n_91, n_93, n_95, n_97, n_100, n_122, n_123, n_125, n_128, n_144, n_200, n_255, n_256, n_300, n_400, n_600, n_1536, n_3980, n_4000, n_4001, n_4300, n_65536, l_0, l_1, l_2, l_3, l_4, l_10, l_48, l_63, l_255, l_300, nI_ltI, nI_leI, nI_eq, nI_clamp, nI_add, pk_sub, pk_mul, nI_ne1, ne1_nI, nI_pge, nI_nlt0, nI_l, lN_i, lN_add, lN_mul, lN_sub, pk_lLT, pk_lLE, pk_lEQ, lg_lt, lg_ge, lg_eq0, lg_le, lg_gt, lg_ltn, lg_gen, lg_eq0n, lg_len, lg_gtn, Nat.zero_le, Nat.not_lt_zero, not_false_eq_true, not_true_eq_false, true_and, and_true]; omega) | omega)) z1))
      have cel : ∀ a k, a < 1262 → hi q a k = hi u a k := fun a k ha => by rw [Gq.at (by unfold mR; omega), G1.at (by omega), hi_hsi_ne (by omega), O.hiq]
      have cbe : ∀ k, cb q 1246 k = cb u 1246 k := fun k => cb_q (cel 1246 k (by decide))
      have cb1 : ∀ k, cb u1 1246 k = cb h 1246 k := fun k => F1.cbq (by simp)
      have row : ∀ i, i < p + 2 * cnt → hi q 1299 i = nI (cb u 1246 (3999 - i)) := by
        intro i hi'
        by_cases k1 : i < n
        · rw [z9 i k1, qr 1299 (by decide) (by decide), x9 _ (by omega), cb1]
          exact b1.2.2.2 i k1
        · by_cases k2 : i < p - 4
          · rw [z10 i (by omega) k2, x10 _ (by omega) (by omega)]
            rfl
          · by_cases k3 : i < p
            · have := x11 (p - 1 - i) (by omega)
              rw [show 4000 - p + (p - 1 - i) = 3999 - i by omega] at this
              rw [z11 i (by omega) k3, this]
            · obtain ⟨e1, e2⟩ := x12 ((p + 2 * cnt - 1 - i) / 2) (by omega)
              rw [z12 i (by omega) hi']
              by_cases cj : (p + 2 * cnt - 1 - i) % 2 = 0
              · rw [if_pos cj, ← e1, show 4000 - (p + 2 * cnt) + 2 * ((p + 2 * cnt - 1 - i) / 2) = 3999 - i by omega]
              · rw [if_neg cj, ← e2, show 4000 - (p + 2 * cnt) + 2 * ((p + 2 * cnt - 1 - i) / 2) + 1 = 3999 - i by omega]
      have rl : RBl q (p + 2 * cnt) (tc + 1) := by
        refine ⟨lc + 1, by omega, by rw [cel 1244 9 (by decide)]; exact x5, z4, fun l hl => ?_⟩
        by_cases cl' : l = lc
        · subst cl'
          refine ⟨p + 2 * cnt, 2 * cnt, by rw [cel 1251 l (by decide)]; exact x7, z6, z7, by omega, by omega, by omega, by omega, Nat.le_refl _, ?_⟩
          obtain ⟨e1, e2⟩ := x12 0 (by omega)
          rw [nb_2, cbe, cbe]
          rw [Nat.mul_zero, Nat.add_zero] at e1
          rw [Nat.mul_zero, Nat.add_zero] at e2
          rw [e1, e2, Lw_0]
          omega
        · exact lst_kept (g := q) (N := p + 2 * cnt) l4 n4 (by omega) (fun l hl => ⟨by rw [cel 1251 l (by decide), Fu.at (by simp [uR]; omega), F1.at (by simp)], by rw [Gq.at (by simp [mR]; omega), qr 1304 (by decide) (by decide)], by rw [Gq.at (by simp [mR]; omega), qr 1305 (by decide) (by decide)]⟩) (fun m h1 h2 => by rw [cbe, x9 m h1, cb1]) l (by omega)
      have r := fin (p + 2 * cnt) u p0 q0 q ⟨by omega, c4.2⟩ c4.1 Fu O G1 Gq x2 ⟨_, x3, by omega⟩ x4 x6 x8 ⟨z2, z3, z5⟩ z8 row x9 rl
      exact ⟨_, q, mo, rfl, r.1, r.2.1, r.2.2⟩
    · have c3 : f_u_hasRoomForThing (nI (p + 2 * cnt)) u1 = some (0, u1) := by
        rcases e_u_room (h := u1) (N := p + 2 * cnt) i7 tc3 (by omega) with ⟨q1, q2, -⟩ | ⟨-, q⟩
        · exact absurd ⟨q1, q2⟩ c4
        · exact q
      refine thw (cl _ (o_bind (v := (-1, u1)) (cN' _ ?_) (o_neg (not_not_intro rfl) (o_pos hm1 rfl)))) (fun g u Q G eb => mN' g u Q G eb _ ?_)
      · unfold b_u_close_38
        exact o_bind c3 (o_neg (not_not_intro rfl) rfl)
      · by_cases c5 : tc = 300
        · exact o_pos (by rw [c5]; rfl) rfl
        · refine o_neg (show ¬ nI tc = nI 300 by (first | (simp (maxSteps := 4000000) (disch := omega) only [n_0, n_1, n_2, n_3, n_4, n_5, n_6, n_7, n_8, n_9, n_10, n_11, n_12, n_13, n_14, n_15, n_16, n_18, n_20, n_24, n_31, n_32, n_34, n_40, n_41, n_44, n_45, n_47, n_48, n_57, n_58, n_59, n_61, n_63, n_64, n_65, n_68, n_90, n_91, n_93, n_95, n_97, n_100, n_122, n_123, n_125, n_128, n_144, n_200, n_255, n_256, n_300, n_400, n_600, n_1536, n_3980, n_4000, n_4001, n_4300, n_65536, l_0, l_1, l_2, l_3, l_4, l_10, l_48, l_63, l_255, l_300, nI_ltI, nI_leI, nI_eq, nI_clamp, nI_add, pk_sub, pk_mul, nI_ne1, ne1_nI, nI_pge, nI_nlt0, nI_l, lN_i, lN_add, lN_mul, lN_sub, pk_lLT, pk_lLE, pk_lEQ, lg_lt, lg_ge, lg_eq0, lg_le, lg_gt, lg_ltn, lg_gen, lg_eq0n, lg_len, lg_gtn, Nat.zero_le, Nat.not_lt_zero, not_false_eq_true, not_true_eq_false, true_and, and_true]; done) | (simp (maxSteps := 4000000) (disch := omega) only [n_0, n_1, n_2, n_3, n_4, n_5, n_6, n_7, n_8, n_9, n_10, n_11, n_12, n_13, n_14, n_15, n_16, n_18, n_20, n_24, n_31, n_32, n_34, n_40, n_41, n_44, n_45, n_47, n_48, n_57, n_58, n_59, n_61, n_63, n_64, n_65, n_68, n_90, n_91, n_93, n_95, n_97, n_100, n_122, n_123, n_125, n_128, n_144, n_200, n_255, n_256, n_300, n_400, n_600, n_1536, n_3980, n_4000, n_4001, n_4300, n_65536, l_0, l_1, l_2, l_3, l_4, l_10, l_48, l_63, l_255, l_300, nI_ltI, nI_leI, nI_eq, nI_clamp, nI_add, pk_sub, pk_mul, nI_ne1, ne1_nI, nI_pge, nI_nlt0, nI_l, lN_i, lN_add, lN_mul, lN_sub, pk_lLT, pk_lLE, pk_lEQ, lg_lt, lg_ge, lg_eq0, lg_le, lg_gt, lg_ltn, lg_gen, lg_eq0n, lg_len, lg_gtn, Nat.zero_le, Nat.not_lt_zero, not_false_eq_true, not_true_eq_false, true_and, and_true]; omega) | omega)) ?_
          unfold b_m_ready_185
          exact o_neg (show ¬ nI (p + 2 * cnt) ≤ nI 4000 by (first | (simp (maxSteps := 4000000) (disch := omega) only [n_0, n_1, n_2, n_3, n_4, n_5, n_6, n_7, n_8, n_9, n_10, n_11, n_12, n_13, n_14, n_15, n_16, n_18, n_20, n_24, n_31, n_32, n_34, n_40, n_41, n_44, n_45, n_47, n_48, n_57, n_58, n_59, n_61, n_63, n_64, n_65, n_68, n_90, n_91, n_93, n_95, n_97, n_100, n_122, n_123, n_125, n_128, n_144, n_200, n_255, n_256, n_300, n_400, n_600, n_1536, n_3980, n_4000, n_4001, n_4300, n_65536, l_0, l_1, l_2, l_3, l_4, l_10, l_48, l_63, l_255, l_300, nI_ltI, nI_leI, nI_eq, nI_clamp, nI_add, pk_sub, pk_mul, nI_ne1, ne1_nI, nI_pge, nI_nlt0, nI_l, lN_i, lN_add, lN_mul, lN_sub, pk_lLT, pk_lLE, pk_lEQ, lg_lt, lg_ge, lg_eq0, lg_le, lg_gt, lg_ltn, lg_gen, lg_eq0n, lg_len, lg_gtn, Nat.zero_le, Nat.not_lt_zero, not_false_eq_true, not_true_eq_false, true_and, and_true]; done) | (simp (maxSteps := 4000000) (disch := omega) only [n_0, n_1, n_2, n_3, n_4, n_5, n_6, n_7, n_8, n_9, n_10, n_11, n_12, n_13, n_14, n_15, n_16, n_18, n_20, n_24, n_31, n_32, n_34, n_40, n_41, n_44, n_45, n_47, n_48, n_57, n_58, n_59, n_61, n_63, n_64, n_65, n_68, n_90, n_91, n_93, n_95, n_97, n_100, n_122, n_123, n_125, n_128, n_144, n_200, n_255, n_256, n_300, n_400, n_600, n_1536, n_3980, n_4000, n_4001, n_4300, n_65536, l_0, l_1, l_2, l_3, l_4, l_10, l_48, l_63, l_255, l_300, nI_ltI, nI_leI, nI_eq, nI_clamp, nI_add, pk_sub, pk_mul, nI_ne1, ne1_nI, nI_pge, nI_nlt0, nI_l, lN_i, lN_add, lN_mul, lN_sub, pk_lLT, pk_lLE, pk_lEQ, lg_lt, lg_ge, lg_eq0, lg_le, lg_gt, lg_ltn, lg_gen, lg_eq0n, lg_len, lg_gtn, Nat.zero_le, Nat.not_lt_zero, not_false_eq_true, not_true_eq_false, true_and, and_true]; omega) | omega)) rfl
  · -- an equal list
    have sM : ∀ g u, MSm h g → FRM (fun a _ => a = 1309) (hsi g 1262 0 0) u → (∀ i, i < cnt → hi u 1309 (2 * i) = nI (Lw V p lo cnt i % 256) ∧ hi u 1309 (2 * i + 1) = nI (Lw V p lo cnt i / 256)) → f_m_known (nI (2 * cnt)) u = some (nI ls, u) := by
      intro g u Q G eb
      rcases srch g u Q G eb with ⟨a3, -⟩ | ⟨ls', -, a2, a3, z⟩
      · rw [sC] at a3
        injection a3 with a3
        injection a3 with a3 _
        exact absurd a3 (nI_n1 (by omega))
      · rw [sC] at a3
        injection a3 with a3
        injection a3 with a3 _
        rw [a3]
        exact z
    have nl : ¬ nI ls = 0 := show ¬ nI ls = nI 0 by (first | (simp (maxSteps := 4000000) (disch := omega) only [n_0, n_1, n_2, n_3, n_4, n_5, n_6, n_7, n_8, n_9, n_10, n_11, n_12, n_13, n_14, n_15, n_16, n_18, n_20, n_24, n_31, n_32, n_34, n_40, n_41, n_44, n_45, n_47, n_48, n_57, n_58, n_59, n_61, n_63, n_64, n_65, n_68, n_90, n_91, n_93, n_95, n_97, n_100, n_122, n_123, n_125, n_128, n_144, n_200, n_255, n_256, n_300, n_400, n_600, n_1536, n_3980, n_4000, n_4001, n_4300, n_65536, l_0, l_1, l_2, l_3, l_4, l_10, l_48, l_63, l_255, l_300, nI_ltI, nI_leI, nI_eq, nI_clamp, nI_add, pk_sub, pk_mul, nI_ne1, ne1_nI, nI_pge, nI_nlt0, nI_l, lN_i, lN_add, lN_mul, lN_sub, pk_lLT, pk_lLE, pk_lEQ, lg_lt, lg_ge, lg_eq0, lg_le, lg_gt, lg_ltn, lg_gen, lg_eq0n, lg_len, lg_gtn, Nat.zero_le, Nat.not_lt_zero, not_false_eq_true, not_true_eq_false, true_and, and_true]; done) | (simp (maxSteps := 4000000) (disch := omega) only [n_0, n_1, n_2, n_3, n_4, n_5, n_6, n_7, n_8, n_9, n_10, n_11, n_12, n_13, n_14, n_15, n_16, n_18, n_20, n_24, n_31, n_32, n_34, n_40, n_41, n_44, n_45, n_47, n_48, n_57, n_58, n_59, n_61, n_63, n_64, n_65, n_68, n_90, n_91, n_93, n_95, n_97, n_100, n_122, n_123, n_125, n_128, n_144, n_200, n_255, n_256, n_300, n_400, n_600, n_1536, n_3980, n_4000, n_4001, n_4300, n_65536, l_0, l_1, l_2, l_3, l_4, l_10, l_48, l_63, l_255, l_300, nI_ltI, nI_leI, nI_eq, nI_clamp, nI_add, pk_sub, pk_mul, nI_ne1, ne1_nI, nI_pge, nI_nlt0, nI_l, lN_i, lN_add, lN_mul, lN_sub, pk_lLT, pk_lLE, pk_lEQ, lg_lt, lg_ge, lg_eq0, lg_le, lg_gt, lg_ltn, lg_gen, lg_eq0n, lg_len, lg_gtn, Nat.zero_le, Nat.not_lt_zero, not_false_eq_true, not_true_eq_false, true_and, and_true]; omega) | omega)
    have cO' : ∀ X, b_u_close_38 (nI p) (nI ls) (nI p) u1 = X → f_u_close h = X := fun X q => c0 _ (o_bind sC (o_pos (nI_n1 (by omega)) q))
    have mO' : ∀ g u, MSm h g → FRM (fun a _ => a = 1309) (hsi g 1262 0 0) u → (∀ i, i < cnt → hi u 1309 (2 * i) = nI (Lw V p lo cnt i % 256) ∧ hi u 1309 (2 * i + 1) = nI (Lw V p lo cnt i / 256)) → ∀ X, (if nI tc = 300 then b_m_ready_191 u else b_m_ready_185 (nI (p - (n + 4))) (nI p) (nI (2 * cnt)) (nI ls) 0 (nI p) u) = X → mTail (nI (p - (n + 4))) (nI p) (nI (2 * cnt)) u = X := by
      intro g u Q G eb X q
      unfold mTail
      refine o_bind (sM g u Q G eb) (o_bind (fil u) ?_)
      dsimp only
      rw [k59 g u Q G, ← q]
      by_cases c5 : nI tc = 300
      · rw [if_pos c5, if_pos c5]
      · rw [if_neg c5, if_neg c5]
        exact o_pos nl rfl
    by_cases c4 : tc < 300 ∧ p ≤ 4000
    · obtain ⟨u, x1, Fu, ⟨x2, x3, x4, x5, x6, x7⟩, x8, x9, x10, x11⟩ := cls_old (c := u1) (n := n) (p := p) (ga := ga) (tc := tc) (ls := ls) (lc := lc) (tI := nI t) L1 i1 i2 (by omega) n4 hp c4.2 i7 c4.1 i10 (by omega)
      refine Or.inl ⟨nI tc, u, cl _ (o_bind (cO' _ x1) (o_pos (nI_n1 (by omega)) rfl)), fun p0 O => ?_⟩
      have Q : MSm h p0 := (((F1.mono (fun a k z => by rcases z with z | ⟨z, -⟩ <;> rw [z] <;> simp [lt62])).trans (Fu.mono (fun _ _ => uR_62))).ow O).msm (fun a k q => Or.inl q)
      obtain ⟨q0, w1, G1, w2⟩ := mgo p0 Q
      have qk : ∀ k, k ≠ 0 → k ≠ 2 → k ≠ 55 → hi q0 1262 k = hi h 1262 k := fun k h1 h2 h3 => by rw [G1.at (by simp)]; exact (Q.si (Or.inl rfl)).2.2 k h1 h2 h3
      have qr : ∀ a, 1263 ≤ a → a ≤ 1308 → hi q0 a = hi h a := fun a h1 h2 => by rw [G1.row (fun k => by omega)]; exact (Q.si (Or.inl rfl)).1 a h1 (by omega)
      obtain ⟨q, z1, Gq, ⟨z2, z3, z4, z5, z6, z7⟩, z8, z9, z10, z11⟩ := mod_old (c := q0) (n := n) (p := p) (tc := tc) (ls := ls) (lc := lc) (tI := nI t) (v := nI (2 * cnt)) (by rw [qk 57 (by decide) (by decide) (by decide)]; exact b1.2.2.1) n4 r1 c4.2 (by rw [qk 59 (by decide) (by decide) (by decide)]; exact b3.2.2.1) c4.1 (by rw [qk 67 (by decide) (by decide) (by decide)]; exact e67) (by omega) (by omega)
      have mo : f_m_ready p0 = some (nI tc, q) := w1.trans (mO' p0 q0 Q G1 w2 _ (o_neg (show ¬ nI tc = nI 300 by (first | (simp (maxSteps := 4000000) (disch := omega) only [n_0, n_1, n_2, n_3, n_4, n_5, n_6, n_7, n_8, n_9, n_10, n_11, n_12, n_13, n_14, n_15, n_16, n_18, n_20, n_24, n_31, n_32, n_34, n_40, n_41, n_44, n_45, n_47, n_48, n_57, n_58, n_59, n_61, n_63, n_64, n_65, n_68, n_90, n_91, n_93, n_95, n_97, n_100, n_122, n_123, n_125, n_128, n_144, n_200, n_255, n_256, n_300, n_400, n_600, n_1536, n_3980, n_4000, n_4001, n_4300, n_65536, l_0, l_1, l_2, l_3, l_4, l_10, l_48, l_63, l_255, l_300, nI_ltI, nI_leI, nI_eq, nI_clamp, nI_add, pk_sub, pk_mul, nI_ne1, ne1_nI, nI_pge, nI_nlt0, nI_l, lN_i, lN_add, lN_mul, lN_sub, pk_lLT, pk_lLE, pk_lEQ, lg_lt, lg_ge, lg_eq0, lg_le, lg_gt, lg_ltn, lg_gen, lg_eq0n, lg_len, lg_gtn, Nat.zero_le, Nat.not_lt_zero, not_false_eq_true, not_true_eq_false, true_and, and_true]; done) | (simp (maxSteps := 4000000) (disch := omega) only [n_0, n_1, n_2, n_3, n_4, n_5, n_6, n_7, n_8, n_9, n_10, n_11, n_12, n_13, n_14, n_15, n_16, n_18, n_20, n_24, n_31, n_32, n_34, n_40, n_41, n_44, n_45, n_47, n_48, n_57, n_58, n_59, n_61, n_63, n_64, n_65, n_68, n_90, n_91, n_93, n_95, n_97, n_100, n_122, n_123, n_125, n_128, n_144, n_200, n_255, n_256, n_300, n_400, n_600, n_1536, n_3980, n_4000, n_4001, n_4300, n_65536, l_0, l_1, l_2, l_3, l_4, l_10, l_48, l_63, l_255, l_300, nI_ltI, nI_leI, nI_eq, nI_clamp, nI_add, pk_sub, pk_mul, nI_ne1, ne1_nI, nI_pge, nI_nlt0, nI_l, lN_i, lN_add, lN_mul, lN_sub, pk_lLT, pk_lLE, pk_lEQ, lg_lt, lg_ge, lg_eq0, lg_le, lg_gt, lg_ltn, lg_gen, lg_eq0n, lg_len, lg_gtn, Nat.zero_le, Nat.not_lt_zero, not_false_eq_true, not_true_eq_false, true_and, and_true]; omega) | omega)) z1))
      have cel : ∀ a k, a < 1262 → hi q a k = hi u a k := fun a k ha => by rw [Gq.at (by unfold mR; omega), G1.at (by omega), hi_hsi_ne (by omega), O.hiq]
      have cbe : ∀ k, cb q 1246 k = cb u 1246 k := fun k => cb_q (cel 1246 k (by decide))
      have cb1 : ∀ k, cb u1 1246 k = cb h 1246 k := fun k => F1.cbq (by simp)
      have row : ∀ i, i < p → hi q 1299 i = nI (cb u 1246 (3999 - i)) := by
        intro i hi'
        by_cases k1 : i < n
        · rw [z9 i k1, qr 1299 (by decide) (by decide), x9 _ (by omega), cb1]
          exact b1.2.2.2 i k1
        · by_cases k2 : i < p - 4
          · rw [z10 i (by omega) k2, x10 _ (by omega) (by omega)]
            rfl
          · have := x11 (p - 1 - i) (by omega)
            rw [show 4000 - p + (p - 1 - i) = 3999 - i by omega] at this
            rw [z11 i (by omega) hi', this]
      have rl : RBl q p (tc + 1) := ⟨lc, by omega, by rw [cel 1244 9 (by decide), x5]; exact i9, by rw [z4, qk 64 (by decide) (by decide) (by decide)]; exact l3, lst_kept (g := q) (N := p) l4 n4 (by omega) (fun l hl => ⟨by rw [cel 1251 l (by decide), x7, F1.at (by simp)], by rw [z6, qr 1304 (by decide) (by decide)], by rw [z7, qr 1305 (by decide) (by decide)]⟩) (fun m h1 h2 => by rw [cbe, x9 m h1, cb1])⟩
      have r := fin p u p0 q0 q ⟨Nat.le_refl p, c4.2⟩ c4.1 Fu O G1 Gq x2 ⟨_, x3, by omega⟩ x4 x6 x8 ⟨z2, z3, z5⟩ z8 row x9 rl
      exact ⟨_, q, mo, rfl, r.1, r.2.1, r.2.2⟩
    · have c3 : f_u_hasRoomForThing (nI p) u1 = some (0, u1) := by
        rcases e_u_room (h := u1) (N := p) i7 tc3 (by omega) with ⟨q1, q2, -⟩ | ⟨-, q⟩
        · exact absurd ⟨q1, q2⟩ c4
        · exact q
      refine thw (cl _ (o_bind (v := (-1, u1)) (cO' _ ?_) (o_neg (not_not_intro rfl) (o_pos hm1 rfl)))) (fun g u Q G eb => mO' g u Q G eb _ ?_)
      · unfold b_u_close_38
        exact o_bind c3 (o_neg (not_not_intro rfl) rfl)
      · by_cases c5 : tc = 300
        · exact o_pos (by rw [c5]; rfl) rfl
        · refine o_neg (show ¬ nI tc = nI 300 by (first | (simp (maxSteps := 4000000) (disch := omega) only [n_0, n_1, n_2, n_3, n_4, n_5, n_6, n_7, n_8, n_9, n_10, n_11, n_12, n_13, n_14, n_15, n_16, n_18, n_20, n_24, n_31, n_32, n_34, n_40, n_41, n_44, n_45, n_47, n_48, n_57, n_58, n_59, n_61, n_63, n_64, n_65, n_68, n_90, n_91, n_93, n_95, n_97, n_100, n_122, n_123, n_125, n_128, n_144, n_200, n_255, n_256, n_300, n_400, n_600, n_1536, n_3980, n_4000, n_4001, n_4300, n_65536, l_0, l_1, l_2, l_3, l_4, l_10, l_48, l_63, l_255, l_300, nI_ltI, nI_leI, nI_eq, nI_clamp, nI_add, pk_sub, pk_mul, nI_ne1, ne1_nI, nI_pge, nI_nlt0, nI_l, lN_i, lN_add, lN_mul, lN_sub, pk_lLT, pk_lLE, pk_lEQ, lg_lt, lg_ge, lg_eq0, lg_le, lg_gt, lg_ltn, lg_gen, lg_eq0n, lg_len, lg_gtn, Nat.zero_le, Nat.not_lt_zero, not_false_eq_true, not_true_eq_false, true_and, and_true]; done) | (simp (maxSteps := 4000000) (disch := omega) only [n_0, n_1, n_2, n_3, n_4, n_5, n_6, n_7, n_8, n_9, n_10, n_11, n_12, n_13, n_14, n_15, n_16, n_18, n_20, n_24, n_31, n_32, n_34, n_40, n_41, n_44, n_45, n_47, n_48, n_57, n_58, n_59, n_61, n_63, n_64, n_65, n_68, n_90, n_91, n_93, n_95, n_97, n_100, n_122, n_123, n_125, n_128, n_144, n_200, n_255, n_256, n_300, n_400, n_600, n_1536, n_3980, n_4000, n_4001, n_4300, n_65536, l_0, l_1, l_2, l_3, l_4, l_10, l_48, l_63, l_255, l_300, nI_ltI, nI_leI, nI_eq, nI_clamp, nI_add, pk_sub, pk_mul, nI_ne1, ne1_nI, nI_pge, nI_nlt0, nI_l, lN_i, lN_add, lN_mul, lN_sub, pk_lLT, pk_lLE, pk_lEQ, lg_lt, lg_ge, lg_eq0, lg_le, lg_gt, lg_ltn, lg_gen, lg_eq0n, lg_len, lg_gtn, Nat.zero_le, Nat.not_lt_zero, not_false_eq_true, not_true_eq_false, true_and, and_true]; omega) | omega)) ?_
          unfold b_m_ready_185
          exact o_neg (show ¬ nI p ≤ nI 4000 by (first | (simp (maxSteps := 4000000) (disch := omega) only [n_0, n_1, n_2, n_3, n_4, n_5, n_6, n_7, n_8, n_9, n_10, n_11, n_12, n_13, n_14, n_15, n_16, n_18, n_20, n_24, n_31, n_32, n_34, n_40, n_41, n_44, n_45, n_47, n_48, n_57, n_58, n_59, n_61, n_63, n_64, n_65, n_68, n_90, n_91, n_93, n_95, n_97, n_100, n_122, n_123, n_125, n_128, n_144, n_200, n_255, n_256, n_300, n_400, n_600, n_1536, n_3980, n_4000, n_4001, n_4300, n_65536, l_0, l_1, l_2, l_3, l_4, l_10, l_48, l_63, l_255, l_300, nI_ltI, nI_leI, nI_eq, nI_clamp, nI_add, pk_sub, pk_mul, nI_ne1, ne1_nI, nI_pge, nI_nlt0, nI_l, lN_i, lN_add, lN_mul, lN_sub, pk_lLT, pk_lLE, pk_lEQ, lg_lt, lg_ge, lg_eq0, lg_le, lg_gt, lg_ltn, lg_gen, lg_eq0n, lg_len, lg_gtn, Nat.zero_le, Nat.not_lt_zero, not_false_eq_true, not_true_eq_false, true_and, and_true]; done) | (simp (maxSteps := 4000000) (disch := omega) only [n_0, n_1, n_2, n_3, n_4, n_5, n_6, n_7, n_8, n_9, n_10, n_11, n_12, n_13, n_14, n_15, n_16, n_18, n_20, n_24, n_31, n_32, n_34, n_40, n_41, n_44, n_45, n_47, n_48, n_57, n_58, n_59, n_61, n_63, n_64, n_65, n_68, n_90, n_91, n_93, n_95, n_97, n_100, n_122, n_123, n_125, n_128, n_144, n_200, n_255, n_256, n_300, n_400, n_600, n_1536, n_3980, n_4000, n_4001, n_4300, n_65536, l_0, l_1, l_2, l_3, l_4, l_10, l_48, l_63, l_255, l_300, nI_ltI, nI_leI, nI_eq, nI_clamp, nI_add, pk_sub, pk_mul, nI_ne1, ne1_nI, nI_pge, nI_nlt0, nI_l, lN_i, lN_add, lN_mul, lN_sub, pk_lLT, pk_lLE, pk_lEQ, lg_lt, lg_ge, lg_eq0, lg_le, lg_gt, lg_ltn, lg_gen, lg_eq0n, lg_len, lg_gtn, Nat.zero_le, Nat.not_lt_zero, not_false_eq_true, not_true_eq_false, true_and, and_true]; omega) | omega)) rfl
theorem op_ready (H : RX h) (hm : hz h < 900000) : TH h f_t_ready f_m_ready (fun v w => v = w) [(1, 1), (2, 2)] := by
  obtain ⟨S, sg, sd, H⟩ := H
  have hm1 : hz h < 1000000 := by omega
  have h4 := H.2.1.1
  have thw : f_t_ready h = some (Sum.inr 1, hthr h) → (∀ g, MSm h g → f_m_ready g = some (0, hsi (hsi g 1262 0 0) 1262 0 1)) → TH h f_t_ready f_m_ready (fun v w => v = w) [(1, 1), (2, 2)] := by
    intro z1 z2
    refine TH.no H hm FRM.refl (j := 1) (k := 1) (by decide) z1 (fun g1 O rd => ?_)
    have l0 := H.1.1
    have Q : MSm h g1 := ⟨fun a h1 h2 => rd a (by omega), fun a ha => O.thj (by omega) (by omega), fun k _ _ _ => by rw [rd 1262 (by decide)]⟩
    refine ⟨0, _, z2 g1 Q, (FRM.refl.si (by simp [cP])).si (by simp [cP]), hi_at, fun X => X.tv H ?_ ?_ ?_ ?_⟩
    · rw [hi_hsi_ne (by decide), hi_hsi_ne (by decide), rd 1 (by decide)]
    · rw [hi_nk (by decide), hi_nk (by decide), rd 1262 (by decide)]
    · rw [hi_hsi_ne (by decide), hi_hsi_ne (by decide), rd 5 (by decide)]
    · rw [hi_nk (by decide), hi_nk (by decide), rd 1262 (by decide)]
  rcases H.op with ⟨o1, o2⟩ | ⟨t0, -, -, -, -, -, o1, o2⟩
  · refine thw ?_ (fun g Q => ?_)
    · unfold f_t_ready b_t_ready_37
      exact o_bind (e_u_isOpen0 o1) (o_pos rfl (o_pos hm1 rfl))
    · unfold f_m_ready b_m_ready_20
      exact o_pos (by rw [Q.2.2 67 (by decide) (by decide) (by decide)]; exact o2) rfl
  · obtain ⟨n, tc, b1, b2, b3, b4, b5⟩ := H.2.2.2.2.2.2.2.1
    rcases b5 with ⟨q, -⟩ | ⟨t, lo, ht, e7, e10, e67, e11, e68, lon, fl, sl⟩
    · exact absurd q o1
    obtain ⟨C, M, W, NN⟩ := H.hs e7
    have sc := H.sc rfl
    have s1 : S < hz h := by have := sc.1; omega
    have k9 : hk h S = 9 := sc.2.2.1
    have ut1 : S + 195 < hz h := by have := sc.1; omega
    have ut2 : hk h (S + 195) = 4 := sc.gT.2.2.2.1
    have cl : ∀ X, (Option.bind (f_u_hasRequired (dT S t) h) fun r17 => (if ¬ r17.1 = 0 then (Option.bind (f_u_close r17.2) fun r21 => (if ¬ r21.1 = (-1) then (some (Sum.inl r21.1, r21.2)) else (if hz r21.2 < 1000000 then (some (Sum.inr 2, hthr r21.2)) else none))) else (b_t_ready_37 r17.2))) = X → f_t_ready h = X := by
      intro X q
      unfold f_t_ready
      refine o_bind (e_u_isOpen1 o1) (o_neg one0 (o_bind h4 (o_pos ⟨s1, k9⟩ (o_bind sc.2.2.2.2.1 (o_pos ⟨ut1, ut2⟩ ?_)))))
      dsimp only
      rw [e10]
      exact o_bind (C.atT W ht) (o_bind rfl q)
    have ml : ∀ g, MSm h g → ∀ X, (Option.bind (f_m_lacks (hsi g 1262 0 0)) fun r46 => (if r46.1 = 0 then (Option.bind (f_m_fill (hi r46.2 1262 57) 4 4 r46.2) fun r50 => (b_m_ready_52 100000 r50.1 (((hi r50.2 1262 57) + r50.1) + 4) 4 0 r50.2)) else (b_m_ready_20 r46.2))) = X → f_m_ready g = X := by
      intro g Q X q
      unfold f_m_ready
      exact o_neg (by rw [Q.2.2 67 (by decide) (by decide) (by decide)]; exact o2) q
    have rq : ∀ g, MSm h g → (Rq h sg t ∧ f_m_lacks (hsi g 1262 0 0) = some (0, hsi g 1262 0 0)) ∨ (¬ Rq h sg t ∧ f_m_lacks (hsi g 1262 0 0) = some (1, hsi g 1262 0 0)) := by
      intro g Q
      have Q0 : MSm h (hsi g 1262 0 0) := Q.si (Or.inl rfl)
      have e : Rq (hsi g 1262 0 0) sg t = Rq h sg t := by
        unfold Rq
        rw [Q0.1 1306 (by decide) (by decide)]
      have := e_m_req (c := hsi g 1262 0 0) (Q0.ms M) W ht (by rw [Q0.2.2 67 (by decide) (by decide) (by decide)]; exact e67)
      rw [e] at this
      exact this
    rcases e_u_req C W ht (fun f hf => (fl f hf).1) with ⟨r1, r2⟩ | ⟨r1, r2⟩
    · refine rdy_go H hm W M b1 b2 b3 b4 ht e7 e10 e67 e11 e68 lon sl (fun X q => cl _ (o_bind r2 (o_pos one0 q))) (fun g Q X q => ml g Q _ ?_)
      rcases rq g Q with ⟨-, z⟩ | ⟨z, -⟩
      · exact o_bind z (o_pos rfl q)
      · exact absurd r1 z
    · refine thw (cl _ (o_bind r2 (o_neg (not_not_intro rfl) ?_))) (fun g Q => ml g Q _ ?_)
      · unfold b_t_ready_37
        exact o_pos hm1 rfl
      · rcases rq g Q with ⟨z, -⟩ | ⟨-, z⟩
        · exact absurd z r1
        · exact o_bind z (o_neg one0 rfl)
end Rdy
