/-! schema(): both -/

section Mc
variable {h g p : XH} {S : Nat} {sg sg' : SGT} {sd sd' : Nat → Int64}
theorem MS.cg2 (C : MS h sg sd) (e : ∀ a, 1273 ≤ a → a ≤ 1294 → hi g a = hi h a) (e2 : hj g 1291 = hj h 1291) (e3 : hi g 1262 20 = hi h 1262 20 ∧ hi g 1262 31 = hi h 1262 31 ∧ hi g 1262 41 = hi h 1262 41 ∧ hi g 1262 45 = hi h 1262 45) : MS g sg sd := by
  unfold MS
  rw [e3.1, e3.2.1, e3.2.2.1, e3.2.2.2, e 1273 (by decide) (by decide), e 1274 (by decide) (by decide), e 1275 (by decide) (by decide), e 1277 (by decide) (by decide), e 1278 (by decide) (by decide), e 1279 (by decide) (by decide), e 1280 (by decide) (by decide), e 1281 (by decide) (by decide), e 1282 (by decide) (by decide), e 1283 (by decide) (by decide), e 1284 (by decide) (by decide), e 1286 (by decide) (by decide), e 1287 (by decide) (by decide), e 1288 (by decide) (by decide), e 1289 (by decide) (by decide), e 1290 (by decide) (by decide), e 1292 (by decide) (by decide), e 1294 (by decide) (by decide), e2]
  exact C
/-- two readings of the class's schema -/
theorem sg_same (C : CS h S sg sd) (C' : CS h S sg' sd') (W : WF sg sd) (W' : WF sg' sd') : (sg 0 0 = sg' 0 0 ∧ sg 0 1 = sg' 0 1 ∧ sg 0 2 = sg' 0 2) ∧ (∀ s, s < sg 0 0 → sg 1 s = sg' 1 s ∧ sg 7 s = sg' 7 s) ∧ (∀ t, t < sg 0 1 → sg 10 t = sg' 10 t) ∧ ∀ u, u < sg 0 2 → sg 17 u = sg' 17 u := by
  have w := W.1
  have w' := W'.1
  have a0 : sg 0 0 = sg' 0 0 := (nI_eq (by omega) (by omega)).mp (C.2.1.1.symm.trans C'.2.1.1)
  have a1 : sg 0 1 = sg' 0 1 := (nI_eq (by omega) (by omega)).mp (C.2.1.2.1.symm.trans C'.2.1.2.1)
  have a2 : sg 0 2 = sg' 0 2 := (nI_eq (by omega) (by omega)).mp (C.2.1.2.2.1.symm.trans C'.2.1.2.2.1)
  refine ⟨⟨a0, a1, a2⟩, fun s hs => ?_, fun t ht => ?_, fun u hu => ?_⟩
  · have v := (W.2.1 s hs).1
    have v' := (W'.2.1 s (by omega)).1
    obtain ⟨c1, -⟩ := C.2.2.1 s hs
    obtain ⟨c2, -⟩ := C'.2.2.1 s (by omega)
    exact ⟨(nI_eq (by omega) (by omega)).mp (c1.1.symm.trans c2.1), (nI_eq (by omega) (by omega)).mp (c1.2.2.2.symm.trans c2.2.2.2)⟩
  · have v := (W.2.2.1 t ht).1
    have v' := (W'.2.2.1 t (by omega)).1
    exact (nI_eq (by omega) (by omega)).mp ((C.2.2.2.1 t ht).1.1.symm.trans (C'.2.2.2.1 t (by omega)).1.1)
  · have v := (W.2.2.2 u hu).2.1
    have v' := (W'.2.2.2 u (by omega)).2.1
    exact (nI_eq (by omega) (by omega)).mp ((C.2.2.2.2 u hu).1.symm.trans (C'.2.2.2.2 u (by omega)).1)
theorem MS.sw (M : MS p sg' sd') (C : CS h S sg sd) (C' : CS h S sg' sd') (W : WF sg sd) (W' : WF sg' sd') : MS p sg sd := by
  obtain ⟨⟨a0, a1, a2⟩, b1, b2, b3⟩ := sg_same C C' W W'
  obtain ⟨⟨m1, m2, m3, m4⟩, mS, mT, mU⟩ := M
  obtain ⟨-, ⟨c1, c2, c3, c4⟩, cS, cT, cU⟩ := C
  obtain ⟨-, ⟨d1, d2, d3, d4⟩, dS', dT', dU'⟩ := C'
  refine ⟨⟨m1.trans (d1.symm.trans c1), m2.trans (d2.symm.trans c2), m3.trans (d3.symm.trans c3), m4.trans (d4.symm.trans c4)⟩, fun s hs => ?_, fun t ht => ?_, fun u hu => ?_⟩
  · have hs' : s < sg' 0 0 := by omega
    obtain ⟨e1, e7⟩ := b1 s hs
    obtain ⟨⟨p1, p2, p3, p4⟩, p5, p6⟩ := mS s hs'
    obtain ⟨⟨q1, q2, q3, q4⟩, q5, q6⟩ := cS s hs
    obtain ⟨⟨r1, r2, r3, r4⟩, r5, r6⟩ := dS' s hs'
    refine ⟨⟨p1.trans (r1.symm.trans q1), p2.trans (r2.symm.trans q2), p3.trans (r3.symm.trans q3), p4.trans (r4.symm.trans q4)⟩, fun f hf => ?_, fun k hk' => ?_⟩
    · obtain ⟨x1, x2, x3⟩ := p5 f (by omega)
      obtain ⟨y1, y2, -, y3, -⟩ := q5 f hf
      obtain ⟨z1, z2, -, z3, -⟩ := r5 f (by omega)
      exact ⟨x1.trans (z1.symm.trans y1), x2.trans (z2.symm.trans y2), x3.trans (z3.symm.trans y3)⟩
    · obtain ⟨x1, x2⟩ := p6 k (by omega)
      obtain ⟨y1, y2⟩ := q6 k hk'
      obtain ⟨z1, z2⟩ := r6 k (by omega)
      exact ⟨x1.trans (z1.symm.trans y1), x2.trans (z2.symm.trans y2)⟩
  · have ht' : t < sg' 0 1 := by omega
    have e1 := b2 t ht
    obtain ⟨⟨p1, p2⟩, p5⟩ := mT t ht'
    obtain ⟨⟨q1, q2⟩, q5⟩ := cT t ht
    obtain ⟨⟨r1, r2⟩, r5⟩ := dT' t ht'
    refine ⟨⟨p1.trans (r1.symm.trans q1), p2.trans (r2.symm.trans q2)⟩, fun f hf => ?_⟩
    obtain ⟨x1, x2, x3, x4, x5, x6⟩ := p5 f (by omega)
    obtain ⟨y1, y2, y3, y4, y5, y6⟩ := q5 f hf
    obtain ⟨z1, z2, z3, z4, z5, z6⟩ := r5 f (by omega)
    exact ⟨x1.trans (z1.symm.trans y1), x2.trans (z2.symm.trans y2), x3.trans (z3.symm.trans y3), x4.trans (z4.symm.trans y4), x5.trans (z5.symm.trans y5), x6.trans (z6.symm.trans y6)⟩
  · have hu' : u < sg' 0 2 := by omega
    have e1 := b3 u hu
    obtain ⟨p1, p5⟩ := mU u hu'
    obtain ⟨q1, q5⟩ := cU u hu
    obtain ⟨r1, r5⟩ := dU' u hu'
    exact ⟨p1.trans (r1.symm.trans q1), fun m hm => (p5 m (by omega)).trans ((r5 m (by omega)).symm.trans (q5 m hm))⟩
end Mc
section Os
variable {h g1 : XH} {S S' n : Nat} {sg : SGT} {sd : Nat → Int64}
theorem OW.hjq {u g : XH} (W : OW u g) {a : Nat} (ha : a ≠ 1316) : hj g a = hj u a := by
  rcases W with q | ⟨w, q⟩ <;> subst q
  · rfl
  · exact hj_hsj_ne ha
theorem OW.z {u g : XH} (W : OW u g) : hz g = hz u ∧ hw g = hw u ∧ hr g = hr u ∧ LY g = LY u := by
  rcases W with q | ⟨w, q⟩ <;> subst q
  · exact ⟨rfl, rfl, rfl, rfl⟩
  · exact ⟨rfl, rfl, rfl, LY_sj⟩
/-- where the schema is taken -/
theorem sch_good (H : RA h S sg sd) (hm : hz h < 900000) (h4 : hr h 0 4 = some S) (h5 : hr h 0 5 = some S') (hS' : S' = 12 ∨ S' = 628) (eS : S = 640 - S') (e11 : hi h 1 1 = nI n) (n4 : n ≤ 4000) {u w q p : XH} {sg' : SGT} {sd' : Nat → Int64} (ef : f_t_schema h = some (Sum.inl (hi u (S' + 195) 1), w)) (C : CS u S' sg' sd') (M : MS p sg' sd') (W' : WF sg' sd') (N : NM2 u p S' sg') (f7 : hi u (hz h) 7 = 0 ∧ hi u (hz h) 8 = 0) (p14 : hi p 1262 14 = 0) (F1 : CF S' h u) (w1 : LY w) (w2 : FRX wsP nW wsW u w) (w3 : hr w 0 4 = some S') (w4 : hr w 0 5 = some S) (w5 : hi w 0 8 = hi u (hz h) 7 ∧ (hz h ≠ 0 → hi w 0 9 = hi u (hz h) 8)) (w6 : hi w 1244 1 = 0 ∧ hi w 1244 2 = 4 ∧ hi w 1244 7 = 0 ∧ hi w 1244 9 = 0 ∧ hi w 1244 10 = -1 ∧ hi w 1255 5 = -1 ∧ hi w 1256 1 = 0) (W : OW w g1) (q1 : ∀ p, f_m_parse q = some ((), p) → f_m_schema g1 = mCo p) (q2 : MTx q (cb h 2) n) (q4 : FRX msP nW nW g1 q) (q5 : hi q 1262 0 = 0 ∧ hi q 1262 2 = 0) (pq : f_m_parse q = some ((), p)) (G : FRX pfP nJ nW q p) : ∃ x h2, f_m_schema g1 = some (x, h2) ∧ hi u (S' + 195) 1 = x ∧ hi h2 1262 0 = 0 ∧ RX h2 ∧ RM h h2 := by
  have L := H.1
  have l := L.1
  have K := F1.1.2.2.2
  have p5 : hi p 1262 5 = nI n := by rw [G.at (by simp [pfP])]; exact q2.1
  obtain ⟨z, z1, z2, z3, z4⟩ := m_good n4 p14 p5
  -- from the class's heap on
  have kw : ∀ a k, ¬ mgP a k → ¬ pfP a k → ¬ msP a k → hi z a k = hi w a k := fun a k h1 h2 h3 => by rw [z2.at h1, G.at h2, q4.at h3, W.hiq]
  have ku : ∀ a k, ¬ mgP a k → ¬ pfP a k → ¬ msP a k → ¬ wsP a k → hi z a k = hi u a k := fun a k h1 h2 h3 h4 => by rw [kw a k h1 h2 h3, w2.at h4]
  have kh : ∀ a k, a < 1317 → ¬ mgP a k → ¬ pfP a k → ¬ msP a k → ¬ wsP a k → ¬ cfP S' a k → hi z a k = hi h a k := fun a k h0 h1 h2 h3 h4 h5 => by rw [ku a k h1 h2 h3 h4, F1.2.2.2.2 a k (by omega) h5]
  have ju : ∀ a, a ≠ 1316 → a ≠ 1291 → hj z a = hj u a := fun a h1 h2 => funext fun k => by rw [z2.lg (fun y => y), G.lg (by unfold nJ; omega), q4.lg (fun y => y), W.hjq h1, w2.lg (fun y => y)]
  have jh : ∀ a, a < 1316 → a ≠ 1291 → a ≠ 10 → a ≠ 11 → ¬ (S' ≤ a ∧ a < S' + 615) → hj z a = hj h a := fun a h1 h2 h3 h4 h5 => by
    rw [ju a (by omega) h2]
    exact funext fun k => F1.2.2.2.1 a k (by omega) (by omega)
  have rz : hr z = hr w := by
    funext a k
    rw [z2.rf (fun y => y), G.rf (fun y => y), q4.rf (fun y => y), W.z.2.2.1]
  have Lz : LY z := (((show LY g1 by rw [W.z.2.2.2]; exact w1).frx q4 (fun _ _ _ _ y => y)).frx G (fun _ _ _ _ y => y)).frx z2 (fun _ _ _ _ y => y)
  have Sz := SC.of Lz hS'
  have cu : ∀ a, 12 ≤ a → a < 1244 → hi z a = hi u a := fun a h1 h2 => funext fun k => ku a k (by unfold mgP; omega) (by unfold pfP; omega) (by unfold msP; omega) (by unfold wsP; omega)
  obtain ⟨-, -, ht, hv, ho, hf, hs, hb, hr'⟩ := H
  have zz : hz z = hz h + 3 ∧ hw z = hw h + 339 := by
    rw [z2.1.1, z2.1.2.1, G.1.1, G.1.2.1, q4.1.1, q4.1.2.1, W.z.1, W.z.2.1, w2.1.1, w2.1.2.1]
    exact ⟨F1.1.1, F1.1.2.1⟩
  have p31 : hi p 1262 31 = nI (sg' 0 1) := M.1.2.1
  have u95 : hi u (S' + 195) 1 = nI (sg' 0 1) := C.2.1.2.1
  refine ⟨hi p 1262 31, z, (q1 p pq).trans z1, by rw [p31, u95], ?_, ⟨S', sg', sd', Lz, ⟨by rw [rz]; exact w3, ?_, hS'⟩, ?_, ?_, ?_, ?_, Or.inr ⟨z3.2.2.2.1, C.cg W' Sz (fun a h1 h2 => cu a (by omega) (by omega)) (fun a h1 h2 => ju a (by omega) (by omega)), ?_, W', ?_, ?_, K.cg cu⟩, ?_, ?_⟩, ⟨by omega, by omega⟩⟩
  · rw [z2.at (by simp [mgP]), G.at (by simp [pfP])]; exact q5.1
  · rw [rz, w4, eS]
  · exact ⟨0, by omega, by rw [ku 1 1 (by simp [mgP]) (by simp [pfP]) (by simp [msP]) (by simp [wsP])]; exact F1.2.1, by rw [z2.at (by simp [mgP]), G.at (by simp [pfP])]; exact q5.2, fun k hk' => absurd hk' (Nat.not_lt_zero k)⟩
  · exact RV.cg hv (kh 5 1 (by omega) (by simp [mgP]) (by simp [pfP]) (by simp [msP]) (by simp [wsP]) (by unfold cfP; omega)) (kh 1262 55 (by omega) (by simp [mgP]) (by simp [pfP]) (by simp [msP]) (by simp [wsP]) (by unfold cfP; omega)) (jh 6 (by omega) (by omega) (by omega) (by omega) (by omega)) (jh 1298 (by omega) (by omega) (by omega) (by omega) (by omega))
  · exact RO.cg ho (kh 3 1 (by omega) (by simp [mgP]) (by simp [pfP]) (by simp [msP]) (by simp [wsP]) (by unfold cfP; omega)) (kh 1262 72 (by omega) (by simp [mgP]) (by simp [pfP]) (by simp [msP]) (by simp [wsP]) (by unfold cfP; omega)) (funext fun k => kh 4 k (by omega) (by simp [mgP]) (by simp [pfP]) (by simp [msP]) (by simp [wsP]) (by unfold cfP; omega)) (funext fun k => kh 1308 k (by omega) (by simp [mgP]) (by simp [pfP]) (by simp [msP]) (by simp [wsP]) (by unfold cfP; omega))
  · obtain ⟨r1, r2, r3, r4, r5⟩ := hf
    have k0 : ∀ k, hi z 0 k = hi w 0 k := fun k => kw 0 k (by simp [mgP]) (by simp [pfP]) (by simp [msP])
    refine ⟨?_, ?_, ?_, ?_, ?_⟩
    · rw [k0, w5.1, f7.1, z3.1]
    · rw [k0, w5.2 (by omega), f7.2, z3.2.1]
    · rw [kh 0 10 (by omega) (by simp [mgP]) (by simp [pfP]) (by simp [msP]) (by simp [wsP]) (by unfold cfP; omega), kh 1262 52 (by omega) (by simp [mgP]) (by simp [pfP]) (by simp [msP]) (by simp [wsP]) (by unfold cfP; omega)]; exact r3
    · rw [kh 0 11 (by omega) (by simp [mgP]) (by simp [pfP]) (by simp [msP]) (by simp [wsP]) (by unfold cfP; omega), kh 1262 53 (by omega) (by simp [mgP]) (by simp [pfP]) (by simp [msP]) (by simp [wsP]) (by unfold cfP; omega)]; exact r4
    · rw [kh 0 12 (by omega) (by simp [mgP]) (by simp [pfP]) (by simp [msP]) (by simp [wsP]) (by unfold cfP; omega), kh 1262 82 (by omega) (by simp [mgP]) (by simp [pfP]) (by simp [msP]) (by simp [wsP]) (by unfold cfP; omega)]; exact r5
  · exact M.cg2 (fun a h1 h2 => z2.row fun k => by unfold mgP; omega) (funext fun k => z2.lg (fun y => y)) ⟨z2.at (by simp [mgP]), z2.at (by simp [mgP]), z2.at (by simp [mgP]), z2.at (by simp [mgP])⟩
  · have w0 := W'.1
    refine ⟨fun s hs f hf => ?_, fun t ht f hf => ?_⟩
    · have v := (W'.2.1 s hs).1
      rw [z2.at (by simp [mgP]), ju _ (by unfold dS; omega) (by unfold dS; omega)]
      exact (N.1 s hs f hf).cg (z2.row fun k => by unfold mgP; omega) (z2.row fun k => by unfold mgP; omega) (z2.row fun k => by unfold mgP; omega)
    · have v := (W'.2.2.1 t ht).1
      rw [z2.at (by simp [mgP]), ju _ (by unfold dT; omega) (by unfold dT; omega)]
      exact (N.2 t ht f hf).cg (z2.row fun k => by unfold mgP; omega) (z2.row fun k => by unfold mgP; omega) (z2.row fun k => by unfold mgP; omega)
  · refine ⟨h, w, _, n, ⟨L, ?_⟩, by omega, h5, ef, e11, n4, z3.2.2.1, fun k hk' => ?_, fun a h1 h2 => ⟨?_, ?_⟩⟩
    · have KS : KC h S := by
        rcases hs with y | y
        · exact y.2.2.2.2.2.1
        · exact y.2.2.2.2.2.2
      exact ⟨hS', KS.2⟩
    · rw [z4 k hk', G.at (by simp [pfP])]; exact q2.2.2.2 k hk'
    · exact funext fun k => (kw a k (by unfold mgP; omega) (by unfold pfP; omega) (by unfold msP; omega)).symm
    · rw [ju a (by omega) (by omega)]; exact funext fun k => w2.lg (fun y => y)
  · have k4 : ∀ k, hi z 1244 k = hi w 1244 k := fun k => kw 1244 k (by simp [mgP]) (by simp [pfP]) (by simp [msP])
    refine ⟨0, 0, ⟨by omega, by rw [k4]; exact w6.1, z3.2.2.2.2.1, fun i hi' => absurd hi' (Nat.not_lt_zero i)⟩, ⟨4, 4, Or.inl rfl, by rw [k4]; exact w6.2.1, z3.2.2.2.2.2.1, Nat.le_refl _, fun _ => rfl⟩, ⟨by omega, by rw [k4]; exact w6.2.2.1, z3.2.2.2.2.2.2.1, fun i hi' => absurd hi' (Nat.not_lt_zero i)⟩, ⟨0, by omega, by rw [k4]; exact w6.2.2.2.1, z3.2.2.2.2.2.2.2.1, fun i hi' => absurd hi' (Nat.not_lt_zero i)⟩, Or.inl ⟨by rw [k4]; exact w6.2.2.2.2.1, z3.2.2.2.2.2.2.2.2.1⟩⟩
  · refine Or.inl ⟨z3.2.2.2.2.2.2.2.2.2, by rw [kw 1255 5 (by simp [mgP]) (by simp [pfP]) (by simp [msP])]; exact w6.2.2.2.2.2.1, by rw [kw 1256 1 (by simp [mgP]) (by simp [pfP]) (by simp [msP])]; exact w6.2.2.2.2.2.2, ?_⟩
    rw [kh 1262 80 (by omega) (by simp [mgP]) (by simp [pfP]) (by simp [msP]) (by simp [wsP]) (by unfold cfP; omega)]
    rcases hr' with ⟨-, -, -, y⟩ | ⟨m, a, so, o, e, pp, y, -⟩
    · exact y
    · exact ⟨m, y.2.2.2.1, y.2.2.2.2.2.1⟩
end Os
