/-! schema(): where it is not taken; the call -/

section Ob
variable {h g1 : XH} {S S' n : Nat} {sg : SGT} {sd : Nat → Int64}
/-- the model's good text read anew -/
theorem ghost {x : XH} (G0 : GH h S) (C : CS h S sg sd) (Wf : WF sg sd) (hS : S = 12 ∨ S = 628) (Lx : LY x) (m5 : ∀ m, hi h 1262 6 = nI m → m ≤ 4000 → hi x 1262 5 = nI m ∧ ∀ k, k < m → hi x 1264 k = hi h 1265 k) : ∃ p, f_m_parse x = some ((), p) ∧ FRX pfP nJ nW x p ∧ MS p sg sd ∧ (∀ s, s < sg 0 0 → ∀ f, f < sg 1 s → NME p (hi p 1276 (12 * s + f)) (hj h (dS S s + 2 + f) 0) (hj h (dS S s + 2 + f) 1)) ∧ (∀ t, t < sg 0 1 → ∀ f, f < sg 10 t → NME p (hi p 1285 (16 * t + f)) (hj h (dT S t + 2 + f) 0) (hj h (dT S t + 2 + f) 1)) := by
  obtain ⟨g0, g1, v, m, ⟨a1, a1'⟩, a2, a3, a4, a5, a6, a7, a8, a9⟩ := G0
  obtain ⟨b1, b2⟩ := m5 m a7 a6
  have M0 : MTx x (cb g0 2) m := ⟨b1, a6, fun k => cb_lt _ _ _, fun k hk' => by rw [b2 k hk']; exact a8 k hk'⟩
  have l := a1.1
  rcases core1 a1 a1' hS a3 (by omega) a5 a6 Lx M0 with ⟨u, p, sg', sd', x1, x2, x3, x4, x5, x6, x7, x8, x9, x10⟩ | ⟨u, p, x1, x2, x3, x4, x5⟩
  · have h5 : hr u 0 5 = some S := by rw [x9.2.2.1 0 5 (by omega) (by omega)]; exact a3
    cases e4 : hr u 0 4 with
    | none =>
      rw [a4] at x1
      unfold tS at x1
      rw [e4] at x1
      exact absurd x1 (by simp)
    | some S4 =>
      obtain ⟨w, w1, w2, w3, -⟩ := tS_eval (t := hz g0) x9.1.2.2.1 hS e4 h5
      have ew : w = g1 := by
        have := (a4.symm.trans (x1.trans w1))
        injection this with this
        exact (congrArg Prod.snd this).symm
      have cw : ∀ a, S ≤ a → a < S + 616 → hi h a = hi u a ∧ hj h a = hj u a := fun a h1 h2 => by
        rw [← (a9 a h1 h2).1, ← (a9 a h1 h2).2, ← ew]
        exact ⟨w3.row fun k => by unfold wsP; omega, funext fun k => w3.lg (fun y => y)⟩
      have C' : CS h S sg' sd' := x3.cg x5 C.1 (fun a h1 h2 => (cw a h1 h2).1) (fun a h1 h2 => (cw a h1 h2).2)
      obtain ⟨⟨s0, s1, s2⟩, s3, s4, s5⟩ := sg_same C C' Wf x5
      have wv := Wf.1
      refine ⟨p, x2, x10, x4.sw C C' Wf x5, fun s hs f hf => ?_, fun t ht f hf => ?_⟩
      · have v1 := (Wf.2.1 s hs).1
        rw [(cw (dS S s + 2 + f) (by unfold dS; omega) (by unfold dS; omega)).2]
        exact x6.1 s (by omega) f (by have := (s3 s hs).1; omega)
      · have v1 := (Wf.2.2.1 t ht).1
        rw [(cw (dT S t + 2 + f) (by unfold dT; omega) (by unfold dT; omega)).2]
        exact x6.2 t (by omega) f (by have := s4 t ht; omega)
  · obtain ⟨w, w1, -⟩ := tN_eval (t := hz g0) x4.1.2.2.1 l (by have := x4.1.1; omega)
    have := (a4.symm.trans (x1.trans w1))
    injection this with this
    have := congrArg Prod.fst this
    injection this
theorem sch_bad (H : RA h S sg sd) (hm : hz h < 900000) (h4 : hr h 0 4 = some S) (h5 : hr h 0 5 = some S') (hS' : S' = 12 ∨ S' = 628) (eS : S = 640 - S') {u w q p : XH} (FL : FLT u p (hz h)) (F1 : CF S' h u) (w1 : LY w) (wz : hz w = hz u + 1 ∧ hw w = hw u + 6) (w2 : hi w 0 8 = hi u (hz h) 7 ∧ hi w 0 9 = hi u (hz h) 8) (w3 : ∀ a k, a < hz u → ¬ (a = 0 ∧ (k = 8 ∨ k = 9)) → hi w a k = hi u a k) (w4 : ∀ a, a < hz u → hj w a = hj u a) (w5 : ∀ a, a < hz u → hr w a = hr u a) (W : OW w g1) (q1 : ∀ p, f_m_parse q = some ((), p) → f_m_schema g1 = mCo p) (q4 : FRX msP nW nW g1 q) (q5 : hi q 1262 0 = 0 ∧ hi q 1262 2 = 0) (pq : f_m_parse q = some ((), p)) (G : FRX pfP nJ nW q p) : ∃ x h2, f_m_schema g1 = some (x, h2) ∧ hi h2 1262 0 = nI 1 ∧ RX h2 ∧ RM h h2 := by
  have L := H.1
  have l := L.1
  have hzu := F1.1.1
  have K := F1.1.2.2.2
  have hS : S = 12 ∨ S = 628 := by omega
  have H0 := H
  obtain ⟨-, -, ht, hv, ho, hf, hs, hb, hr'⟩ := H0
  -- up to the model's first parse
  have kp : ∀ a k, a < 1317 → ¬ pfP a k → ¬ msP a k → ¬ (a = 0 ∧ (k = 8 ∨ k = 9)) → ¬ cfP S' a k → hi p a k = hi h a k := fun a k h0 h2 h3 h4 h5 => by rw [G.at h2, q4.at h3, W.hiq, w3 a k (by omega) h4, F1.2.2.2.2 a k (by omega) h5]
  have jp : ∀ a, a < 1316 → a ≠ 1291 → a ≠ 10 → a ≠ 11 → ¬ (S' ≤ a ∧ a < S' + 615) → hj p a = hj h a := fun a h1 h2 h3 h4 h5 => funext fun k => by rw [G.lg (by unfold nJ; omega), q4.lg (fun y => y), W.hjq (by omega), w4 a (by omega), F1.2.2.2.1 a k (by omega) (by omega)]
  have rp : ∀ k, hr p 0 k = hr h 0 k := fun k => by rw [G.rf (fun y => y), q4.rf (fun y => y), W.z.2.2.1, w5 0 (by omega), F1.2.2.1 0 k (by omega) (by omega)]
  have p0 : hi p 0 8 = hi p 1262 14 ∧ hi p 0 9 = hi p 1262 15 := by
    have e : ∀ k, hi p 0 k = hi w 0 k := fun k => by rw [G.at (by simp [pfP]), q4.at (by simp [msP]), W.hiq]
    rw [e, e, w2.1, w2.2]
    exact ⟨FL.1, FL.2.1⟩
  have Lp : LY p := ((show LY g1 by rw [W.z.2.2.2]; exact w1).frx q4 (fun _ _ _ _ y => y)).frx G (fun _ _ _ _ y => y)
  have zp : hz p = hz h + 4 ∧ hw p = hw h + 345 := by
    rw [G.1.1, G.1.2.1, q4.1.1, q4.1.2.1, W.z.1, W.z.2.1, wz.1, wz.2, F1.1.1, F1.1.2.1]
    exact ⟨rfl, rfl⟩
  obtain ⟨m, m4, m6⟩ : ∃ m, m ≤ 4000 ∧ hi h 1262 6 = nI m := by
    rcases hs with y | y
    · exact ⟨0, by omega, y.2.2.2.2.2.2⟩
    · obtain ⟨g0, g1', v, m, -, -, -, -, -, b1, b2, -⟩ := y.2.2.2.2.2.1
      exact ⟨m, b1, b2⟩
  have p6 : hi p 1262 6 = nI m := by rw [kp 1262 6 (by omega) (by simp [pfP]) (by simp [msP]) (by simp) (by unfold cfP; omega)]; exact m6
  obtain ⟨x, x1, x2, x3, x4⟩ := m_bad m4 FL.2.2 p6
  have Lx : LY x := Lp.frx x2 (fun _ _ _ _ y => y)
  have kx : ∀ a k, a < 1317 → ¬ mbP a k → ¬ pfP a k → ¬ msP a k → ¬ (a = 0 ∧ (k = 8 ∨ k = 9)) → ¬ cfP S' a k → hi x a k = hi h a k := fun a k h0 h1 h2 h3 h4 h5 => by rw [x2.at h1, kp a k h0 h2 h3 h4 h5]
  -- the rest of the relation, over the last heap
  have fin : ∀ z : XH, FRX pfP nJ nW x z → RS z S sg sd → RX z ∧ RM h z ∧ hi z 1262 0 = nI 1 := by
    intro z Fz rs
    have kz : ∀ a k, a < 1317 → ¬ mbP a k → ¬ pfP a k → ¬ msP a k → ¬ (a = 0 ∧ (k = 8 ∨ k = 9)) → ¬ cfP S' a k → hi z a k = hi h a k := fun a k h0 h1 h2 h3 h4 h5 => by rw [Fz.at h2, kx a k h0 h1 h2 h3 h4 h5]
    have jz : ∀ a, a < 1316 → a ≠ 1291 → a ≠ 10 → a ≠ 11 → ¬ (S' ≤ a ∧ a < S' + 615) → hj z a = hj h a := fun a h1 h2 h3 h4 h5 => by
      rw [← jp a h1 h2 h3 h4 h5]
      exact funext fun k => by rw [Fz.lg (by unfold nJ; omega), x2.lg (fun y => y)]
    have rz : ∀ k, hr z 0 k = hr h 0 k := fun k => by rw [Fz.rf (fun y => y), x2.rf (fun y => y), rp]
    have z62 : ∀ k, k < 12 ∨ 46 < k → hi z 1262 k = hi x 1262 k := fun k hk' => Fz.at (by unfold pfP; omega)
    refine ⟨⟨S, sg, sd, Lx.frx Fz (fun _ _ _ _ y => y), ⟨by rw [rz]; exact h4, by rw [rz, h5]; congr 1; omega, hS⟩, ?_, ?_, ?_, ?_, rs, ?_, ?_⟩, ⟨?_, ?_⟩, ?_⟩
    · refine ⟨0, by omega, ?_, ?_, fun k hk' => absurd hk' (Nat.not_lt_zero k)⟩
      · rw [Fz.at (by simp [pfP]), x2.at (by simp [mbP]), G.at (by simp [pfP]), q4.at (by simp [msP]), W.hiq, w3 1 1 (by omega) (by simp)]; exact F1.2.1
      · rw [z62 2 (by decide), x2.at (by simp [mbP]), G.at (by simp [pfP])]; exact q5.2
    · exact RV.cg hv (kz 5 1 (by omega) (by simp [mbP]) (by simp [pfP]) (by simp [msP]) (by simp) (by unfold cfP; omega)) (kz 1262 55 (by omega) (by simp [mbP]) (by simp [pfP]) (by simp [msP]) (by simp) (by unfold cfP; omega)) (jz 6 (by omega) (by omega) (by omega) (by omega) (by omega)) (jz 1298 (by omega) (by omega) (by omega) (by omega) (by omega))
    · exact RO.cg ho (kz 3 1 (by omega) (by simp [mbP]) (by simp [pfP]) (by simp [msP]) (by simp) (by unfold cfP; omega)) (kz 1262 72 (by omega) (by simp [mbP]) (by simp [pfP]) (by simp [msP]) (by simp) (by unfold cfP; omega)) (funext fun k => kz 4 k (by omega) (by simp [mbP]) (by simp [pfP]) (by simp [msP]) (by simp) (by unfold cfP; omega)) (funext fun k => kz 1308 k (by omega) (by simp [mbP]) (by simp [pfP]) (by simp [msP]) (by simp) (by unfold cfP; omega))
    · obtain ⟨r1, r2, r3, r4, r5⟩ := hf
      have k0 : ∀ k, hi z 0 k = hi p 0 k := fun k => by rw [Fz.at (by simp [pfP]), x2.at (by simp [mbP])]
      refine ⟨?_, ?_, ?_, ?_, ?_⟩
      · rw [k0, z62 50 (by decide), x3.2.2.1]; exact p0.1
      · rw [k0, z62 51 (by decide), x3.2.2.2]; exact p0.2
      · rw [kz 0 10 (by omega) (by simp [mbP]) (by simp [pfP]) (by simp [msP]) (by simp) (by unfold cfP; omega), kz 1262 52 (by omega) (by simp [mbP]) (by simp [pfP]) (by simp [msP]) (by simp) (by unfold cfP; omega)]; exact r3
      · rw [kz 0 11 (by omega) (by simp [mbP]) (by simp [pfP]) (by simp [msP]) (by simp) (by unfold cfP; omega), kz 1262 53 (by omega) (by simp [mbP]) (by simp [pfP]) (by simp [msP]) (by simp) (by unfold cfP; omega)]; exact r4
      · rw [kz 0 12 (by omega) (by simp [mbP]) (by simp [pfP]) (by simp [msP]) (by simp) (by unfold cfP; omega), kz 1262 82 (by omega) (by simp [mbP]) (by simp [pfP]) (by simp [msP]) (by simp) (by unfold cfP; omega)]; exact r5
    · refine RB.cg hb (fun k hk' => kz 1244 k (by omega) (by unfold mbP; omega) (by unfold pfP; omega) (by unfold msP; omega) (by omega) (by unfold cfP; omega)) (fun a h1 h2 => funext fun k => kz a k (by omega) (by unfold mbP; omega) (by unfold pfP; omega) (by unfold msP; omega) (by omega) (by unfold cfP; omega)) (fun k hk' => kz 1262 k (by omega) (by unfold mbP; omega) (by unfold pfP; omega) (by unfold msP; omega) (by omega) (by unfold cfP; omega)) (fun a h1 h2 => funext fun k => kz a k (by omega) (by unfold mbP; omega) (by unfold pfP; omega) (by unfold msP; omega) (by omega) (by unfold cfP; omega))
    · refine RR.cg hr' (kz 1255 5 (by omega) (by simp [mbP]) (by simp [pfP]) (by simp [msP]) (by simp) (by unfold cfP; omega)) (kz 1256 1 (by omega) (by simp [mbP]) (by simp [pfP]) (by simp [msP]) (by simp) (by unfold cfP; omega)) (fun a h1 h2 => funext fun k => kz a k (by omega) (by unfold mbP; omega) (by unfold pfP; omega) (by unfold msP; omega) (by omega) (by unfold cfP; omega)) (fun k hk' => kz 1262 k (by omega) (by unfold mbP; omega) (by unfold pfP; omega) (by unfold msP; omega) (by omega) (by unfold cfP; omega)) (fun a h1 h2 => funext fun k => kz a k (by omega) (by unfold mbP; omega) (by unfold pfP; omega) (by unfold msP; omega) (by omega) (by unfold cfP; omega))
    · rw [Fz.1.1, x2.1.1]; omega
    · rw [Fz.1.2.1, x2.1.2.1]; omega
    · rw [z62 0 (by decide), x3.1]; rfl
  -- cells of the schemas
  have KZ : ∀ z : XH, FRX pfP nJ nW x z → KC z S := fun z Fz => by
    have e : KC z S' := K.cg fun a h1 h2 => funext fun k => by rw [Fz.at (by unfold pfP; omega), x2.at (by unfold mbP; omega), G.at (by unfold pfP; omega), q4.at (by unfold msP; omega), W.hiq, w3 a k (by omega) (by omega)]
    exact ⟨hS, e.2⟩
  have x7 : hi x 1262 7 = hi h 1262 7 := kx 1262 7 (by omega) (by simp [mbP]) (by simp [pfP]) (by simp [msP]) (by simp) (by unfold cfP; omega)
  have sS : ∀ z : XH, FRX pfP nJ nW x z → ∀ a, S ≤ a → a < S + 616 → hi z a = hi h a ∧ hj z a = hj h a := fun z Fz a h1 h2 =>
    ⟨funext fun k => by rw [Fz.at (by unfold pfP; omega), kx a k (by omega) (by unfold mbP; omega) (by unfold pfP; omega) (by unfold msP; omega) (by omega) (by unfold cfP; omega)], funext fun k => by rw [Fz.lg (by unfold nJ; omega), x2.lg (fun y => y), jp a (by omega) (by omega) (by omega) (by omega) (by omega)]⟩
  rcases hs with ⟨s1, s2, s3, s4, s5, s6, s7⟩ | ⟨s1, s2, s3, s4, s5, s6, s7⟩
  · obtain ⟨r1, r2, r3⟩ := fin x FRX.refl (Or.inl ⟨by rw [x7]; exact s1, by rw [(sS x FRX.refl _ (by omega) (by omega)).1]; exact s2, by rw [(sS x FRX.refl _ (by omega) (by omega)).1]; exact s3, by rw [(sS x FRX.refl _ (by omega) (by omega)).1]; exact s4, by rw [(sS x FRX.refl _ (by omega) (by omega)).1]; exact s5, KZ x FRX.refl, by rw [kx 1262 6 (by omega) (by simp [mbP]) (by simp [pfP]) (by simp [msP]) (by simp) (by unfold cfP; omega)]; exact s7⟩)
    refine ⟨0, x, (q1 p pq).trans (x1.trans ?_), r3, r1, r2⟩
    unfold END99
    exact o_pos (by rw [x7]; exact s1) rfl
  · obtain ⟨z, y1, y2, y3, y4, y5⟩ := ghost (x := x) s6 s2 s4 hS Lx (fun m' e1 e2 => by
      have em : m' = m := (nI_eq (by omega) (by omega)).mp (e1.symm.trans m6)
      subst em
      exact ⟨x3.2.1, fun k hk' => by rw [x4 k hk', kp 1265 k (by omega) (by simp [pfP]) (by simp [msP]) (by simp) (by unfold cfP; omega)]⟩)
    have Lz : LY z := Lx.frx y2 (fun _ _ _ _ y => y)
    have wv := s4.1
    obtain ⟨r1, r2, r3⟩ := fin z y2 (Or.inr ⟨by rw [y2.at (by simp [pfP]), x7]; exact s1, s2.cg s4 (SC.of Lz hS) (fun a h1 h2 => (sS z y2 a h1 h2).1) (fun a h1 h2 => (sS z y2 a h1 h2).2), y3, s4, ⟨fun s hs f hf => by
        have v1 := (s4.2.1 s hs).1
        rw [(sS z y2 (dS S s + 2 + f) (by unfold dS; omega) (by unfold dS; omega)).2]
        exact y4 s hs f hf, fun t ht f hf => by
        have v1 := (s4.2.2.1 t ht).1
        rw [(sS z y2 (dT S t + 2 + f) (by unfold dT; omega) (by unfold dT; omega)).2]
        exact y5 t ht f hf⟩, s6.cg (fun a h1 h2 => (sS z y2 a h1 h2).1) (fun a h1 h2 => (sS z y2 a h1 h2).2) (funext fun k => by rw [y2.at (by simp [pfP]), kx 1265 k (by omega) (by simp [mbP]) (by simp [pfP]) (by simp [msP]) (by simp) (by unfold cfP; omega)]) (by rw [y2.at (by simp [pfP]), kx 1262 6 (by omega) (by simp [mbP]) (by simp [pfP]) (by simp [msP]) (by simp) (by unfold cfP; omega)]), KZ z y2⟩)
    refine ⟨0, z, (q1 p pq).trans (x1.trans ?_), r3, r1, r2⟩
    unfold END99
    exact o_neg (by rw [x7, s1]; decide) (o_bind y1 rfl)
theorem op_schema (H : RX h) (hm : hz h < 900000) : TH h f_t_schema f_m_schema (fun v w => v = w) [(0, 1)] := by
  obtain ⟨S, sg, sd, H⟩ := H
  have L := H.1
  have l := L.1
  obtain ⟨h4, h5, hS⟩ := H.2.1
  obtain ⟨S', eS'⟩ : ∃ S', S' = 640 - S := ⟨_, rfl⟩
  rw [← eS'] at h5
  have hS' : S' = 12 ∨ S' = 628 := by omega
  have eS : S = 640 - S' := by omega
  obtain ⟨n, n4, e11, e2, tx⟩ := H.2.2.1
  have KS : KC h S' := by
    have KS : KC h S := by
      rcases H.2.2.2.2.2.2.1 with y | y
      · exact y.2.2.2.2.2.1
      · exact y.2.2.2.2.2.2
    exact ⟨hS', KS.2⟩
  -- any model's heap tells what the class does
  obtain ⟨hp, ep⟩ : ∃ hp, hp = hsi (hri h 1264 (fun k => nI (cb h 2 k))) 1262 5 (nI n) := ⟨_, rfl⟩
  have Lp : LY hp := by rw [ep, LY_si, LY_ri]; exact L
  have Mp : MTx hp (cb h 2) n := ⟨by rw [ep, hi_at], n4, fun k => cb_lt _ _ _, fun k hk' => by rw [ep, hi_hsi_ne (by decide), hi_hri, if_pos rfl]⟩
  have st : ∀ {w g1 : XH} {u : XH}, CF S' h u → LY w → (∀ k, k < 12 → hi w 1262 k = hi u 1262 k) → (∀ k, hi w 1263 k = hi u 1263 k) → OW w g1 → ∃ q, (∀ p, f_m_parse q = some ((), p) → f_m_schema g1 = mCo p) ∧ MTx q (cb h 2) n ∧ LY q ∧ FRX msP nW nW g1 q ∧ hi q 1262 0 = 0 ∧ hi q 1262 2 = 0 := by
    intro w g1 u F1 Lw e62 e63 W
    refine m_start (by rw [W.z.2.2.2]; exact Lw) n4 ?_ (fun k => cb_lt _ _ _) (fun k hk' => ?_)
    · rw [W.hiq, e62 2 (by decide), F1.2.2.2.2 1262 2 (by omega) (by unfold cfP; omega)]; exact e2
    · rw [W.hiq, e63, F1.2.2.2.2 1263 k (by omega) (by unfold cfP; omega)]; exact tx k hk'
  have good : ∀ {u : XH}, CF S' h u → ∃ w, tS (hz h) u = some (Sum.inl (hi u (S' + 195) 1), w) ∧ LY w ∧ FRX wsP nW wsW u w ∧ hr w 0 4 = some S' ∧ hr w 0 5 = some S ∧ (hi w 0 8 = hi u (hz h) 7 ∧ (hz h ≠ 0 → hi w 0 9 = hi u (hz h) 8)) ∧ (hi w 1244 1 = 0 ∧ hi w 1244 2 = 4 ∧ hi w 1244 7 = 0 ∧ hi w 1244 9 = 0 ∧ hi w 1244 10 = -1 ∧ hi w 1255 5 = -1 ∧ hi w 1256 1 = 0) := fun F1 => tS_eval F1.1.2.2.1 hS' (by rw [F1.2.2.1 0 4 (by omega) (by omega)]; exact h4) (by rw [F1.2.2.1 0 5 (by omega) (by omega)]; exact h5)
  rcases core1 L KS hS' h5 (by omega) e11 n4 Lp Mp with ⟨u, p, sg', sd', x1, -, -, -, -, -, -, -, x9, -⟩ | ⟨u, p, x1, -, -, x4, -⟩
  · obtain ⟨w, w1, w2, w3, w4, w5, w6, w7⟩ := good x9
    refine Or.inl ⟨_, w, x1.trans w1, fun g1 W => ?_⟩
    obtain ⟨q, q1, q2, q3, q4, q5⟩ := st x9 w2 (fun k hk' => w3.at (by unfold wsP; omega)) (fun k => w3.at (by unfold wsP; omega)) W
    rcases core1 L KS hS' h5 (by omega) e11 n4 q3 q2 with ⟨u', p', sg', sd', y1, y2, y3, y4, y5, y6, y7, y8, y9, y10⟩ | ⟨u', p', y1, y2, y3, y4, y5⟩
    · obtain ⟨w', v1, v2, v3, v4, v5, v6, v7⟩ := good y9
      have e := (x1.trans w1).symm.trans (y1.trans v1)
      injection e with e
      have ev := congrArg Prod.fst e
      have ew := congrArg Prod.snd e
      injection ev with ev
      have ew' : w' = w := ew.symm
      subst ew'
      obtain ⟨x, h2, r1, r2, r3, r4, r5⟩ := sch_good H hm h4 h5 hS' eS e11 n4 (y1.trans v1) y3 y4 y5 y6 y7 y8 y9 v2 v3 v4 v5 v6 v7 W q1 q2 q4 q5 y2 y10
      exact ⟨x, h2, r1, ev.trans r2, r3, r4, r5⟩
    · obtain ⟨w', v1, -⟩ := tN_eval (t := hz h) y4.1.2.2.1 l (by have := y4.1.1; omega)
      have e := (x1.trans w1).symm.trans (y1.trans v1)
      injection e with e
      have ev := congrArg Prod.fst e
      injection ev
  · obtain ⟨w, w1, w2, w3, w4, w5, w6, w7, w8⟩ := tN_eval (t := hz h) x4.1.2.2.1 l (by have := x4.1.1; omega)
    refine Or.inr ⟨0, 1, w, by decide, x1.trans w1, fun g1 W => ?_⟩
    have zu := x4.1.1
    obtain ⟨q, q1, q2, q3, q4, q5⟩ := st x4 w2 (fun k hk' => w6 _ _ (by omega) (by omega)) (fun k => w6 _ _ (by omega) (by omega)) W
    rcases core1 L KS hS' h5 (by omega) e11 n4 q3 q2 with ⟨u', p', sg', sd', y1, y2, y3, y4, y5, y6, y7, y8, y9, y10⟩ | ⟨u', p', y1, y2, y3, y4, y5⟩
    · obtain ⟨w', v1, -⟩ := good y9
      have e := (x1.trans w1).symm.trans (y1.trans v1)
      injection e with e
      have ev := congrArg Prod.fst e
      injection ev
    · obtain ⟨w', v1, v2, v3, v4, v5, v6, v7, v8⟩ := tN_eval (t := hz h) y4.1.2.2.1 l (by have := y4.1.1; omega)
      have e := (x1.trans w1).symm.trans (y1.trans v1)
      injection e with e
      have ew := congrArg Prod.snd e
      have ew' : w' = w := ew.symm
      subst ew'
      exact sch_bad H hm h4 h5 hS' eS y3 y4 v2 ⟨v3, v4⟩ v5 v6 v7 v8 W q1 q4 q5 y2 y5
end Ob
