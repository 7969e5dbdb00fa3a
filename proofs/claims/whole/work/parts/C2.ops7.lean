/-! Calls: load -/
section Ops
variable {h g : XH} {S n : Nat} {sg : SGT} {sd : Nat → Int64}
theorem load_no {x : Int32} {h' : XH} {k j : Nat} (H : RA h' S sg sd) (hk : (j, k) ∈ [(0, 1), (1, 2)]) (hm : hz h' < 900000) (z0 : hz h' = hz h ∧ hw h' = hw h) (z1 : f_t_load x h = some (Sum.inr j, hthr h')) (z2 : ∀ g1, OW (hthr h') g1 → ∃ h2, f_m_load x g1 = some (0, hsi h2 1262 0 (nI k)) ∧ (RA g1 S sg sd → RA h2 S sg sd) ∧ hz h2 = hz g1 ∧ hw h2 = hw g1) : TH h (f_t_load x) (f_m_load x) (fun v w => v = w) [(0, 1), (1, 2)] := by
  have Ht := H.thr (by omega)
  refine Or.inr ⟨j, k, hthr h', hk, z1, fun g1 W => ?_⟩
  obtain ⟨h2, e1, e2, e3, e4⟩ := z2 g1 W
  refine ⟨0, _, e1, hi_at, ⟨S, sg, sd, (e2 (Ht.ow W)).th⟩, ?_⟩
  have r : hz g1 = hz h' + 1 ∧ hw g1 = hw h' + 6 := by rcases W with q | ⟨w, q⟩ <;> subst q <;> exact ⟨rfl, rfl⟩
  exact ⟨by rw [hz_hsi]; omega, by rw [hw_hsi]; omega⟩
theorem cb_of {g h : XH} {c d : Nat} (e : hi g c = hi h d) : cb g c = cb h d := by funext k; unfold cb; rw [e]
/-- all but the reader stays; the tape may have been emptied on both sides -/
theorem RA.most {h2 h' : XH} (H : RA h S sg sd) (L2 : LY h2) (e0 : (h' = h ∧ hi h2 1262 2 = hi h 1262 2) ∨ (h' = hsi h 1 1 0 ∧ hi h2 1262 2 = 0)) (hr2 : hr h2 0 4 = hr h 0 4 ∧ hr h2 0 5 = hr h 0 5) (F1 : ∀ a, a < 1316 → ¬ (a = 0 ∨ a = 1262 ∨ (1255 ≤ a ∧ a ≤ 1261) ∨ 1310 ≤ a) → hi h2 a = hi h' a) (F0 : RF h2) (F2 : ∀ k, k = 7 ∨ (3 ≤ k ∧ k ≤ 49) ∨ k = 55 ∨ (57 ≤ k ∧ k ≤ 72) → hi h2 1262 k = hi h 1262 k) (F3 : ∀ a, a < 1316 → ¬ a = 1255 → hj h2 a = hj h a) (R : RR h2 sg) : RA h2 S sg sd := by
  have hS := H.sS
  obtain ⟨L, K, a1, a2, a3, a4, a5, a6, a7⟩ := H
  have G1 : ∀ a, a < 1316 → ¬ (a = 0 ∨ a = 1 ∨ a = 1262 ∨ (1255 ≤ a ∧ a ≤ 1261) ∨ 1310 ≤ a) → hi h2 a = hi h a := by
    intro a h1 h2'
    rw [F1 a h1 (by omega)]
    rcases e0 with q | q
    · rw [q.1]
    · rw [q.1]; exact hi_hsi_ne (by omega)
  have sc : SC h2 S := by
    rcases K.2.2 with q | q <;> subst q
    · exact L2.2.2.2.2.2.1
    · exact L2.2.2.2.2.2.2
  refine ⟨L2, by rw [hr2.1, hr2.2]; exact K, ?_, a2.cg (by rw [G1 5 (by decide) (by decide)]) (F2 _ (by decide)) (F3 6 (by decide) (by decide)) (F3 1298 (by decide) (by decide)), a3.cg (by rw [G1 3 (by decide) (by decide)]) (F2 _ (by decide)) (G1 4 (by decide) (by decide)) (G1 1308 (by decide) (by decide)), F0, a5.cg sc (fun a h1 h2 => G1 a (by omega) (by omega)) (fun a h1 h2 => F3 a (by omega) (by omega)) (fun k h1 h2 => F2 k (by omega)) (fun a h1 h2 => G1 a (by omega) (by omega)) (F3 _ (by decide) (by decide)), a6.cg (fun k _ => by rw [G1 1244 (by decide) (by decide)]) (fun a h1 h2 => G1 a (by omega) (by omega)) (fun k h1 => F2 k (by omega)) (fun a h1 h2 => G1 a (by omega) (by omega)), R⟩
  rcases e0 with q | q
  · refine a1.cg ?_ q.2 (G1 2 (by decide) (by decide)) (G1 1263 (by decide) (by decide))
    rw [F1 1 (by decide) (by decide), q.1]
  · refine ⟨0, by decide, ?_, q.2, fun k hk' => absurd hk' (Nat.not_lt_zero k)⟩
    rw [F1 1 (by decide) (by decide), q.1, hi_at]
    rfl
set_option maxHeartbeats 16000000 in
theorem load_go {x : Int32} {b c cm : Nat} {h' : XH} {md : XH → XH} (H : RA h S sg sd) (hm : hz h < 900000) (hx : x = 0 ∧ cm = 1263 ∨ x = 1 ∧ cm = 1308) (hbc : b = 1 ∧ c = 2 ∨ b = 3 ∧ c = 4) (has : hi h 1262 7 = 1) (C : CS h S sg sd) (M : MS h sg sd) (W : WF sg sd) (hn' : n ≤ 4000) (src : ∀ k, k < n → hi h cm k = nI (cb h c k)) (tp : (h' = h ∧ ∀ g, hi (md g) 1262 2 = hi g 1262 2) ∨ (h' = hsi h 1 1 0 ∧ ∀ g, hi (md g) 1262 2 = 0)) (p1 : ∀ g a, a ≠ 1262 → hi (md g) a = hi g a) (p2 : ∀ g k, k ≠ 0 → k ≠ 2 → hi (md g) 1262 k = hi g 1262 k) (p0 : ∀ g, hi (md g) 1262 0 = 0) (pj : ∀ g a, hj (md g) a = hj g a) (pr : ∀ g, hr (md g) = hr g ∧ LY (md g) = LY g ∧ hz (md g) = hz g ∧ hw (md g) = hw g) (z1 : f_t_load x h = b_t_load_53 b (nI n) h') (z2 : ∀ g1 : XH, hi g1 1262 2 = hi h 1262 2 → hi g1 1262 72 = hi h 1262 72 → f_m_load x g1 = b_m_load_46 x (nI n) (md g1)) : TH h (f_t_load x) (f_m_load x) (fun v w => v = w) [(0, 1), (1, 2)] := by
  have hS := H.sS
  have L := H.1
  have l := L.1
  have H2 := H
  obtain ⟨-, K, a1, a2, a3, a4, a5, a6, a7⟩ := H
  have zh : hz h' = hz h ∧ hw h' = hw h := by rcases tp with q | q <;> rw [q.1] <;> exact ⟨rfl, rfl⟩
  have L' : LY h' := by rcases tp with q | q <;> rw [q.1] <;> exact L
  have hi0 : ∀ a, a ≠ 1 → hi h' a = hi h a := by
    intro a ha
    rcases tp with q | q <;> rw [q.1]
    exact hi_hsi_ne ha
  have hj0 : ∀ a, hj h' a = hj h a := by
    intro a
    rcases tp with q | q <;> rw [q.1]
    rfl
  have hrr : hr h' = hr h := by
    rcases tp with q | q <;> rw [q.1]
    rfl
  have C' : CS h' S sg sd := C.cg W (by rcases tp with q | q <;> rw [q.1] <;> exact C.1) (fun a h1 h2 => hi0 a (by omega)) (fun a h1 h2 => hj0 a)
  have cb' : cb h' c = cb h c := cb_cg (hi0 c (by omega))
  obtain ⟨g, KP1, gz, gw, cF, cS⟩ := c_load53 (n := n) L' (by omega) (by rw [hrr]; exact K.1) C' W (by omega) hbc hn'
  rw [cb'] at cF cS
  have Lg : LY g := L'.keep (fun b hb => KP1 b (by omega)) (by omega) (by omega)
  have kh : ∀ a, a < 1317 → hi g a = hi h' a := fun a ha => KP1.hi (by omega)
  have kj : ∀ a, a < 1317 → hj g a = hj h' a := fun a ha => KP1.hj (by omega)
  have kr : hr g 0 = hr h 0 := by rw [KP1.hr (by omega), hrr]
  obtain ⟨n0, hn0, e80⟩ : ∃ n0 : Nat, n0 ≤ 4000 ∧ hi h 1262 80 = nI n0 := by
    rcases a7 with ⟨-, -, -, q⟩ | ⟨n, a, so, o, e, p, ⟨r1, r2, r3, r4, r5, r6, r7, r8⟩, -⟩
    · exact q
    · exact ⟨n, r4, r6⟩
  by_cases q : (jA sg (cb h c) n).1 = 0
  · obtain ⟨f, ec, ef⟩ := cS q
    refine Or.inl ⟨1, _, z1.trans ec, fun g1 Wg => ?_⟩
    have w1 : ∀ a, hi g1 a = hi (lcS g f n (jA sg (cb h c) n).2.2 (sg 0 3) (nb (cb h c) 4 0)) a := by
      rcases Wg with w | ⟨w, w2⟩
      · subst w; exact fun _ => rfl
      · subst w2; exact fun _ => rfl
    have w2 : ∀ a, a < 1316 → hj g1 a = hj h a := by
      intro a ha
      rw [← hj0 a, ← kj a (by omega)]
      rcases Wg with w | ⟨w, w2⟩
      · subst w; unfold lcS ENc; simp only [hj_hsi, hj_hri]
      · subst w2; unfold lcS ENc; rw [hj_hsj_ne (by omega)]; simp only [hj_hsi, hj_hri]
    have w3 : LY g1 ∧ hr g1 0 = hr h 0 ∧ hz g1 = hz h + 1 ∧ hw g1 = hw h + 6 := by
      rcases Wg with w | ⟨w, w2⟩
      · subst w; unfold lcS ENc; exact ⟨by simp only [LY_si, LY_ri]; exact Lg, by simp only [hr_hsi, hr_hri]; exact kr, by simp only [hz_hsi, hz_hri]; omega, by simp only [hw_hsi, hw_hri]; omega⟩
      · subst w2; unfold lcS ENc; exact ⟨by simp only [LY_si, LY_ri, LY_sj]; exact Lg, by simp only [hr_hsi, hr_hri, hr_hsj]; exact kr, by simp only [hz_hsi, hz_hri, hz_hsj]; omega, by simp only [hw_hsi, hw_hri, hw_hsj]; omega⟩
    have g1e : ∀ a, a < 1316 → ¬ (a = 0 ∨ (1255 ≤ a ∧ a ≤ 1261)) → hi g1 a = hi h' a := by
      intro a ha hb
      rw [w1 a]
      unfold lcS ENc
      simp (maxSteps := 4000000) (disch := omega) only [hi_hsi_ne, hi_hri_ne]
      exact kh a (by omega)
    have m1 : ∀ a, a < 1316 → ¬ (a = 0 ∨ a = 1 ∨ a = 1262 ∨ (1255 ≤ a ∧ a ≤ 1261)) → hi (md g1) a = hi h a := fun a ha hb => by rw [p1 _ _ (by omega), g1e a ha (by omega), hi0 a (by omega)]
    have m2 : ∀ k, k ≠ 0 → k ≠ 2 → hi (md g1) 1262 k = hi h 1262 k := fun k h1 h2 => by rw [p2 _ _ h1 h2, g1e 1262 (by decide) (by decide), hi0 1262 (by decide)]
    have MM : MS (md g1) sg sd := M.cg (fun a h1 h2 => m1 a (by omega) (by omega)) (by rw [pj, w2 1291 (by decide)]) ⟨m2 _ (by decide) (by decide), m2 _ (by decide) (by decide), m2 _ (by decide) (by decide), m2 _ (by decide) (by decide)⟩
    obtain ⟨fm, fm1, -, fmS⟩ := m_load46 (m := md g1) (y := cb h c) (n := n) hx MM W (by rw [m2 7 (by decide) (by decide)]; exact has) (cb_lt h c) (fun k hk' => by rw [m1 cm (by omega) (by omega)]; exact src k hk') hn' (by rw [m2 80 (by decide) (by decide)]; exact e80) hn0
    obtain ⟨f2, em, ef2⟩ := fmS q
    refine ⟨1, _, (z2 g1 (by rw [g1e 1262 (by decide) (by decide), hi0 _ (by decide)]) (by rw [g1e 1262 (by decide) (by decide), hi0 _ (by decide)])).trans em, rfl, ?_, ⟨S, sg, sd, ?_⟩, ?_⟩
    · unfold lmS ENm
      simp (disch := decide) only [hi_nk, hi_hri_ne, hi_hsi_ne]
      exact p0 _
    · have n4 := (jA_ok q W.1.2.2.2).1
      have nv := (jA_ok q W.1.2.2.2).2
      have F0a : ∀ k, hi (lmS (md g1) fm f2 n (jA sg (cb h c) n).2.2 (sg 0 3) (nb (cb h c) 4 0)) 0 k = hi (hsi (hsi (hsi g 0 10 (nI 0)) 0 11 (nI 0)) 0 12 (nI (jA sg (cb h c) n).2.2)) 0 k := by
        intro k
        unfold lmS ENm
        simp (disch := decide) only [hi_hsi_ne, hi_hri_ne]
        rw [p1 _ _ (by decide), w1]
        unfold lcS ENc
        simp (disch := decide) only [hi_hsi_ne, hi_hri_ne]
      have hrow : hi (lmS (md g1) fm f2 n (jA sg (cb h c) n).2.2 (sg 0 3) (nb (cb h c) 4 0)) 1257 = f := by
        unfold lmS ENm
        simp (disch := decide) only [hi_hsi_ne, hi_hri_ne]
        rw [p1 _ _ (by decide), w1]
        unfold lcS ENc
        simp (disch := decide) only [hi_hsi_ne, hi_hri_eq]
      have eb : ∀ j, j < n → cb (lmS (md g1) fm f2 n (jA sg (cb h c) n).2.2 (sg 0 3) (nb (cb h c) 4 0)) 1257 j = cb h c j := by
        intro j hj'
        rw [← ef j hj']
        exact congrFun (cb_of (hrow.trans hi_hri_eq.symm)) j
      have eJ := jA_E (sg := sg) eb W
      have enb := nb_E (n := n) eb (k := 4) (i := 0) (by omega)
      have q2 : (jA sg (cb (lmS (md g1) fm f2 n (jA sg (cb h c) n).2.2 (sg 0 3) (nb (cb h c) 4 0)) 1257) n).1 = 0 := by rw [eJ]; exact q
      have nv := (jA_ok q2 W.1.2.2.2).2
      rw [enb] at nv
      generalize hX : (jA sg (cb h c) n).2.2 = ct at *
      generalize hP : nb (cb h c) 4 0 = pl at *
      have hC : ∀ k, 1258 ≤ k → k ≤ 1261 → ∀ i, hi (lmS (md g1) fm f2 n ct (sg 0 3) pl) k i = hi (lcS g f n ct (sg 0 3) pl) k i := by
        intro k h1 h2 i
        unfold lmS ENm
        simp (maxSteps := 4000000) (disch := omega) only [hi_hsi_ne, hi_hri_ne]
        rw [p1 _ _ (by omega), w1]
      refine H2.most (h' := h') ?_ ?_ ?_ ?_ ?_ ?_ ?_ ?_
      · unfold lmS ENm
        simp only [LY_si, LY_ri]
        rw [(pr g1).2.1]
        exact w3.1
      · rcases tp with ⟨q1, q3⟩ | ⟨q1, q3⟩
        · refine Or.inl ⟨q1, ?_⟩
          unfold lmS ENm
          simp (disch := decide) only [hi_nk, hi_hri_ne, hi_hsi_ne]
          rw [q3, g1e 1262 (by decide) (by decide), hi0 _ (by decide)]
        · refine Or.inr ⟨q1, ?_⟩
          unfold lmS ENm
          simp (disch := decide) only [hi_nk, hi_hri_ne, hi_hsi_ne]
          exact q3 _
      · unfold lmS ENm
        simp only [hr_hsi, hr_hri]
        rw [(pr g1).1, w3.2.1]
        exact ⟨rfl, rfl⟩
      · intro a ha hb
        unfold lmS ENm
        simp (maxSteps := 4000000) (disch := omega) only [hi_hsi_ne, hi_hri_ne]
        rw [p1 _ _ (by omega), g1e a ha (by omega)]
      · unfold RF
        rw [F0a, F0a, F0a, F0a, F0a]
        unfold lmS ENm
        simp (disch := decide) only [hi_nk, hi_at, hi_hri_ne, hi_hsi_ne]
        rw [m2 50 (by decide) (by decide), m2 51 (by decide) (by decide), kh 0 (by decide), hi0 0 (by decide)]
        exact ⟨a4.1, a4.2.1, rfl, rfl, trivial⟩
      · intro k hk'
        unfold lmS ENm
        simp (maxSteps := 4000000) (disch := omega) only [hi_nk, hi_hri_ne, hi_hsi_ne]
        exact m2 k (by omega) (by omega)
      · intro a ha hb
        unfold lmS ENm
        simp only [hj_hsi, hj_hri]
        rw [pj, w2 a ha]
      · refine Or.inr ⟨n, 0, fun _ => 3, fun _ => sg 0 3, fun _ => 0, fun _ => pl, ⟨?_, ?_, ?_, hn', ?_, ?_, fun k hk' => ⟨?_, ?_⟩, q2⟩, ?_, ?_, fun i hi' => ?_⟩
        · unfold lmS ENm
          simp (disch := decide) only [hi_nk, hi_at, hi_hri_ne, hi_hsi_ne]
        · unfold lmS ENm
          simp (disch := decide) only [hi_nk, hi_hri_ne, hi_hsi_ne]
          rw [m2 7 (by decide) (by decide)]
          exact has
        · unfold lmS ENm
          simp (disch := decide) only [hi_hri_ne, hi_hsi_ne]
          rw [p1 _ _ (by decide), w1]
          unfold lcS ENc
          simp (disch := decide) only [hi_hsi_ne, hi_at]
        · unfold lmS ENm
          simp (disch := decide) only [hi_nk, hi_at, hi_hri_ne, hi_hsi_ne]
        · unfold lmS ENm
          simp (disch := decide) only [hi_nk, hi_at, hi_hri_ne, hi_hsi_ne]
        · rw [eb k hk']
          unfold lmS ENm
          simp (disch := decide) only [hi_hri_ne, hi_hsi_ne, hi_hri_eq]
          exact fm1 k hk'
        · rw [eb k hk']
          unfold lmS ENm
          simp (disch := decide) only [hi_hri_ne, hi_hsi_ne, hi_hri_eq]
          exact ef2 k hk'
        · unfold lmS ENm
          simp (disch := decide) only [hi_hri_ne, hi_hsi_ne]
          rw [p1 _ _ (by decide), w1]
          unfold lcS ENc
          simp (disch := decide) only [hi_hsi_ne, hi_at]
        · unfold lmS ENm
          simp (disch := decide) only [hi_at]
        · have i0 : i = 0 := by omega
          subst i0
          refine ⟨?_, ?_, nv⟩
          · rw [hC 1258 (by decide) (by decide), hC 1259 (by decide) (by decide), hC 1260 (by decide) (by decide), hC 1261 (by decide) (by decide)]
            unfold lcS ENc
            simp (disch := decide) only [hi_hsi_ne, hi_at]
            exact ⟨trivial, trivial, by decide, trivial⟩
          · unfold lmS ENm
            simp (disch := decide) only [hi_hsi_ne, hi_at]
            exact ⟨trivial, trivial, by decide, trivial⟩
    · unfold lmS ENm
      refine ⟨?_, ?_⟩
      · simp only [hz_hsi, hz_hri]; rw [(pr g1).2.2.1, w3.2.2.1]; omega
      · simp only [hw_hsi, hw_hri]; rw [(pr g1).2.2.2, w3.2.2.2]; omega
  · refine Or.inl ⟨0, _, z1.trans (cF q), fun g1 Wg => ?_⟩
    have w1 : ∀ a, hi g1 a = hi (lcF g (jA sg (cb h c) n)) a := by
      rcases Wg with w | ⟨w, w2⟩
      · subst w; exact fun _ => rfl
      · subst w2; exact fun _ => rfl
    have w2 : ∀ a, a < 1316 → hj g1 a = hj h a := by
      intro a ha
      rw [← hj0 a, ← kj a (by omega)]
      rcases Wg with w | ⟨w, w2⟩
      · subst w; unfold lcF; simp only [hj_hsi]
      · subst w2; unfold lcF; rw [hj_hsj_ne (by omega)]; simp only [hj_hsi]
    have w3 : LY g1 ∧ hr g1 0 = hr h 0 ∧ hz g1 = hz h + 1 ∧ hw g1 = hw h + 6 := by
      rcases Wg with w | ⟨w, w2⟩
      · subst w; unfold lcF; exact ⟨by simp only [LY_si]; exact Lg, by simp only [hr_hsi]; exact kr, by simp only [hz_hsi]; omega, by simp only [hw_hsi]; omega⟩
      · subst w2; unfold lcF; exact ⟨by simp only [LY_si, LY_sj]; exact Lg, by simp only [hr_hsi, hr_hsj]; exact kr, by simp only [hz_hsi, hz_hsj]; omega, by simp only [hw_hsi, hw_hsj]; omega⟩
    have g1e : ∀ a, a < 1316 → ¬ a = 0 → hi g1 a = hi h' a := by
      intro a ha hb
      rw [w1 a]
      unfold lcF
      simp (maxSteps := 4000000) (disch := omega) only [hi_hsi_ne]
      exact kh a (by omega)
    have m1 : ∀ a, a < 1316 → ¬ (a = 0 ∨ a = 1 ∨ a = 1262) → hi (md g1) a = hi h a := fun a ha hb => by rw [p1 _ _ (by omega), g1e a ha (by omega), hi0 a (by omega)]
    have m2 : ∀ k, k ≠ 0 → k ≠ 2 → hi (md g1) 1262 k = hi h 1262 k := fun k h1 h2 => by rw [p2 _ _ h1 h2, g1e 1262 (by decide) (by decide), hi0 1262 (by decide)]
    have MM : MS (md g1) sg sd := M.cg (fun a h1 h2 => m1 a (by omega) (by omega)) (by rw [pj, w2 1291 (by decide)]) ⟨m2 _ (by decide) (by decide), m2 _ (by decide) (by decide), m2 _ (by decide) (by decide), m2 _ (by decide) (by decide)⟩
    obtain ⟨fm, fm1, fmF, -⟩ := m_load46 (m := md g1) (y := cb h c) (n := n) hx MM W (by rw [m2 7 (by decide) (by decide)]; exact has) (cb_lt h c) (fun k hk' => by rw [m1 cm (by omega) (by omega)]; exact src k hk') hn' (by rw [m2 80 (by decide) (by decide)]; exact e80) hn0
    obtain ⟨f2, em, ef2⟩ := fmF q
    have ef3 : ∀ j, j < n0 → f2 j = hi h 1311 j := fun j hj' => by rw [ef2 j hj', m1 1311 (by decide) (by decide)]
    generalize hX : jA sg (cb h c) n = X at *
    refine ⟨0, _, (z2 g1 (by rw [g1e 1262 (by decide) (by decide), hi0 _ (by decide)]) (by rw [g1e 1262 (by decide) (by decide), hi0 _ (by decide)])).trans em, rfl, ?_, ⟨S, sg, sd, ?_⟩, ?_⟩
    · unfold lmF
      simp (disch := decide) only [hi_nk, hi_hri_ne, hi_hsi_ne]
      exact p0 _
    · have F1 : ∀ a, a < 1316 → ¬ (a = 0 ∨ a = 1262 ∨ a = 1310) → hi (lmF (md g1) fm f2 n n0 X) a = hi h' a := by
        intro a ha hb
        unfold lmF
        simp (maxSteps := 4000000) (disch := omega) only [hi_hsi_ne, hi_hri_ne]
        rw [p1 _ _ (by omega), g1e a ha (by omega)]
      have F2 : ∀ k, ¬ (k = 0 ∨ k = 2 ∨ k = 52 ∨ k = 53 ∨ k = 75 ∨ k = 76 ∨ k = 77 ∨ k = 78) → hi (lmF (md g1) fm f2 n n0 X) 1262 k = hi h 1262 k := by
        intro k hk'
        unfold lmF
        simp (maxSteps := 4000000) (disch := omega) only [hi_nk, hi_hri_ne]
        exact m2 k (by omega) (by omega)
      refine H2.most (h' := h') ?_ ?_ ?_ (fun a ha hb => F1 a ha (by omega)) ?_ (fun k hk' => F2 k (by omega)) ?_ ?_
      · unfold lmF
        simp only [LY_si, LY_ri]
        rw [(pr g1).2.1]
        exact w3.1
      · rcases tp with ⟨q1, q3⟩ | ⟨q1, q3⟩
        · refine Or.inl ⟨q1, ?_⟩
          unfold lmF
          simp (disch := decide) only [hi_nk, hi_hri_ne, hi_hsi_ne]
          rw [q3, g1e 1262 (by decide) (by decide), hi0 _ (by decide)]
        · refine Or.inr ⟨q1, ?_⟩
          unfold lmF
          simp (disch := decide) only [hi_nk, hi_hri_ne, hi_hsi_ne]
          exact q3 _
      · unfold lmF
        simp only [hr_hsi, hr_hri]
        rw [(pr g1).1, w3.2.1]
        exact ⟨rfl, rfl⟩
      · have F0a : ∀ k, hi (lmF (md g1) fm f2 n n0 X) 0 k = hi (hsi (hsi g 0 10 (nI X.1)) 0 11 (nI X.2.1)) 0 k := by
          intro k
          unfold lmF
          simp (disch := decide) only [hi_hsi_ne, hi_hri_ne]
          rw [p1 _ _ (by decide), w1]
          rfl
        unfold RF
        rw [F0a, F0a, F0a, F0a, F0a]
        unfold lmF
        simp (disch := decide) only [hi_nk, hi_at, hi_hri_ne, hi_hsi_ne]
        rw [m2 50 (by decide) (by decide), m2 51 (by decide) (by decide), m2 82 (by decide) (by decide), kh 0 (by decide), hi0 0 (by decide)]
        exact ⟨a4.1, a4.2.1, trivial, trivial, a4.2.2.2.2⟩
      · intro a ha hb
        unfold lmF
        simp only [hj_hsi, hj_hri]
        rw [pj, w2 a ha]
      · have c57 : cb (lmF (md g1) fm f2 n n0 X) 1257 = cb h 1257 := cb_cg (by rw [F1 1257 (by decide) (by decide), hi0 _ (by decide)])
        have G1 : ∀ a, 1255 ≤ a → a ≤ 1315 → ¬ (a = 1262 ∨ a = 1310) → hi (lmF (md g1) fm f2 n n0 X) a = hi h a := fun a h1 h2 h3 => by rw [F1 a (by omega) (by omega), hi0 a (by omega)]
        rcases a7 with ⟨r1, r2, r3, r4⟩ | ⟨n1, a, so, o, e, p, ⟨r1, r2, r3, r4, r5, r6, r7, r8⟩, r9, r10, r11⟩
        · refine Or.inl ⟨by rw [F2 81 (by decide)]; exact r1, by rw [G1 1255 (by decide) (by decide) (by decide)]; exact r2, by rw [G1 1256 (by decide) (by decide) (by decide)]; exact r3, by rw [F2 80 (by decide)]; exact r4⟩
        · have en : n1 = n0 := (nI_eq (by omega) (by omega)).mp (r6.symm.trans e80)
          subst en
          refine Or.inr ⟨n1, a, so, o, e, p, ⟨by rw [F2 81 (by decide)]; exact r1, by rw [F2 7 (by decide)]; exact r2, by rw [G1 1256 (by decide) (by decide) (by decide)]; exact r3, r4, ?_, by rw [F2 80 (by decide)]; exact r6, fun k hk' => ⟨?_, ?_⟩, by rw [c57]; exact r8⟩, by rw [G1 1255 (by decide) (by decide) (by decide)]; exact r9, by rw [F2 87 (by decide)]; exact r10, ?_⟩
          · unfold lmF
            rw [hi_hri_ne (by decide), hi_at]
          · rw [c57]
            unfold lmF
            rw [hi_hri_eq, ef3 k hk']
            exact (r7 k hk').2
          · rw [c57, G1 1311 (by decide) (by decide) (by decide)]
            exact (r7 k hk').2
          · unfold RRn
            rw [c57, G1 1258 (by decide) (by decide) (by decide), G1 1259 (by decide) (by decide) (by decide), G1 1260 (by decide) (by decide) (by decide), G1 1261 (by decide) (by decide) (by decide), G1 1312 (by decide) (by decide) (by decide), G1 1313 (by decide) (by decide) (by decide), G1 1314 (by decide) (by decide) (by decide), G1 1315 (by decide) (by decide) (by decide)]
            exact r11
    · unfold lmF
      refine ⟨?_, ?_⟩
      · simp only [hz_hsi, hz_hri]; rw [(pr g1).2.2.1, w3.2.2.1]; omega
      · simp only [hw_hsi, hw_hri]; rw [(pr g1).2.2.2, w3.2.2.2]; omega
theorem op_load {x : Int32} (H : RX h) (hm : hz h < 900000) : TH h (f_t_load x) (f_m_load x) (fun v w => v = w) [(0, 1), (1, 2)] := by
  obtain ⟨S, sg, sd, H⟩ := H
  have L := H.1
  have hS := H.sS
  have hsc := H.sc rfl
  have s1 : S < hz h := by have := hsc.1; omega
  have k9 : hk h S = 9 := hsc.2.2.1
  by_cases c0 : x = 0
  · subst c0
    obtain ⟨n, t1, t2, t3, t4⟩ := H.2.2.1
    have z1 : f_t_load 0 h = b_t_load_53 1 (nI n) (hsi h 1 1 0) := by
      unfold f_t_load b_t_load_20 b_t_load_35
      rw [t2]
      exact o_pos rfl (o_neg (not_not_intro rfl) (o_pos ⟨L.lt (by decide), L.k1⟩ (o_neg (not_not_intro rfl) rfl)))
    have z2 : ∀ g1 : XH, hi g1 1262 2 = hi h 1262 2 → f_m_load 0 g1 = b_m_load_46 0 (nI n) (hsi (hsi g1 1262 0 0) 1262 2 0) := by
      intro g1 e1
      unfold f_m_load b_m_load_21 b_m_load_36
      rw [hi_nk (a := 1262) (k := 0) (j := 2) (by decide), e1, t3]
      exact o_pos rfl (o_neg (not_not_intro rfl) (o_neg (not_not_intro rfl) rfl))
    rcases H.2.2.2.2.2.2.1 with ⟨q1, q2, q3, q4, q5⟩ | ⟨q1, q2, q3, q4, q5, q6⟩
    · have H' : RA (hsi (hsi h 1 1 0) 1262 2 0) S sg sd := by
        refine H.most (h' := hsi h 1 1 0) ?_ (Or.inr ⟨rfl, hi_at⟩) ⟨rfl, rfl⟩ (fun a ha hb => hi_hsi_ne (by omega)) ?_ (fun k hk' => ?_) (fun a ha hb => rfl) ?_
        · simp only [LY_si]; exact L
        · exact RF.cg H.2.2.2.2.2.1 (fun k h1 h2 => by rw [hi_hsi_ne (by decide), hi_hsi_ne (by decide)]) (fun k hk' => by rw [hi_nk (by omega), hi_hsi_ne (by decide)])
        · rw [hi_nk (by omega), hi_hsi_ne (by decide)]
        · exact RR.cg H.2.2.2.2.2.2.2.2 (by rw [hi_hsi_ne (by decide), hi_hsi_ne (by decide)]) (by rw [hi_hsi_ne (by decide), hi_hsi_ne (by decide)]) (fun a h1 h2 => by rw [hi_hsi_ne (by omega), hi_hsi_ne (by omega)]) (fun k hk' => by rw [hi_nk (by omega), hi_hsi_ne (by decide)]) (fun a h1 h2 => by rw [hi_hsi_ne (by omega), hi_hsi_ne (by omega)])
      refine Or.inr ⟨1, 2, hthr (hsi h 1 1 0), by decide, ?_, fun g1 Wg => ?_⟩
      · rw [z1]
        unfold b_t_load_53
        exact o_bind H.2.1.1 (o_pos ⟨s1, k9⟩ (o_neg (by rw [hi_hsi_ne (by omega)]; exact not_not_intro q5.1) (o_pos (show hz h < 1000000 by omega) rfl)))
      · have l := L.1
        have e1 : ∀ a, a < 1316 → hi g1 a = hi (hsi h 1 1 0) a := by
          intro a ha
          rcases Wg with w | ⟨w, w2⟩
          · subst w; exact hthr_hi (show a < hz h by omega)
          · subst w2; rw [hi_hsj]; exact hthr_hi (show a < hz h by omega)
        have e2 : ∀ a, a < 1316 → hj g1 a = hj (hsi h 1 1 0) a := by
          intro a ha
          rcases Wg with w | ⟨w, w2⟩
          · subst w; exact hthr_hj (show a < hz h by omega)
          · subst w2; rw [hj_hsj_ne (by omega)]; exact hthr_hj (show a < hz h by omega)
        have e3 : LY g1 ∧ hr g1 0 = hr h 0 ∧ hz g1 = hz h + 1 ∧ hw g1 = hw h + 6 := by
          have Lt : LY (hthr (hsi h 1 1 0)) := LY.thr (h := hsi h 1 1 0) (by rw [LY_si]; exact L) (show hz h < 1000000 by omega)
          rcases Wg with w | ⟨w, w2⟩
          · subst w; exact ⟨Lt, hthr_hr (show 0 < hz h by omega), rfl, rfl⟩
          · subst w2; exact ⟨by rw [LY_sj]; exact Lt, hthr_hr (show 0 < hz h by omega), rfl, rfl⟩
        refine ⟨0, hsi (hsi (hsi g1 1262 0 0) 1262 2 0) 1262 0 2, ?_, hi_at, ⟨S, sg, sd, RA.th ?_⟩, ⟨?_, ?_⟩⟩
        · rw [z2 g1 (by rw [e1 1262 (by decide), hi_hsi_ne (by decide)])]
          unfold b_m_load_46
          refine o_neg (not_not_intro ?_) rfl
          rw [hi_nk (by decide), hi_nk (by decide), e1 1262 (by decide), hi_hsi_ne (by decide)]
          exact q1
        · have H3 : RA (hsi (hsi (hsi h 1 1 0) 1262 2 0) 1262 0 0) S sg sd := H'.th
          refine H3.gen (by simp only [LY_si]; exact e3.1) ?_ (fun a ha hb => ?_) ?_ (fun a ha hb => ?_)
          · simp only [hr_hsi]; rw [e3.2.1]; exact ⟨rfl, rfl⟩
          · by_cases z : a = 1262
            · subst z
              funext k
              by_cases k0 : k = 0
              · subst k0; rw [hi_nk (by decide), hi_at, hi_at]
              · by_cases k2 : k = 2
                · subst k2; rw [hi_at, hi_nk (by decide), hi_at]
                · rw [hi_nk k2, hi_nk k0, hi_nk k0, hi_nk k2, e1 1262 (by decide)]
            · rw [hi_hsi_ne z, hi_hsi_ne z, hi_hsi_ne z, hi_hsi_ne z, e1 a ha]
          · rw [hi_hsi_ne (by decide), hi_hsi_ne (by decide), hi_hsi_ne (by decide), hi_hsi_ne (by decide), e1 1255 (by decide)]
          · rw [hj_hsi, hj_hsi, e2 a ha]; rfl
        · simp only [hz_hsi]; omega
        · simp only [hw_hsi]; omega
    · exact load_go (md := fun g => hsi (hsi g 1262 0 0) 1262 2 0) H hm (Or.inl ⟨rfl, rfl⟩) (Or.inl ⟨rfl, rfl⟩) q1 q2 q3 q4 t1 t4 (Or.inr ⟨rfl, fun g => hi_at⟩) (fun g a ha => by rw [hi_hsi_ne ha, hi_hsi_ne ha]) (fun g k h1 h2 => by rw [hi_nk h2, hi_nk h1]) (fun g => by rw [hi_nk (by decide), hi_at]) (fun g a => rfl) (fun g => ⟨rfl, rfl, rfl, rfl⟩) z1 (fun g1 e1 _ => z2 g1 e1)
  · by_cases c1 : x = 1
    · subst c1
      obtain ⟨n, t1, t2, t3, t4⟩ := H.2.2.2.2.1
      have z1 : f_t_load 1 h = b_t_load_53 3 (nI n) h := by
        unfold f_t_load b_t_load_20 b_t_load_35
        rw [t2]
        exact o_neg one0 (o_pos rfl (o_pos one0 (o_pos ⟨L.lt (by decide), L.k3⟩ (o_pos one0 rfl))))
      have z2 : ∀ g1 : XH, hi g1 1262 72 = hi h 1262 72 → f_m_load 1 g1 = b_m_load_46 1 (nI n) (hsi g1 1262 0 0) := by
        intro g1 e1
        unfold f_m_load b_m_load_21 b_m_load_36
        rw [hi_nk (a := 1262) (k := 0) (j := 72) (by decide), e1, t3]
        exact o_neg one0 (o_pos rfl (o_pos one0 (o_pos one0 rfl)))
      rcases H.2.2.2.2.2.2.1 with ⟨q1, q2, q3, q4, q5⟩ | ⟨q1, q2, q3, q4, q5, q6⟩
      · refine load_no (j := 1) (k := 2) H (by decide) hm ⟨rfl, rfl⟩ ?_ (fun g1 Wg => ⟨hsi g1 1262 0 0, ?_, fun z => z.th, rfl, rfl⟩)
        · rw [z1]
          unfold b_t_load_53
          exact o_bind H.2.1.1 (o_pos ⟨s1, k9⟩ (o_neg (not_not_intro q5.1) (o_pos (show hz h < 1000000 by omega) rfl)))
        · have l := L.1
          have e1 : hi g1 1262 = hi h 1262 := by
            rcases Wg with w | ⟨w, w2⟩
            · subst w; exact hthr_hi (by omega)
            · subst w2; rw [hi_hsj]; exact hthr_hi (by omega)
          rw [z2 g1 (by rw [e1])]
          unfold b_m_load_46
          exact o_neg (by rw [hi_nk (by decide), e1]; exact not_not_intro q1) rfl
      · exact load_go (md := fun g => hsi g 1262 0 0) H hm (Or.inr ⟨rfl, rfl⟩) (Or.inr ⟨rfl, rfl⟩) q1 q2 q3 q4 t1 t4 (Or.inl ⟨rfl, fun g => hi_nk (by decide)⟩) (fun g a ha => hi_hsi_ne ha) (fun g k h1 h2 => hi_nk h1) (fun g => hi_at) (fun g a => rfl) (fun g => ⟨rfl, rfl, rfl, rfl⟩) z1 (fun g1 _ e1 => z2 g1 e1)
    · refine load_no (j := 0) (k := 1) H (by decide) hm ⟨rfl, rfl⟩ ?_ (fun g1 Wg => ⟨hsi g1 1262 0 0, ?_, fun z => z.th, rfl, rfl⟩)
      · unfold f_t_load
        exact o_neg c0 (o_neg c1 (o_pos (show hz h < 1000000 by omega) rfl))
      · unfold f_m_load
        exact o_neg c0 (o_neg c1 rfl)
end Ops
