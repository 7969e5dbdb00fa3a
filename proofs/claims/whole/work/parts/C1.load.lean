/-! Calls: load, each side -/

/-- the class's heap behind a load that was refused, one that was accepted -/
def lcF (g : XH) (x : J3) : XH := hsi (hsi g 0 10 (nI x.1)) 0 11 (nI x.2.1)
def lcS (g : XH) (f : Nat → Int32) (n ct root pl : Nat) : XH := ENc (hsi (hsi (hri (hsi (hsi (hsi g 0 10 (nI 0)) 0 11 (nI 0)) 0 12 (nI ct)) 1257 f) 1256 1 (nI n)) 1255 5 (-1)) 0 (nI 3) (nI root) (-1) (nI pl)
/-- the model's -/
def lmF (m : XH) (f f2 : Nat → Int32) (n n0 : Nat) (x : J3) : XH := hri (hsi (hsi (hsi (hsi (hsi (hsi (hsi (hsi (hri (hsi m 1262 75 (nI n)) 1310 f) 1262 76 0) 1262 77 0) 1262 78 (nI x.2.2)) 1262 76 (nI x.1)) 1262 77 (nI x.2.1)) 1262 52 (nI x.1)) 1262 53 (nI x.2.1)) 1262 75 (nI n0)) 1310 f2
def lmS (m : XH) (f f2 : Nat → Int32) (n ct root pl : Nat) : XH := ENm (hsi (hsi (hsi (hri (hsi (hsi (hsi (hsi (hsi (hsi (hri (hsi m 1262 75 (nI n)) 1310 f) 1262 76 0) 1262 77 0) 1262 78 (nI ct)) 1262 52 0) 1262 53 0) 1262 80 (nI n)) 1311 f2) 1262 81 1) 1262 82 (nI ct)) 1262 87 0) 0 (nI 3) (nI root) (-1) (nI pl)
section Ld
variable {h g : XH} {S n : Nat} {sg : SGT} {sd : Nat → Int64}
theorem c_load53 {b c : Nat} (L : LY h) (hm : hz h < 1000000) (hr0 : hr h 0 4 = some S) (C : CS h S sg sd) (W : WF sg sd) (hS : S + 616 ≤ 1244) (hbc : b = 1 ∧ c = 2 ∨ b = 3 ∧ c = 4) (hn' : n ≤ 4000) : ∃ g, KP h g (hz h) ∧ hz g = hz h + 1 ∧ hw g = hw h + 6 ∧ (¬ (jA sg (cb h c) n).1 = 0 → b_t_load_53 b (nI n) h = some (Sum.inl 0, lcF g (jA sg (cb h c) n))) ∧ ((jA sg (cb h c) n).1 = 0 → ∃ f, b_t_load_53 b (nI n) h = some (Sum.inl 1, lcS g f n (jA sg (cb h c) n).2.2 (sg 0 3) (nb (cb h c) 4 0)) ∧ ∀ j, j < n → cb (hri h 1257 f) 1257 j = cb h c j) := by
  have l := L.1
  have B : BY h b c := by
    rcases hbc with ⟨q1, q2⟩ | ⟨q1, q2⟩ <;> subst q1 <;> subst q2
    · exact L.b1
    · exact L.b3
  have hb : b < 1317 := by omega
  have hc : c < 1317 := by omega
  obtain ⟨g, eA, K, z1, z2, k5, i3, i4, i5⟩ := e_judge (n := n) L hm C W (by omega) B hb hc hn'
  have s1 : S < hz h := by have := C.1.1; omega
  have k9 : hk h S = 9 := C.1.2.2.1
  have root : hi h S 5 = nI (sg 0 3) := C.2.1.2.2.2
  have w0 := W.1
  have r2 : hr (hnew h 5 6) 0 4 = some S := by rw [(hnew_kp (h := h) (k := 5) (n := 6)).hr (by omega)]; exact hr0
  have gs1 : S < hz g := by omega
  have gk9 : hk g S = 9 := by rw [(K S (by omega)).1]; exact k9
  have gr0 : hr g 0 4 = some S := by rw [K.hr (by omega)]; exact hr0
  have groot : hi g S 5 = nI (sg 0 3) := by rw [K.hi (by omega)]; exact root
  have gJ : hz h < hz g := by omega
  have kJ1 : hz h < hz (hnew h 5 6) := Nat.lt_succ_self _
  have kJ2 : hk (hnew h 5 6) (hz h) = 5 := hnew_k
  have kI1 : hz h < hz (jI h S b (nI n)) := Nat.lt_succ_self _
  have kI2 : hk (jI h S b (nI n)) (hz h) = 5 := hnew_k (n := 6)
  refine ⟨g, K, z1, z2, fun q => ?_, fun q => ?_⟩
  · unfold b_t_load_53 lcF
    rw [if_neg q] at i5
    rw [jb_0 q] at eA
    refine o_bind hr0 (o_pos ⟨s1, k9⟩ (o_pos (by rw [root]; exact nI_n1 (by omega)) (o_pos hm (o_bind r2 (o_pos ⟨kJ1, kJ2⟩ (o_bind (e_j_init l) (o_pos ⟨kI1, kI2⟩ (o_bind eA (o_pos ⟨gJ, k5⟩ (o_pos rfl (o_pos (Or.inl rfl) ?_)))))))))))
    dsimp only
    rw [i4, i5]
  · have n4 := (jA_ok q w0.2.2.2).1
    rw [if_pos q] at i5
    rw [jb_1 q] at eA
    rw [q] at i4
    have Lg : LY g := L.keep (fun b hb => K b (by omega)) (by omega) (by omega)
    have LG : LY (hsi (hsi (hsi g 0 10 (nI 0)) 0 11 (nI 0)) 0 12 (nI (jA sg (cb h c) n).2.2)) := by rw [LY_si, LY_si, LY_si]; exact Lg
    have BG : BY (hsi (hsi (hsi g 0 10 (nI 0)) 0 11 (nI 0)) 0 12 (nI (jA sg (cb h c) n).2.2)) b c := by
      rcases hbc with ⟨q1, q2⟩ | ⟨q1, q2⟩ <;> subst q1 <;> subst q2
      · exact LG.b1
      · exact LG.b3
    have cG : cb (hsi (hsi (hsi g 0 10 (nI 0)) 0 11 (nI 0)) 0 12 (nI (jA sg (cb h c) n).2.2)) c = cb h c := by
      rw [cb_ne (by omega), cb_ne (by omega), cb_ne (by omega)]
      exact cb_cg (K.hi (by omega))
    obtain ⟨f, eC, f1, f2⟩ := e_b_copy (f0 := 0) (t0 := 0) (m := n) LG.b1256 BG (by omega) (by omega) (by omega)
    have f3 : ∀ j, j < n → cb (hri h 1257 f) 1257 j = cb h c j := by
      intro j hj'
      have z := f1 j hj'
      rw [Nat.zero_add, cG] at z
      rw [← z]
      unfold cb
      rw [hi_hri_eq, hi_hri_eq]
    refine ⟨f, ?_, f3⟩
    have BA : BY (hsi (hri (hsi (hsi (hsi g 0 10 (nI 0)) 0 11 (nI 0)) 0 12 (nI (jA sg (cb h c) n).2.2)) 1257 f) 1256 1 (nI n)) 1256 1257 := LG.b1256
    have eR := e_r_goToRoot (root := nI (sg 0 3)) BA
    have en : nb (cb (hsi (hri (hsi (hsi (hsi g 0 10 (nI 0)) 0 11 (nI 0)) 0 12 (nI (jA sg (cb h c) n).2.2)) 1257 f) 1256 1 (nI n)) 1257) 4 0 = nb (cb h c) 4 0 := by
      refine nb_congr 4 0 (fun j _ hj' => ?_)
      rw [cb_ne (by decide), ← f3 j (by omega)]
      unfold cb
      rw [hi_hri_eq, hi_hri_eq]
    rw [en] at eR
    unfold b_t_load_53 lcS
    have eX : f_r_accept b (nI n) (nI (sg 0 3)) (hsi (hsi (hsi g 0 10 (nI 0)) 0 11 (nI 0)) 0 12 (nI (jA sg (cb h c) n).2.2)) = some ((), ENc (hsi (hsi (hri (hsi (hsi (hsi g 0 10 (nI 0)) 0 11 (nI 0)) 0 12 (nI (jA sg (cb h c) n).2.2)) 1257 f) 1256 1 (nI n)) 1255 5 (-1)) 0 (nI 3) (nI (sg 0 3)) (-1) (nI (nb (cb h c) 4 0))) := by
      unfold f_r_accept
      exact o_bind eC (o_bind eR rfl)
    refine o_bind hr0 (o_pos ⟨s1, k9⟩ (o_pos (by rw [root]; exact nI_n1 (by omega)) (o_pos hm (o_bind r2 (o_pos ⟨kJ1, kJ2⟩ (o_bind (e_j_init l) (o_pos ⟨kI1, kI2⟩ (o_bind eA (o_pos ⟨gJ, k5⟩ (o_neg one0 (o_bind gr0 (o_pos ⟨gs1, gk9⟩ ?_))))))))))))
    dsimp only
    rw [i3, i4, i5, groot]
    exact o_bind eX (o_pos (Or.inr rfl) rfl)
theorem m_load46 {m : XH} {y : Nat → Nat} {x : Int32} {c n0 : Nat} (hx : x = 0 ∧ c = 1263 ∨ x = 1 ∧ c = 1308) (M : MS m sg sd) (W : WF sg sd) (has : hi m 1262 7 = 1) (hy : ∀ k, y k < 256) (src : ∀ k, k < n → hi m c k = nI (y k)) (hn' : n ≤ 4000) (e80 : hi m 1262 80 = nI n0) (hn0 : n0 ≤ 4000) : ∃ f, (∀ j, j < n → f j = nI (y j)) ∧ (¬ (jA sg y n).1 = 0 → ∃ f2, b_m_load_46 x (nI n) m = some (0, lmF m f f2 n n0 (jA sg y n)) ∧ ∀ j, j < n0 → f2 j = hi m 1311 j) ∧ ((jA sg y n).1 = 0 → ∃ f2, b_m_load_46 x (nI n) m = some (1, lmS m f f2 n (jA sg y n).2.2 (sg 0 3) (nb y 4 0)) ∧ ∀ j, j < n → f2 j = nI (y j)) := by
  have e75 : hi (hsi m 1262 75 (nI n)) 1262 75 = nI n := hi_at
  obtain ⟨f, r1, r2⟩ := e_m_load67_loop (n := n) hx e75 hn' n 0 100000 (hi (hsi m 1262 75 (nI n)) 1310) (by omega) (by omega) (fun j hj' => absurd hj' (Nat.not_lt_zero j))
  rw [hri_self, nI_0] at r1
  have r3 : ∀ j, j < n → f j = nI (y j) := fun j hj' => by rw [r2 j hj', hi_hsi_ne (by omega), src j hj']
  have CM : MC (hri (hsi m 1262 75 (nI n)) 1310 f) n y sg sd := by
    refine ⟨⟨by rw [hi_hri_ne (by decide)]; exact hi_at, hn'⟩, hy, fun k hk' => by rw [hi_hri_eq]; exact r3 k hk', M.cg (fun a h1 h2 => by rw [hi_hri_ne (by omega), hi_hsi_ne (by omega)]) rfl ?_⟩
    rw [hi_hri_ne (by decide), hi_nk (by decide), hi_nk (by decide), hi_nk (by decide), hi_nk (by decide)]
    exact ⟨rfl, rfl, rfl, rfl⟩
  have eJ := e_m_judge CM W
  have has2 : ¬ hi m 1262 7 = 0 := by rw [has]; exact one0
  refine ⟨f, r3, fun q => ?_, fun q => ?_⟩
  · rw [jb_0 q] at eJ
    generalize hX : jA sg y n = X at *
    have e7 : mH (hsi (hsi (hri (hsi m 1262 75 (nI n)) 1310 f) 1262 76 0) 1262 77 0) X = hsi (hsi (hsi (hsi (hsi (hri (hsi m 1262 75 (nI n)) 1310 f) 1262 76 0) 1262 77 0) 1262 78 (nI X.2.2)) 1262 76 (nI X.1)) 1262 77 (nI X.2.1) := by
      unfold mH mh
      rw [if_neg q]
    rw [e7] at eJ
    obtain ⟨f2, b1, b2⟩ := e_m_back (m := hsi (hsi (hsi (hsi (hsi (hsi (hsi (hri (hsi m 1262 75 (nI n)) 1310 f) 1262 76 0) 1262 77 0) 1262 78 (nI X.2.2)) 1262 76 (nI X.1)) 1262 77 (nI X.2.1)) 1262 52 (nI X.1)) 1262 53 (nI X.2.1)) (n := n0) (by
      simp (disch := decide) only [hi_nk, hi_hri_ne]
      exact e80) hn0
    refine ⟨f2, ?_, fun j hj' => ?_⟩
    · unfold b_m_load_46
      refine o_pos has2 (r1.trans ?_)
      unfold ldX lmF
      refine o_bind eJ (o_neg (not_not_intro rfl) ?_)
      dsimp only
      have e8 : hi (hsi (hsi (hsi (hsi (hsi (hri (hsi m 1262 75 (nI n)) 1310 f) 1262 76 0) 1262 77 0) 1262 78 (nI X.2.2)) 1262 76 (nI X.1)) 1262 77 (nI X.2.1)) 1262 76 = nI X.1 := by rw [hi_nk (by decide), hi_at]
      have e9 : hi (hsi (hsi (hsi (hsi (hsi (hri (hsi m 1262 75 (nI n)) 1310 f) 1262 76 0) 1262 77 0) 1262 78 (nI X.2.2)) 1262 76 (nI X.1)) 1262 77 (nI X.2.1)) 1262 77 = nI X.2.1 := by rw [hi_at]
      rw [e8, e9]
      exact o_bind b1 rfl
    · rw [b2 j hj']
      simp (disch := decide) only [hi_hsi_ne, hi_hri_ne]
  · have w0 := W.1
    have n4 := (jA_ok q w0.2.2.2).1
    rw [jb_1 q] at eJ
    generalize hX : jA sg y n = X at *
    rw [mH_0 q] at eJ
    obtain ⟨f2, b1, b2⟩ := e_m_load148_loop (m := hsi (hsi (hsi (hsi (hsi (hsi (hri (hsi m 1262 75 (nI n)) 1310 f) 1262 76 0) 1262 77 0) 1262 78 (nI X.2.2)) 1262 52 0) 1262 53 0) 1262 80 (nI n)) (n := n) (by
      simp (disch := decide) only [hi_nk, hi_hri_ne, hi_at]) hn' n 0 100000 (hi (hsi (hsi (hsi (hsi (hsi (hsi (hri (hsi m 1262 75 (nI n)) 1310 f) 1262 76 0) 1262 77 0) 1262 78 (nI X.2.2)) 1262 52 0) 1262 53 0) 1262 80 (nI n)) 1311) (by omega) (by omega) (fun j hj' => absurd hj' (Nat.not_lt_zero j))
    rw [hri_self, nI_0] at b1
    have b3 : ∀ j, j < n → f2 j = nI (y j) := fun j hj' => by
      rw [b2 j hj']
      simp (disch := decide) only [hi_hsi_ne, hi_hri_eq]
      exact r3 j hj'
    have e78 : hi (hsi (hsi (hsi (hsi (hsi (hsi (hri (hsi m 1262 75 (nI n)) 1310 f) 1262 76 0) 1262 77 0) 1262 78 (nI X.2.2)) 1262 52 0) 1262 53 0) 1262 80 (nI n)) 1262 78 = nI X.2.2 := by simp (disch := decide) only [hi_nk, hi_at]
    rw [e78] at b1
    have CR : MC (hsi (hsi (hri (hsi (hsi (hsi (hsi (hsi (hsi (hri (hsi m 1262 75 (nI n)) 1310 f) 1262 76 0) 1262 77 0) 1262 78 (nI X.2.2)) 1262 52 0) 1262 53 0) 1262 80 (nI n)) 1311 f2) 1262 81 1) 1262 82 (nI X.2.2)) n y sg sd := by
      obtain ⟨⟨c1, c2⟩, c3, c4, c5⟩ := CM
      refine ⟨⟨?_, c2⟩, c3, fun k hk' => ?_, c5.cg (fun a h1 h2 => ?_) ?_ ?_⟩
      · simp (disch := decide) only [hi_nk, hi_hri_ne, hi_at]
      · simp (disch := decide) only [hi_hsi_ne, hi_hri_ne, hi_hri_eq]
        exact r3 k hk'
      · simp (maxSteps := 4000000) (disch := omega) only [hi_hsi_ne, hi_hri_ne]
      · simp only [hj_hsi, hj_hri]
      · simp (disch := decide) only [hi_nk, hi_hri_ne, and_self]
    refine ⟨f2, ?_, b3⟩
    unfold b_m_load_46
    refine o_pos has2 (r1.trans ?_)
    unfold ldX lmS
    refine o_bind eJ (o_pos one0 ?_)
    dsimp only
    have e8 : hi (hsi (hsi (hsi (hri (hsi m 1262 75 (nI n)) 1310 f) 1262 76 0) 1262 77 0) 1262 78 (nI X.2.2)) 1262 76 = 0 := by simp (disch := decide) only [hi_nk, hi_at]
    have e9 : hi (hsi (hsi (hsi (hri (hsi m 1262 75 (nI n)) 1310 f) 1262 76 0) 1262 77 0) 1262 78 (nI X.2.2)) 1262 77 = 0 := by simp (disch := decide) only [hi_nk, hi_at]
    have e10 : hi (hsi (hsi (hsi (hri (hsi m 1262 75 (nI n)) 1310 f) 1262 76 0) 1262 77 0) 1262 78 (nI X.2.2)) 1262 75 = nI n := by simp (disch := decide) only [hi_nk, hi_hri_ne, hi_at]
    rw [e8, e9, e10]
    exact b1.trans (o_bind (e_m_atRoot CR n4) rfl)
end Ld
