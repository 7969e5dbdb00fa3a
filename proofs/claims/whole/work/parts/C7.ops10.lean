/-! Calls: write, both sides -/

section Wr
variable {h g : XH} {S n a : Nat} {sg : SGT} {sd : Nat → Int64}
/-- the class writes, judges, stands at the root or takes it back -/
theorem c_write {x : Int32} {v : Int64} {q oo : Nat} (L : LY h) (hm : hz h < 900000) (hr0 : hr h 0 4 = some S) (Cs : CS h S sg sd) (W : WF sg sd) (hS : S + 616 ≤ 1244) (C : LC h g) (en : hi h 1256 1 = nI n) (hn' : n ≤ 4000) (z1 : f_r_locate S x h = some (1, g)) (e6 : hi g 1255 6 = nI 0) (e7 : hi g 1255 7 = nI oo) (e8 : hi g 1255 8 = nI q) (ho : oo < 11) (hq : q + bO oo ≤ n) (hv : ∃ r, f_t_isValue (nI oo) v g = some (r, g) ∧ ¬ r = 0) : ∃ f g3, (∀ j, j < bO oo → cb (hri g 1257 f) 1257 (q + j) = v8 v j) ∧ (∀ k, k < q ∨ q + bO oo ≤ k → f k = hi g 1257 k) ∧ KP (hri g 1257 f) g3 (hz h) ∧ hz g3 = hz h + 1 ∧ hw g3 = hw h + 6 ∧ LY g3 ∧ (¬ (jA sg (cb (hri g 1257 f) 1257) n).1 = 0 → ∃ f', f_t_write x v h = some (0, hri g3 1257 f') ∧ cb (hri g3 1257 f') 1257 = cb g 1257) ∧ ((jA sg (cb (hri g 1257 f) 1257) n).1 = 0 → f_t_write x v h = some (1, ENc (hsi g3 1255 5 (-1)) 0 (nI 3) (nI (sg 0 3)) (-1) (nI (nb (cb (hri g 1257 f) 1257) 4 0)))) := by
  obtain ⟨rv, v1, v2⟩ := hv
  have bb := bO_le oo
  have l := L.1
  have hzg : hz g = hz h := C.z.1
  have hwg : hw g = hw h := C.z.2.1
  have Lg : LY g := by rw [C.ly]; exact L
  have Bg := Lg.b1256
  have w0 := W.1
  have eN := e_b_number Bg (i := q) (k := bO oo) (by omega) (by omega)
  obtain ⟨f, eP, p1, p2⟩ := e_b_putNumber (v := v) Bg (i := q) (k := bO oo) (by omega) (by omega)
  have L2 : LY (hri g 1257 f) := by rw [LY_ri]; exact Lg
  have C2 : CS (hri g 1257 f) S sg sd := Cs.cg W (by show SC g S; rw [C.sc]; exact Cs.1) (fun a h1 h2 => by rw [hi_hri_ne (by omega)]; exact C.hi (by omega)) (fun a h1 h2 => by rw [hj_hri]; exact C.hj (by omega))
  have z2 : hz (hri g 1257 f) = hz h := hzg
  obtain ⟨g3, eA, K3, gz, gw, k5, -, -, -⟩ := e_judge (h := hri g 1257 f) (n := n) L2 (by omega) C2 W (by omega) L2.b1256 (by decide) (by decide) hn'
  have K4 : KP (hri g 1257 f) g3 (hz h) := by rw [← z2]; exact K3
  have w2 : hw (hri g 1257 f) = hw h := hwg
  have L3 : LY g3 := L2.keep (fun b hb => K3 b (by omega)) (by omega) (by omega)
  refine ⟨f, g3, p1, p2, K4, by omega, by omega, L3, ?_⟩
  have en2 : hi (hnew (hri g 1257 f) 5 6) 1256 1 = nI n := by
    rw [(hnew_kp (h := hri g 1257 f) (k := 5) (n := 6)).hi (by omega), hi_hri_ne (by decide), C.hi (by decide)]
    exact en
  have r2 : hr (hnew (hri g 1257 f) 5 6) 0 4 = some S := by
    rw [(hnew_kp (h := hri g 1257 f) (k := 5) (n := 6)).hr (by omega), hr_hri, C.z.2.2.2.2]
    exact hr0
  have kJ1 : hz (hri g 1257 f) < hz (hnew (hri g 1257 f) 5 6) := Nat.lt_succ_self _
  have kJ2 : hk (hnew (hri g 1257 f) 5 6) (hz (hri g 1257 f)) = 5 := hnew_k
  have kI1 : hz (hri g 1257 f) < hz (jI (hri g 1257 f) S 1256 (nI n)) := Nat.lt_succ_self _
  have kI2 : hk (jI (hri g 1257 f) S 1256 (nI n)) (hz (hri g 1257 f)) = 5 := hnew_k (n := 6)
  have eI := e_j_init (h := hri g 1257 f) (S := S) (b := 1256) (x := nI n) (by omega)
  have step : ∀ {X : Option (Int32 × XH)}, (if ¬ (jb (jA sg (cb (hri g 1257 f) 1257) n).1 : Int32) = 0 then (Option.bind (hr g3 0 4) fun b35 => (if b35 < hz g3 ∧ hk g3 b35 = 9 then (Option.bind (f_r_goToRoot (hi g3 b35 5) g3) fun r38 => (some ((1 : Int32), r38.2))) else none)) else (Option.bind (f_b_putNumber 1256 (nI q) (nI (bO oo)) (lN (nb (cb g 1257) (bO oo) q)) g3) fun r41 => (some (0, r41.2)))) = X → f_t_write x v h = X := by
    intro X hX
    unfold f_t_write
    refine o_bind hr0 (o_bind z1 (o_neg one0 (o_neg (not_not_intro e6) (o_neg (by rw [e8]; exact nI_n1 (by omega)) ?_))))
    dsimp only
    rw [e7]
    refine o_bind v1 (o_pos v2 ?_)
    dsimp only
    rw [e7, e8]
    refine o_bind (e_t_scalarBytes ho) (o_bind eN (o_bind eP (o_pos (show hz (hri g 1257 f) < 1000000 by omega) (o_bind r2 (o_pos ⟨kJ1, kJ2⟩ ?_)))))
    dsimp only
    rw [en2]
    exact o_bind eI (o_pos ⟨kI1, kI2⟩ (o_bind eA hX))
  have hr3 : hr g3 0 4 = some S := by rw [K3.hr (by omega), hr_hri, C.z.2.2.2.2]; exact hr0
  have s3 : S < hz g3 := by have := Cs.1.1; omega
  have k93 : hk g3 S = 9 := by
    rw [(K3 S (by have := Cs.1.1; omega)).1]
    exact C2.1.2.2.1
  have ro : hi g3 S 5 = nI (sg 0 3) := by rw [K3.hi (by have := Cs.1.1; omega)]; exact C2.2.1.2.2.2
  have row3 : hi g3 1257 = f := by rw [K3.hi (by omega), hi_hri_eq]
  refine ⟨fun z => ?_, fun z => ?_⟩
  · obtain ⟨f', eP2, p3, p4⟩ := e_b_putNumber (h := g3) (v := lN (nb (cb g 1257) (bO oo) q)) L3.b1256 (i := q) (k := bO oo) (by omega) (by omega)
    refine ⟨f', step (o_neg (by rw [jb0]; exact fun w => w z) (o_bind eP2 rfl)), ?_⟩
    funext k
    by_cases c : k < q ∨ q + bO oo ≤ k
    · have : f' k = hi g 1257 k := by rw [p4 k c, row3, p2 k c]
      unfold cb
      rw [hi_hri_eq, this]
    · have z3 := p3 (k - q) (by omega)
      rw [show q + (k - q) = k by omega, v8_lN (cb_lt g 1257) (by omega) (by omega), show q + (k - q) = k by omega] at z3
      exact z3
  · refine step (o_pos (jb_n z) (o_bind hr3 (o_pos ⟨s3, k93⟩ ?_)))
    rw [ro]
    have eG := e_r_goToRoot (h := g3) (root := nI (sg 0 3)) L3.b1256
    rw [cb_of (row3.trans hi_hri_eq.symm : hi g3 1257 = hi (hri g 1257 f) 1257)] at eG
    exact o_bind eG rfl
theorem write_no {x : Int32} {v : Int64} (H : RA h S sg sd) (C : LC h g) (e5 : hi g 1255 5 = hi h 1255 5) (z1 : f_t_write x v h = some (0, g)) (z2 : f_m_write x v g = some (0, hsi g 1262 0 0)) : ∃ r h1 h2, f_t_write x v h = some (r, h1) ∧ f_m_write x v h1 = some (r, h2) ∧ RX h2 ∧ RM h h2 := ⟨0, g, _, z1, z2, ⟨S, sg, sd, (H.lc C e5).th⟩, RM.lc C⟩
end Wr
