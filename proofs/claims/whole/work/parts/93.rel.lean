/-! The class's cells beside the model's: tape, values, out, faults -/
/-- the tape -/
def RT (h : XH) : Prop := ∃ n : Nat, n ≤ 4000 ∧ hi h 1 1 = nI n ∧ hi h 1262 2 = nI n ∧ ∀ k, k < n → hi h 2 k &&& 255 = hi h 1263 k
/-- the values -/
def RV (h : XH) : Prop := ∃ n : Nat, n ≤ 600 ∧ hi h 5 1 = nI n ∧ hi h 1262 55 = nI n ∧ ∀ k, k < n → hj h 6 k = hj h 1298 k
/-- the out -/
def RO (h : XH) : Prop := ∃ n : Nat, n ≤ 4000 ∧ hi h 3 1 = nI n ∧ hi h 1262 72 = nI n ∧ ∀ k, k < n → hi h 4 k &&& 255 = hi h 1308 k
/-- the faults -/
def RF (h : XH) : Prop := hi h 0 8 = hi h 1262 50 ∧ hi h 0 9 = hi h 1262 51 ∧ hi h 0 10 = hi h 1262 52 ∧ hi h 0 11 = hi h 1262 53 ∧ hi h 0 12 = hi h 1262 82
theorem RT.cg {h g : XH} (H : RT h) (e1 : hi g 1 1 = hi h 1 1) (e2 : hi g 1262 2 = hi h 1262 2) (e3 : ∀ k, hi g 2 k = hi h 2 k) (e4 : ∀ k, hi g 1263 k = hi h 1263 k) : RT g := by
  obtain ⟨n, a, b, c, d⟩ := H
  exact ⟨n, a, e1.trans b, e2.trans c, fun k hk' => by rw [e3, e4]; exact d k hk'⟩
theorem RV.cg {h g : XH} (H : RV h) (e1 : hi g 5 1 = hi h 5 1) (e2 : hi g 1262 55 = hi h 1262 55) (e3 : ∀ k, hj g 6 k = hj h 6 k) (e4 : ∀ k, hj g 1298 k = hj h 1298 k) : RV g := by
  obtain ⟨n, a, b, c, d⟩ := H
  exact ⟨n, a, e1.trans b, e2.trans c, fun k hk' => by rw [e3, e4]; exact d k hk'⟩
theorem RO.cg {h g : XH} (H : RO h) (e1 : hi g 3 1 = hi h 3 1) (e2 : hi g 1262 72 = hi h 1262 72) (e3 : ∀ k, hi g 4 k = hi h 4 k) (e4 : ∀ k, hi g 1308 k = hi h 1308 k) : RO g := by
  obtain ⟨n, a, b, c, d⟩ := H
  exact ⟨n, a, e1.trans b, e2.trans c, fun k hk' => by rw [e3, e4]; exact d k hk'⟩
theorem RF.cg {h g : XH} (H : RF h) (e1 : ∀ k, 8 ≤ k → k ≤ 12 → hi g 0 k = hi h 0 k) (e2 : ∀ k, (50 ≤ k ∧ k ≤ 53) ∨ k = 82 → hi g 1262 k = hi h 1262 k) : RF g := by
  obtain ⟨a, b, c, d, e⟩ := H
  exact ⟨(e1 8 (by decide) (by decide)).trans (a.trans (e2 50 (by decide)).symm), (e1 9 (by decide) (by decide)).trans (b.trans (e2 51 (by decide)).symm), (e1 10 (by decide) (by decide)).trans (c.trans (e2 52 (by decide)).symm), (e1 11 (by decide) (by decide)).trans (d.trans (e2 53 (by decide)).symm), (e1 12 (by decide) (by decide)).trans (e.trans (e2 82 (by decide)).symm)⟩
/-- push: the class -/
theorem e_w_add {h : XH} {n : Nat} {x : Int64} (L : LY h) (e : hi h 5 1 = nI n) (hn' : n ≤ 600) : f_w_add 5 x h = if n = 600 then some (-1, h) else some (nI (n + 1), hsi (hsj h 6 n x) 5 1 (nI (n + 1))) := by
  unfold f_w_add
  rw [if_pos ⟨L.lt (by decide), L.k5⟩, e, if_neg (nI_pos (by omega)), L.r5_0]
  show (if 6 < hz h ∧ hk h 6 = 101 then _ else _) = _
  rw [if_pos ⟨L.lt (by decide), L.k6⟩, L.n6]
  by_cases q : n = 600
  · subst q
    rw [if_neg (nI_nlt (Nat.le_refl _) (by decide)), if_pos rfl]
  · rw [if_pos (nI_lt (by omega) (by decide)), if_pos ⟨nI_pos' (by omega), nI_lt (by omega) (by decide), by decide⟩, if_neg q, nI_clamp (by omega), nI_1]
theorem e_m_push {h : XH} {n : Nat} {x : Int64} (e : hi h 1262 55 = nI n) (hn' : n ≤ 600) : f_m_push x h = if n = 600 then some (-1, hsi h 1262 0 0) else some (nI (n + 1), hsi (hsj (hsi h 1262 0 0) 1298 n x) 1262 55 (nI (n + 1))) := by
  unfold f_m_push
  rw [e]
  by_cases q : n = 600
  · subst q
    rw [if_neg (by decide), if_pos rfl]
  · rw [if_pos (fun z => q ((nI_eq (a := n) (b := 600) (by omega) (by decide)).mp z)), if_pos ⟨nI_pos' (by omega), nI_lt (by omega) (by decide)⟩, if_neg q, nI_clamp (by omega), nI_1]
