/-! A schema, as both sides hold it: sg (naturals), sd (what stands in for a field that isn't there) -/
abbrev SGT : Type := Nat → Nat → Nat
def dS (S s : Nat) : Nat := S + 1 + 2 + s * (12 + 4)
def dT (S t : Nat) : Nat := S + 195 + 2 + t * (16 + 4)
def dU (S u : Nat) : Nat := S + 517 + 2 + u * (8 + 4)
/-- bytes of a scalar -/
def bO (x : Nat) : Nat := if x ≤ 2 then 1 else if x ≤ 4 then 2 else if x ≤ 6 ∨ x = 9 then 4 else 8
def zO (sg : SGT) (so o : Nat) : Nat := if so = 0 then bO o else if so = 2 then sg 2 o else 4
def aO (sg : SGT) (so o : Nat) : Nat := if so = 0 then bO o else if so = 2 then sg 3 o else 4
theorem bO_le (x : Nat) : 1 ≤ bO x ∧ bO x ≤ 8 ∧ (bO x = 1 ∨ bO x = 2 ∨ bO x = 4 ∨ bO x = 8) := by
  unfold bO
  split
  · simp
  · split
    · simp
    · split <;> simp
/-- the class's schema at S -/
def CS (h : XH) (S : Nat) (sg : SGT) (sd : Nat → Int64) : Prop :=
  SC h S ∧ (hi h (S + 1) 1 = nI (sg 0 0) ∧ hi h (S + 195) 1 = nI (sg 0 1) ∧ hi h (S + 517) 1 = nI (sg 0 2) ∧ hi h S 5 = nI (sg 0 3)) ∧
  (∀ s, s < sg 0 0 → (hi h (dS S s) 3 = nI (sg 1 s) ∧ hi h (dS S s) 6 = nI (sg 2 s) ∧ hi h (dS S s) 7 = nI (sg 3 s) ∧ hi h (dS S s) 11 = nI (sg 7 s)) ∧
    (∀ f, f < sg 1 s → hi h (dS S s + 2 + f) 3 = nI (sg 4 (12 * s + f)) ∧ hi h (dS S s + 2 + f) 4 = nI (sg 5 (12 * s + f)) ∧ hi h (dS S s + 2 + f) 5 = -1 ∧ hi h (dS S s + 2 + f) 6 = nI (sg 6 (12 * s + f)) ∧ hi h (dS S s + 2 + f) 7 = 0) ∧
    ∀ k, k < sg 7 s → hi h (dS S s + 2 + 12) k = nI (sg 8 (128 * s + k)) ∧ hi h (dS S s + 3 + 12) k = nI (sg 9 (128 * s + k))) ∧
  (∀ t, t < sg 0 1 → (hi h (dT S t) 3 = nI (sg 10 t) ∧ hi h (dT S t) 8 = nI (sg 11 t)) ∧
    ∀ f, f < sg 10 t → hi h (dT S t + 2 + f) 3 = nI (sg 12 (16 * t + f)) ∧ hi h (dT S t + 2 + f) 4 = nI (sg 13 (16 * t + f)) ∧ hi h (dT S t + 2 + f) 5 = nI (sg 14 (16 * t + f)) - 1 ∧ hi h (dT S t + 2 + f) 6 = nI (sg 15 (16 * t + f)) ∧ hi h (dT S t + 2 + f) 7 = nI (sg 16 (16 * t + f)) ∧ hj h (dT S t + 2 + f) 8 = sd (16 * t + f)) ∧
  (∀ u, u < sg 0 2 → hi h (dU S u) 3 = nI (sg 17 u) ∧ ∀ m, m < sg 17 u → hi h (dU S u + 2 + m) 4 = nI (sg 18 (8 * u + m)))
/-- the model's -/
def MS (h : XH) (sg : SGT) (sd : Nat → Int64) : Prop :=
  (hi h 1262 20 = nI (sg 0 0) ∧ hi h 1262 31 = nI (sg 0 1) ∧ hi h 1262 41 = nI (sg 0 2) ∧ hi h 1262 45 = nI (sg 0 3)) ∧
  (∀ s, s < sg 0 0 → (hi h 1273 s = nI (sg 1 s) ∧ hi h 1274 s = nI (sg 2 s) ∧ hi h 1275 s = nI (sg 3 s) ∧ hi h 1280 s = nI (sg 7 s)) ∧
    (∀ f, f < sg 1 s → hi h 1277 (12 * s + f) = nI (sg 4 (12 * s + f)) ∧ hi h 1278 (12 * s + f) = nI (sg 5 (12 * s + f)) ∧ hi h 1279 (12 * s + f) = nI (sg 6 (12 * s + f))) ∧
    ∀ k, k < sg 7 s → hi h 1281 (128 * s + k) = nI (sg 8 (128 * s + k)) ∧ hi h 1282 (128 * s + k) = nI (sg 9 (128 * s + k))) ∧
  (∀ t, t < sg 0 1 → (hi h 1283 t = nI (sg 10 t) ∧ hi h 1284 t = nI (sg 11 t)) ∧
    ∀ f, f < sg 10 t → hi h 1286 (16 * t + f) = nI (sg 12 (16 * t + f)) ∧ hi h 1287 (16 * t + f) = nI (sg 13 (16 * t + f)) ∧ hi h 1288 (16 * t + f) = nI (sg 14 (16 * t + f)) - 1 ∧ hi h 1289 (16 * t + f) = nI (sg 15 (16 * t + f)) ∧ hi h 1290 (16 * t + f) = nI (sg 16 (16 * t + f)) ∧ hj h 1291 (16 * t + f) = sd (16 * t + f)) ∧
  (∀ u, u < sg 0 2 → hi h 1292 u = nI (sg 17 u) ∧ ∀ m, m < sg 17 u → hi h 1294 (8 * u + m) = nI (sg 18 (8 * u + m)))
/-- a sort with its number: what it may be -/
def oK (sg : SGT) (so o : Nat) : Prop := (so = 0 ∧ o < 11) ∨ (so = 1 ∧ o = 0) ∨ (so = 2 ∧ o < sg 0 0) ∨ (so = 3 ∧ o < sg 0 1)
/-- what a schema keeps to -/
def WF (sg : SGT) (sd : Nat → Int64) : Prop :=
  (sg 0 0 ≤ 12 ∧ sg 0 1 ≤ 16 ∧ sg 0 2 ≤ 8 ∧ sg 0 3 < sg 0 1) ∧
  (∀ s, s < sg 0 0 → (1 ≤ sg 1 s ∧ sg 1 s ≤ 12 ∧ 1 ≤ sg 2 s ∧ sg 2 s ≤ 128 ∧ (sg 3 s = 1 ∨ sg 3 s = 2 ∨ sg 3 s = 4 ∨ sg 3 s = 8) ∧ 1 ≤ sg 7 s ∧ sg 7 s ≤ 128) ∧
    (∀ f, f < sg 1 s → (sg 4 (12 * s + f) = 0 ∧ sg 5 (12 * s + f) < 11 ∧ sg 6 (12 * s + f) + bO (sg 5 (12 * s + f)) ≤ sg 2 s) ∨ (sg 4 (12 * s + f) = 2 ∧ sg 5 (12 * s + f) < s ∧ sg 6 (12 * s + f) + sg 2 (sg 5 (12 * s + f)) ≤ sg 2 s)) ∧
    (∀ k, k < sg 7 s → sg 8 (128 * s + k) < 11 ∧ sg 9 (128 * s + k) + bO (sg 8 (128 * s + k)) ≤ sg 2 s) ∧
    ∀ k, k + 1 < sg 7 s → sg 9 (128 * s + k) + bO (sg 8 (128 * s + k)) ≤ sg 9 (128 * s + (k + 1))) ∧
  (∀ t, t < sg 0 1 → sg 10 t ≤ 16 ∧ sg 11 t ≤ 32 ∧
    ∀ f, f < sg 10 t → sg 16 (16 * t + f) ≤ 1 ∧ (sg 12 (16 * t + f) ≠ 0 → sd (16 * t + f) = 0) ∧ sg 15 (16 * t + f) + (if sg 12 (16 * t + f) = 4 then 2 else 1) ≤ sg 11 t ∧
      ((sg 14 (16 * t + f) = 0 ∧ sg 12 (16 * t + f) = 4 ∧ sg 13 (16 * t + f) < sg 0 2) ∨ (sg 14 (16 * t + f) = 0 ∧ oK sg (sg 12 (16 * t + f)) (sg 13 (16 * t + f))) ∨ (1 ≤ sg 14 (16 * t + f) ∧ sg 12 (16 * t + f) = 5 ∧ oK sg (sg 14 (16 * t + f) - 1) (sg 13 (16 * t + f))))) ∧
  (∀ u, u < sg 0 2 → 1 ≤ sg 17 u ∧ sg 17 u ≤ 8 ∧ ∀ m, m < sg 17 u → sg 18 (8 * u + m) < sg 0 1)
theorem zO_le {sg : SGT} {sd : Nat → Int64} (W : WF sg sd) {so o : Nat} (k : oK sg so o ∨ so = 4 ∨ so = 5) : 1 ≤ zO sg so o ∧ zO sg so o ≤ 128 := by
  have b := bO_le o
  unfold zO
  split
  · omega
  · split
    · rename_i h1 h2
      have w := (W.2.1 o (by rcases k with (⟨e, -⟩ | ⟨e, -⟩ | ⟨-, k⟩ | ⟨e, -⟩) | e | e <;> omega)).1
      omega
    · omega
theorem aO_ok {sg : SGT} {sd : Nat → Int64} (W : WF sg sd) {so o : Nat} (k : oK sg so o ∨ so = 4 ∨ so = 5) : aO sg so o = 1 ∨ aO sg so o = 2 ∨ aO sg so o = 4 ∨ aO sg so o = 8 := by
  have b := bO_le o
  unfold aO
  split
  · omega
  · split
    · rename_i h1 h2
      have w := (W.2.1 o (by rcases k with (⟨e, -⟩ | ⟨e, -⟩ | ⟨-, k⟩ | ⟨e, -⟩) | e | e <;> omega)).1
      omega
    · omega
/-! rows, definitions, fields of the class -/
theorem e_d_fieldAt {h : XH} {a F LN n f : Nat} (D : DF h a F LN) (e : hi h a 3 = nI n) (hn' : n ≤ F) (hf : f < n) : f_d_fieldAt a (nI f) h = some (some (a + 2 + f), h) := by
  obtain ⟨d1, d2, d3, d4, d5, d6, d7, d8, d9, d10, d11, d12, d13, d14, d15⟩ := D
  have h1 : a < hz h := by omega
  have h2 : a + 1 < hz h := by omega
  have h3 : ¬ n ≤ f := by omega
  have h4 : ¬ F ≤ f := by omega
  have h5 : f < F := by omega
  have h6 : F < 2 ^ 31 := by omega
  unfold f_d_fieldAt
  simp (maxSteps := 4000000) (disch := omega) only [h1, h2, h3, h4, h5, h6, d5, d6, d7, d8, e, (d9 f h5).1, eq_self, Classical.not_not, Option.bind_some, Option.elim_some, Option.elim_none, true_and, and_true, and_self, false_and, and_false, true_or, or_true, or_false, false_or, not_true_eq_false, not_false_eq_true, ↓reduceIte, Nat.reduceEqDiff, ne_eq, nI_ltI, nI_leI, nI_eq, nI_clamp, nI_add, pk_sub, pk_mul, nI_ne1, ne1_nI, nI_pge, nI_nlt0, nI_l, lN_i, lN_add, lN_mul, lN_sub, pk_lLT, pk_lLE, pk_lEQ, lg_lt, lg_ge, lg_eq0, lg_le, lg_gt, lg_ltn, lg_gen, lg_eq0n, lg_len, lg_gtn, Nat.zero_le, Nat.not_lt_zero, not_false_eq_true, not_true_eq_false]
  rfl
theorem e_d_fieldAtN {h : XH} {a F LN n : Nat} {x : Int32} (D : DF h a F LN) (e : hi h a 3 = nI n) (hn' : n ≤ F) (hx : x < 0 ∨ nI n ≤ x) : f_d_fieldAt a x h = some (none, h) := by
  obtain ⟨d1, d2, d3, d4, d5, d6, d7, d8, d9, d10, d11, d12, d13, d14, d15⟩ := D
  have h1 : a < hz h := by omega
  unfold f_d_fieldAt b_d_fieldAt_30 b_d_fieldAt_31
  by_cases q : x < 0
  · rw [if_pos q]
  · rw [if_neg q, if_pos ⟨h1, d5⟩, e, if_pos (hx.resolve_left q)]
theorem e_g_at {h : XH} {g M F LN n i : Nat} (D : GR h g M F LN) (e : hi h g 1 = nI n) (hn' : n ≤ M) (hf : i < n) : f_g_at g (nI i) h = some (some (g + 2 + i * (F + 4)), h) := by
  obtain ⟨d1, d2, d3, d4, d5, d6, d7, d8⟩ := D
  have h1 : g < hz h := by omega
  have h2 : g + 1 < hz h := by omega
  have h3 : ¬ n ≤ i := by omega
  have h4 : ¬ M ≤ i := by omega
  have h5 : i < M := by omega
  have h6 : M < 2 ^ 31 := by omega
  unfold f_g_at
  simp (maxSteps := 4000000) (disch := omega) only [h1, h2, h3, h4, h5, h6, d4, d5, d6, d7, e, (d8 i h5).1, eq_self, Classical.not_not, Option.bind_some, Option.elim_some, Option.elim_none, true_and, and_true, and_self, false_and, and_false, true_or, or_true, or_false, false_or, not_true_eq_false, not_false_eq_true, ↓reduceIte, Nat.reduceEqDiff, ne_eq, nI_ltI, nI_leI, nI_eq, nI_clamp, nI_add, pk_sub, pk_mul, nI_ne1, ne1_nI, nI_pge, nI_nlt0, nI_l, lN_i, lN_add, lN_mul, lN_sub, pk_lLT, pk_lLE, pk_lEQ, lg_lt, lg_ge, lg_eq0, lg_le, lg_gt, lg_ltn, lg_gen, lg_eq0n, lg_len, lg_gtn, Nat.zero_le, Nat.not_lt_zero, not_false_eq_true, not_true_eq_false]
  rfl
theorem e_g_atN {h : XH} {g M F LN n : Nat} {x : Int32} (D : GR h g M F LN) (e : hi h g 1 = nI n) (hx : x < 0 ∨ nI n ≤ x) : f_g_at g x h = some (none, h) := by
  obtain ⟨d1, d2, d3, d4, d5, d6, d7, d8⟩ := D
  have h1 : g < hz h := by omega
  unfold f_g_at b_g_at_30 b_g_at_31
  by_cases q : x < 0
  · rw [if_pos q]
  · rw [if_neg q, if_pos ⟨h1, d4⟩, e, if_pos (hx.resolve_left q)]
theorem SC.gS {h : XH} {S : Nat} (D : SC h S) : GR h (S + 1) 12 12 128 := D.2.2.2.2.2.2.2.2.2.1
theorem SC.gT {h : XH} {S : Nat} (D : SC h S) : GR h (S + 195) 16 16 0 := D.2.2.2.2.2.2.2.2.2.2.1
theorem SC.gU {h : XH} {S : Nat} (D : SC h S) : GR h (S + 517) 8 8 0 := D.2.2.2.2.2.2.2.2.2.2.2
theorem SC.ddS {h : XH} {S s : Nat} (D : SC h S) (hs : s < 12) : DF h (dS S s) 12 128 := (D.gS.2.2.2.2.2.2.2 s hs).2
theorem SC.ddT {h : XH} {S s : Nat} (D : SC h S) (hs : s < 16) : DF h (dT S s) 16 0 := (D.gT.2.2.2.2.2.2.2 s hs).2
theorem SC.ddU {h : XH} {S s : Nat} (D : SC h S) (hs : s < 8) : DF h (dU S s) 8 0 := (D.gU.2.2.2.2.2.2.2 s hs).2
section CSRows
variable {h : XH} {S : Nat} {sg : SGT} {sd : Nat → Int64}
theorem CS.atS (C : CS h S sg sd) (W : WF sg sd) {s : Nat} (hs : s < sg 0 0) : f_g_at (S + 1) (nI s) h = some (some (dS S s), h) := e_g_at C.1.gS C.2.1.1 W.1.1 hs
theorem CS.atT (C : CS h S sg sd) (W : WF sg sd) {s : Nat} (hs : s < sg 0 1) : f_g_at (S + 195) (nI s) h = some (some (dT S s), h) := e_g_at C.1.gT C.2.1.2.1 W.1.2.1 hs
theorem CS.atU (C : CS h S sg sd) (W : WF sg sd) {s : Nat} (hs : s < sg 0 2) : f_g_at (S + 517) (nI s) h = some (some (dU S s), h) := e_g_at C.1.gU C.2.1.2.2.1 W.1.2.2.1 hs
theorem CS.fS (C : CS h S sg sd) (W : WF sg sd) {s f : Nat} (hs : s < sg 0 0) (hf : f < sg 1 s) : f_d_fieldAt (dS S s) (nI f) h = some (some (dS S s + 2 + f), h) := e_d_fieldAt (C.1.ddS (Nat.lt_of_lt_of_le hs W.1.1)) (C.2.2.1 s hs).1.1 (W.2.1 s hs).1.2.1 hf
theorem CS.fT (C : CS h S sg sd) (W : WF sg sd) {s f : Nat} (hs : s < sg 0 1) (hf : f < sg 10 s) : f_d_fieldAt (dT S s) (nI f) h = some (some (dT S s + 2 + f), h) := e_d_fieldAt (C.1.ddT (Nat.lt_of_lt_of_le hs W.1.2.1)) (C.2.2.2.1 s hs).1.1 (W.2.2.1 s hs).1 hf
theorem CS.fU (C : CS h S sg sd) (W : WF sg sd) {s f : Nat} (hs : s < sg 0 2) (hf : f < sg 17 s) : f_d_fieldAt (dU S s) (nI f) h = some (some (dU S s + 2 + f), h) := e_d_fieldAt (C.1.ddU (Nat.lt_of_lt_of_le hs W.1.2.2.1)) (C.2.2.2.2 s hs).1 (W.2.2.2 s hs).2.1 hf
end CSRows
/-- sizes of scalars, both sides -/
theorem e_t_scalarBytes {h : XH} {o : Nat} (ho : o < 11) : f_t_scalarBytes (nI o) h = some (nI (bO o), h) := by
  have q : ∀ o, o < 11 → f_t_scalarBytes (nI o) h = some (nI (bO o), h) := by
    intro o ho
    have c : o = 0 ∨ o = 1 ∨ o = 2 ∨ o = 3 ∨ o = 4 ∨ o = 5 ∨ o = 6 ∨ o = 7 ∨ o = 8 ∨ o = 9 ∨ o = 10 := by omega
    rcases c with e | e | e | e | e | e | e | e | e | e | e <;> subst e <;> rfl
  exact q o ho
theorem e_m_bytesOf {h : XH} {o : Nat} (ho : o < 11) : f_m_bytesOf (nI o) h = some (nI (bO o), h) := by
  have c : o = 0 ∨ o = 1 ∨ o = 2 ∨ o = 3 ∨ o = 4 ∨ o = 5 ∨ o = 6 ∨ o = 7 ∨ o = 8 ∨ o = 9 ∨ o = 10 := by omega
  rcases c with e | e | e | e | e | e | e | e | e | e | e <;> subst e <;> rfl
theorem e_s_bytesOf {h : XH} {S : Nat} {sg : SGT} {sd : Nat → Int64} (C : CS h S sg sd) (W : WF sg sd) {so o : Nat} (k : oK sg so o ∨ so = 4 ∨ so = 5) : f_s_bytesOf S (nI so) (nI o) h = some (nI (zO sg so o), h) := by
  have hs5 : so ≤ 5 := by rcases k with (⟨e, -⟩ | ⟨e, -⟩ | ⟨e, -⟩ | ⟨e, -⟩) | e | e <;> omega
  have s1 : S < hz h := by have := C.1.1; omega
  have s2 : S + 1 < hz h := by have := C.1.1; omega
  have g4 : hk h (S + 1) = 4 := C.1.gS.2.2.2.1
  have r0 : hr h S 0 = some (S + 1) := C.1.2.2.2.1
  have k9 : hk h S = 9 := C.1.2.2.1
  unfold f_s_bytesOf b_s_bytesOf_26 zO
  by_cases e0 : so = 0
  · subst e0
    have ho : o < 11 := by rcases k with (⟨e, k⟩ | ⟨e, -⟩ | ⟨e, -⟩ | ⟨e, -⟩) | e | e <;> omega
    rw [if_neg (not_not_intro nI_0), if_pos rfl, e_t_scalarBytes ho]
    rfl
  · rw [if_pos (nI_ne0 (by omega) (by omega)), if_neg e0]
    by_cases e2 : so = 2
    · subst e2
      have ho : o < sg 0 0 := by rcases k with (⟨e, -⟩ | ⟨e, -⟩ | ⟨-, k⟩ | ⟨e, -⟩) | e | e <;> omega
      have D := C.1.ddS (s := o) (Nat.lt_of_lt_of_le ho W.1.1)
      have d1 : dS S o < hz h := by have := D.1; omega
      rw [if_neg (show ¬ ¬ nI 2 = 2 from not_not_intro rfl), if_pos rfl, if_pos ⟨s1, k9⟩, r0]
      simp only [eq_self, Classical.not_not, Option.bind_some, Option.elim_some, Option.elim_none, true_and, and_true, and_self, false_and, and_false, true_or, or_true, or_false, false_or, not_true_eq_false, not_false_eq_true, ↓reduceIte, Nat.reduceEqDiff, ne_eq, s2, g4, C.atS W ho, d1, D.2.2.2.2.1, (C.2.2.1 o ho).1.2.1]
    · rw [if_pos (show ¬ nI so = 2 from fun z => e2 ((nI_eq (b := 2) (by omega) (by omega)).mp z)), if_neg e2]
      rfl
theorem e_s_alignmentOf {h : XH} {S : Nat} {sg : SGT} {sd : Nat → Int64} (C : CS h S sg sd) (W : WF sg sd) {so o : Nat} (k : oK sg so o ∨ so = 4 ∨ so = 5) : f_s_alignmentOf S (nI so) (nI o) h = some (nI (aO sg so o), h) := by
  have hs5 : so ≤ 5 := by rcases k with (⟨e, -⟩ | ⟨e, -⟩ | ⟨e, -⟩ | ⟨e, -⟩) | e | e <;> omega
  have s1 : S < hz h := by have := C.1.1; omega
  have s2 : S + 1 < hz h := by have := C.1.1; omega
  have g4 : hk h (S + 1) = 4 := C.1.gS.2.2.2.1
  have r0 : hr h S 0 = some (S + 1) := C.1.2.2.2.1
  have k9 : hk h S = 9 := C.1.2.2.1
  unfold f_s_alignmentOf b_s_alignmentOf_26 aO
  by_cases e0 : so = 0
  · subst e0
    have ho : o < 11 := by rcases k with (⟨e, k⟩ | ⟨e, -⟩ | ⟨e, -⟩ | ⟨e, -⟩) | e | e <;> omega
    rw [if_neg (not_not_intro nI_0), if_pos rfl, e_t_scalarBytes ho]
    rfl
  · rw [if_pos (nI_ne0 (by omega) (by omega)), if_neg e0]
    by_cases e2 : so = 2
    · subst e2
      have ho : o < sg 0 0 := by rcases k with (⟨e, -⟩ | ⟨e, -⟩ | ⟨-, k⟩ | ⟨e, -⟩) | e | e <;> omega
      have D := C.1.ddS (s := o) (Nat.lt_of_lt_of_le ho W.1.1)
      have d1 : dS S o < hz h := by have := D.1; omega
      rw [if_neg (show ¬ ¬ nI 2 = 2 from not_not_intro rfl), if_pos rfl, if_pos ⟨s1, k9⟩, r0]
      simp only [eq_self, Classical.not_not, Option.bind_some, Option.elim_some, Option.elim_none, true_and, and_true, and_self, false_and, and_false, true_or, or_true, or_false, false_or, not_true_eq_false, not_false_eq_true, ↓reduceIte, Nat.reduceEqDiff, ne_eq, s2, g4, C.atS W ho, d1, D.2.2.2.2.1, (C.2.2.1 o ho).1.2.2.1]
    · rw [if_pos (show ¬ nI so = 2 from fun z => e2 ((nI_eq (b := 2) (by omega) (by omega)).mp z)), if_neg e2]
      rfl
