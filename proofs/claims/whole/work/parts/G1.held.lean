/-! The parsers: what both hold while they read -/

def DA (S es et eu ad so no : Nat) : Prop := (so = 2 ∧ no < es ∧ ad = dS S no) ∨ (so = 3 ∧ no < et ∧ ad = dT S no) ∨ (so = 4 ∧ no < eu ∧ ad = dU S no)
/-- a definition -/
def DE (c S es et eu : Nat) (g h : XH) (d : Nat) : Prop := ∃ ad so no, hr g (S + 615) d = some ad ∧ DA S es et eu ad so no ∧ hi h 1271 d = nI so ∧ hi h 1272 d = nI no ∧ NAq c g (hi h 1270 d) (hj g ad 4) (hj g ad 5)
/-- a struct -/
def SD (c S : Nat) (g h : XH) (s : Nat) : Prop := ∃ (n z al m : Nat) (so o pl lo lp : Nat → Nat),
  (hi g (dS S s) 3 = nI n ∧ hi g (dS S s) 6 = nI z ∧ hi g (dS S s) 7 = nI al ∧ hi g (dS S s) 11 = nI m) ∧
  (hi h 1273 s = nI n ∧ hi h 1274 s = nI z ∧ hi h 1275 s = nI al ∧ hi h 1280 s = nI m) ∧
  (∀ f, f < n → (hi g (dS S s + 2 + f) 3 = nI (so f) ∧ hi g (dS S s + 2 + f) 4 = nI (o f) ∧ hi g (dS S s + 2 + f) 5 = -1 ∧ hi g (dS S s + 2 + f) 6 = nI (pl f) ∧ hi g (dS S s + 2 + f) 7 = 0) ∧ (hi h 1277 (12 * s + f) = nI (so f) ∧ hi h 1278 (12 * s + f) = nI (o f) ∧ hi h 1279 (12 * s + f) = nI (pl f)) ∧ NAq c g (hi h 1276 (12 * s + f)) (hj g (dS S s + 2 + f) 0) (hj g (dS S s + 2 + f) 1) ∧ ((so f = 0 ∧ o f < 11 ∧ pl f + bO (o f) ≤ z) ∨ (so f = 2 ∧ o f < s ∧ ∃ z', hi h 1274 (o f) = nI z' ∧ z' ≤ 128 ∧ pl f + z' ≤ z))) ∧
  (∀ k, k < m → (hi g (dS S s + 2 + 12) k = nI (lo k) ∧ hi g (dS S s + 3 + 12) k = nI (lp k)) ∧ (hi h 1281 (128 * s + k) = nI (lo k) ∧ hi h 1282 (128 * s + k) = nI (lp k)) ∧ lo k < 11 ∧ lp k + bO (lo k) ≤ z) ∧
  (∀ k, k + 1 < m → lp k + bO (lo k) ≤ lp (k + 1)) ∧
  (1 ≤ n ∧ n ≤ 12 ∧ 1 ≤ z ∧ z ≤ 128 ∧ (al = 1 ∨ al = 2 ∨ al = 4 ∨ al = 8) ∧ 1 ≤ m ∧ m ≤ z)
def oQ (es et so o : Nat) : Prop := (so = 0 ∧ o < 11) ∨ (so = 1 ∧ o = 0) ∨ (so = 2 ∧ o < es) ∨ (so = 3 ∧ o < et)
/-- a table's field whose type is known: the class's at a, the model's at j -/
def TFk (es et eu : Nat) (g h : XH) (a j : Nat) : Prop := ∃ so o e : Nat, (hi g a 3 = nI so ∧ hi g a 4 = nI o ∧ hi g a 5 = nI e - 1) ∧ (hi h 1286 j = nI so ∧ hi h 1287 j = nI o ∧ hi h 1288 j = nI e - 1) ∧ (so ≠ 0 → hj h 1291 j = 0) ∧ ((e = 0 ∧ so = 4 ∧ o < eu) ∨ (e = 0 ∧ oQ es et so o) ∨ (1 ≤ e ∧ so = 5 ∧ oQ es et (e - 1) o))
def TF (c t es et eu lo na : Nat) (g h : XH) (a j : Nat) : Prop := NAq c g (hi h 1285 j) (hj g a 0) (hj g a 1) ∧ (∃ ne, ne ≤ 1 ∧ hi g a 7 = nI ne ∧ hi h 1290 j = nI ne) ∧ hj g a 8 = hj h 1291 j ∧ (TFk es et eu g h a j ∨ (hj h 1291 j = 0 ∧ ∃ i, lo ≤ i ∧ i < na ∧ hr g (t + 1) i = some a))
/-- a table -/
def TD (c S t es et eu lo na : Nat) (g h : XH) (s : Nat) : Prop := ∃ n, n ≤ 16 ∧ hi g (dT S s) 3 = nI n ∧ hi h 1283 s = nI n ∧ ∀ f, f < n → TF c t es et eu lo na g h (dT S s + 2 + f) (16 * s + f)
def UM (c t et lo na : Nat) (g h : XH) (a j : Nat) : Prop := NAq c g (hi h 1293 j) (hj g a 0) (hj g a 1) ∧ ((∃ o, o < et ∧ hi g a 4 = nI o ∧ hi h 1294 j = nI o) ∨ ∃ i, lo ≤ i ∧ i < na ∧ hr g (t + 1) i = some a)
/-- a union -/
def UD (c S t et lo na : Nat) (g h : XH) (s : Nat) : Prop := ∃ n, 1 ≤ n ∧ n ≤ 8 ∧ hi g (dU S s) 3 = nI n ∧ hi h 1292 s = nI n ∧ ∀ f, f < n → UM c t et lo na g h (dU S s + 2 + f) (8 * s + f)
/-- what is awaited -/
def AE (c S t nt ft nu fu : Nat) (g h : XH) (i : Nat) : Prop := ∃ a k w x, hr g (t + 1) i = some a ∧ hi g a 2 = nI k ∧ hi h 1295 i = nI k ∧ k < c ∧ hi g 8 k = 2 ∧ hi h 1296 i = nI w ∧ hi h 1297 i = nI x ∧ ((∃ s f, (s < nt ∨ (s = nt ∧ f < ft)) ∧ s < 16 ∧ f < 16 ∧ a = dT S s + 2 + f ∧ x = 16 * s + f ∧ ((w = 0 ∧ hi g a 3 = -1 ∧ hi g a 5 = -1 ∧ hi h 1288 x = -1) ∨ (w = 1 ∧ hi g a 3 = 5 ∧ hi h 1286 x = 5))) ∨ ∃ s f, (s < nu ∨ (s = nu ∧ f < fu)) ∧ s < 8 ∧ f < 8 ∧ a = dU S s + 2 + f ∧ x = 8 * s + f ∧ w = 2 ∧ hi g a 3 = 3)
/-- a field of the struct that is being read -/
def SQ (c ns : Nat) (g h : XH) (a j : Nat) : Prop := NAq c g (hi h 1276 j) (hj g a 0) (hj g a 1) ∧ (hi g a 5 = -1 ∧ hi g a 7 = 0) ∧ ∃ so o, hi g a 3 = nI so ∧ hi g a 4 = nI o ∧ hi h 1277 j = nI so ∧ hi h 1278 j = nI o ∧ ((so = 0 ∧ o < 11) ∨ (so = 2 ∧ o < ns))
def BG (T : Nat → Nat) (n c S t nd ns fs nt ft nu fu na es et eu lo : Nat) (g h : XH) : Prop := MTx h T n ∧ KC g S ∧ (∀ d, d < nd → DE c S es et eu g h d) ∧ (∀ s, s < ns → SD c S g h s) ∧ (∀ f, f < fs → SQ c ns g h (dS S ns + 2 + f) (12 * ns + f)) ∧ (∀ s, s < nt → TD c S t es et eu lo na g h s) ∧ (∀ f, f < ft → TF c t es et eu lo na g h (dT S nt + 2 + f) (16 * nt + f)) ∧ (∀ s, s < nu → UD c S t et lo na g h s) ∧ (∀ f, f < fu → UM c t et lo na g h (dU S nu + 2 + f) (8 * nu + f)) ∧ (∀ i, lo ≤ i → i < na → AE c S t nt ft nu fu g h i) ∧ (∀ i j, i < j → j < na → ¬ hr g (t + 1) i = hr g (t + 1) j) ∧ (ns ≤ es ∧ es ≤ ns + 1 ∧ es ≤ 12 ∧ nt ≤ et ∧ et ≤ nt + 1 ∧ et ≤ 16 ∧ nu ≤ eu ∧ eu ≤ nu + 1 ∧ eu ≤ 8 ∧ nd = es + et + eu ∧ na ≤ 16 * nt + ft + 8 * nu + fu ∧ (fs = 0 ∨ (fs ≤ 12 ∧ es = ns + 1)) ∧ (ft = 0 ∨ (ft ≤ 16 ∧ et = nt + 1)) ∧ (fu = 0 ∨ (fu ≤ 8 ∧ eu = nu + 1)))
/-! what it doesn't stand on -/
def yP (KK : Nat → Nat) (S t ns fs nt ft nu fu : Nat) (a k : Nat) : Prop := a = t ∨ t + 2 ≤ a ∨ ((2 ≤ k ∨ ¬ KK a = 2) ∧ (a = S ∨ a = S + 1 ∨ a = S + 195 ∨ a = S + 517 ∨ (dS S ns ≤ a ∧ a < S + 195 ∧ (a < dS S ns + 2 ∨ dS S ns + 2 + fs ≤ a)) ∨ (dT S nt ≤ a ∧ a < S + 517 ∧ (a < dT S nt + 2 ∨ dT S nt + 2 + ft ≤ a)) ∨ (dU S nu ≤ a ∧ a < S + 615 ∧ (a < dU S nu + 2 ∨ dU S nu + 2 + fu ≤ a))))
def yJ (S t ns fs nt ft nu fu es et eu : Nat) (a _k : Nat) : Prop := a = 1316 ∨ t + 2 ≤ a ∨ (S ≤ a ∧ a < S + 195 ∧ (dS S ns + 2 + fs ≤ a ∨ dS S es ≤ a)) ∨ (S + 195 ≤ a ∧ a < S + 517 ∧ (dT S nt + 2 + ft ≤ a ∨ dT S et ≤ a)) ∨ (S + 517 ≤ a ∧ a < S + 615 ∧ (dU S nu + 2 + fu ≤ a ∨ dU S eu ≤ a))
def yW (S t nd na : Nat) (a k : Nat) : Prop := (a = S + 615 ∧ nd ≤ k) ∨ (a = t + 1 ∧ na ≤ k)
def zP (nd ns fs nt ft nu fu na : Nat) (a k : Nat) : Prop := (a = 1262 ∧ (k = 13 ∨ k = 14 ∨ k = 15 ∨ k = 16 ∨ k = 20 ∨ k = 31 ∨ k = 41 ∨ k = 45 ∨ k = 46)) ∨ (1270 ≤ a ∧ a ≤ 1272 ∧ nd ≤ k) ∨ ((a = 1273 ∨ a = 1274 ∨ a = 1275 ∨ a = 1280) ∧ ns ≤ k) ∨ (1276 ≤ a ∧ a ≤ 1279 ∧ 12 * ns + fs ≤ k) ∨ ((a = 1281 ∨ a = 1282) ∧ 128 * ns ≤ k) ∨ ((a = 1283 ∨ a = 1284) ∧ nt ≤ k) ∨ (1285 ≤ a ∧ a ≤ 1290 ∧ 16 * nt + ft ≤ k) ∨ (a = 1292 ∧ nu ≤ k) ∨ ((a = 1293 ∨ a = 1294) ∧ 8 * nu + fu ≤ k) ∨ (1295 ≤ a ∧ a ≤ 1297 ∧ na ≤ k)
def zJ (nt ft : Nat) (a k : Nat) : Prop := a = 1316 ∨ (a = 1291 ∧ 16 * nt + ft ≤ k)
def nW (_a _k : Nat) : Prop := False
/-! what is touched at all -/
def vP (KK : Nat → Nat) (S t a k : Nat) : Prop := t ≤ a ∨ ((2 ≤ k ∨ ¬ KK a = 2) ∧ S ≤ a ∧ a < S + 615)
def vJ (S t a _k : Nat) : Prop := a = 1316 ∨ t ≤ a ∨ (S ≤ a ∧ a < S + 615)
def vW (S t a _k : Nat) : Prop := a = S + 615 ∨ t ≤ a
def nM (a k : Nat) : Prop := (a = 1262 ∧ (k = 13 ∨ k = 14 ∨ k = 15 ∨ k = 16 ∨ k = 20 ∨ k = 31 ∨ k = 41 ∨ k = 45 ∨ k = 46)) ∨ (1270 ≤ a ∧ a ≤ 1297)
def nJ (a _k : Nat) : Prop := a = 1316 ∨ a = 1291
section Bg
variable {T : Nat → Nat} {n c S t nd ns fs nt ft nu fu na es et eu lo : Nat} {g h u p : XH}
theorem yP_c {KK : Nat → Nat} {a k : Nat} (z : yP KK S t ns fs nt ft nu fu a k) : vP KK S t a k := by
  unfold yP dS dT dU at z
  unfold vP
  rcases z with z | z | ⟨z, y⟩
  · exact Or.inl (by omega)
  · exact Or.inl (by omega)
  · exact Or.inr ⟨z, by omega, by omega⟩
theorem yJ_c {a k : Nat} (z : yJ S t ns fs nt ft nu fu es et eu a k) : vJ S t a k := by
  unfold yJ at z
  unfold vJ
  omega
theorem yW_c {a k : Nat} (z : yW S t nd na a k) : vW S t a k := by
  unfold yW at z
  unfold vW
  omega
theorem zP_m {a k : Nat} (z : zP nd ns fs nt ft nu fu na a k) : nM a k := by
  unfold zP at z
  unfold nM
  omega
theorem zJ_m {a k : Nat} (z : zJ nt ft a k) : nJ a k := by
  unfold zJ at z
  unfold nJ
  omega
theorem NAq.cg {nm : Int32} {x y : Int64} (A : NAq c g nm x y) (a8 : ∀ k, hi u 8 k = hi g 8 k) (b10 : ∀ k, hj u 10 k = hj g 10 k) (b11 : ∀ k, hj u 11 k = hj g 11 k) : NAq c u nm x y := by
  obtain ⟨i, h1, h2, h3, h4, h5⟩ := A
  exact ⟨i, h1, h2, by rw [a8]; exact h3, by rw [b10]; exact h4, by rw [b11]; exact h5⟩
theorem KC.frx {P J W : Nat → Nat → Prop} (H : KC g S) (L : LY g) (F : FRX P J W g u) (w : ∀ a k, a < 1244 → k < 2 → hk g a = 2 → ¬ P a k) : KC u S := by
  refine ⟨H.1, fun s hs => ?_⟩
  have sc : SC g s := by
    rcases hs with q | q <;> subst q
    · exact L.2.2.2.2.2.1
    · exact L.2.2.2.2.2.2
  obtain ⟨h1, h2, h3⟩ := H.2 s hs
  refine ⟨fun i hi' => ?_, fun i hi' => ?_, fun i hi' => ?_⟩
  · rw [F.at (w _ 0 (by unfold dS; omega) (by decide) (sc.ddS hi').2.2.2.2.1), F.at (w _ 1 (by unfold dS; omega) (by decide) (sc.ddS hi').2.2.2.2.1)]; exact h1 i hi'
  · rw [F.at (w _ 0 (by unfold dT; omega) (by decide) (sc.ddT hi').2.2.2.2.1), F.at (w _ 1 (by unfold dT; omega) (by decide) (sc.ddT hi').2.2.2.2.1)]; exact h2 i hi'
  · rw [F.at (w _ 0 (by unfold dU; omega) (by decide) (sc.ddU hi').2.2.2.2.1), F.at (w _ 1 (by unfold dU; omega) (by decide) (sc.ddU hi').2.2.2.2.1)]; exact h3 i hi'
theorem SD.cg {s : Nat} (A : SD c S g h s) (a8 : ∀ k, hi u 8 k = hi g 8 k) (b10 : ∀ k, hj u 10 k = hj g 10 k) (b11 : ∀ k, hj u 11 k = hj g 11 k) (e1 : ∀ a k, dS S s ≤ a → a < dS S s + 16 → hi u a k = hi g a k) (e2 : ∀ a k, dS S s + 2 ≤ a → a < dS S s + 14 → hj u a k = hj g a k) (m1 : ∀ a k, (a = 1273 ∨ a = 1274 ∨ a = 1275 ∨ a = 1280) → k ≤ s → hi p a k = hi h a k) (m2 : ∀ a k, 1276 ≤ a → a ≤ 1279 → k < 12 * s + 12 → hi p a k = hi h a k) (m3 : ∀ a k, (a = 1281 ∨ a = 1282) → k < 128 * s + 128 → hi p a k = hi h a k) : SD c S u p s := by
  obtain ⟨n, z, al, m, so, o, pl, lo, lp, ⟨c1, c2, c3, c4⟩, ⟨d1, d2, d3, d4⟩, F, L, O, N⟩ := A
  have e0 : ∀ k, hi u (dS S s) k = hi g (dS S s) k := fun k => e1 _ k (by omega) (by omega)
  refine ⟨n, z, al, m, so, o, pl, lo, lp, ?_, ?_, fun f hf => ?_, fun k hk' => ?_, O, N⟩
  · rw [e0, e0, e0, e0]; exact ⟨c1, c2, c3, c4⟩
  · rw [m1 1273 s (by decide) (by omega), m1 1274 s (by decide) (by omega), m1 1275 s (by decide) (by omega), m1 1280 s (by decide) (by omega)]; exact ⟨d1, d2, d3, d4⟩
  · obtain ⟨f1, f2, f3, f4⟩ := F f hf
    have ea : ∀ k, hi u (dS S s + 2 + f) k = hi g (dS S s + 2 + f) k := fun k => e1 _ k (by omega) (by omega)
    have ej : ∀ k, hj u (dS S s + 2 + f) k = hj g (dS S s + 2 + f) k := fun k => e2 _ k (by omega) (by omega)
    refine ⟨?_, ?_, ?_, ?_⟩
    · rw [ea, ea, ea, ea, ea]; exact f1
    · rw [m2 1277 _ (by decide) (by decide) (by omega), m2 1278 _ (by decide) (by decide) (by omega), m2 1279 _ (by decide) (by decide) (by omega)]; exact f2
    · rw [m2 1276 _ (by decide) (by decide) (by omega), ej, ej]; exact f3.cg a8 b10 b11
    · rcases f4 with q | ⟨q1, q2, z', q3, q4⟩
      · exact Or.inl q
      · exact Or.inr ⟨q1, q2, z', by rw [m1 1274 _ (by decide) (by omega)]; exact q3, q4⟩
  · obtain ⟨l1, l2, l3⟩ := L k hk'
    refine ⟨?_, ?_, l3⟩
    · rw [e1 _ k (by omega) (by omega), e1 _ k (by omega) (by omega)]; exact l1
    · rw [m3 1281 _ (by decide) (by omega), m3 1282 _ (by decide) (by omega)]; exact l2
theorem SQ.cg {a j : Nat} (A : SQ c ns g h a j) (a8 : ∀ k, hi u 8 k = hi g 8 k) (b10 : ∀ k, hj u 10 k = hj g 10 k) (b11 : ∀ k, hj u 11 k = hj g 11 k) (e1 : ∀ k, hi u a k = hi g a k) (e2 : ∀ k, hj u a k = hj g a k) (m1 : ∀ a, 1276 ≤ a → a ≤ 1278 → hi p a j = hi h a j) : SQ c ns u p a j := by
  obtain ⟨n1, n2⟩ := A
  refine ⟨?_, ?_⟩
  · rw [m1 1276 (by decide) (by decide), e2, e2]; exact n1.cg a8 b10 b11
  · rw [e1, e1, e1, e1, m1 1277 (by decide) (by decide), m1 1278 (by decide) (by decide)]; exact n2
theorem TF.cg {a j : Nat} (A : TF c t es et eu lo na g h a j) (a8 : ∀ k, hi u 8 k = hi g 8 k) (b10 : ∀ k, hj u 10 k = hj g 10 k) (b11 : ∀ k, hj u 11 k = hj g 11 k) (e1 : ∀ k, hi u a k = hi g a k) (e2 : ∀ k, hj u a k = hj g a k) (e3 : ∀ i, i < na → hr u (t + 1) i = hr g (t + 1) i) (m1 : ∀ a, 1285 ≤ a → a ≤ 1290 → hi p a j = hi h a j) (m2 : hj p 1291 j = hj h 1291 j) : TF c t es et eu lo na u p a j := by
  obtain ⟨n1, ⟨ne, n2, n3, n4⟩, n5, n6⟩ := A
  refine ⟨?_, ⟨ne, n2, by rw [e1]; exact n3, by rw [m1 1290 (by decide) (by decide)]; exact n4⟩, by rw [e2, m2]; exact n5, ?_⟩
  · rw [m1 1285 (by decide) (by decide), e2, e2]; exact n1.cg a8 b10 b11
  · rcases n6 with q | ⟨q, i, q1, q2, q3⟩
    · refine Or.inl ?_
      unfold TFk at q ⊢
      rw [e1, e1, e1, m1 1286 (by decide) (by decide), m1 1287 (by decide) (by decide), m1 1288 (by decide) (by decide), m2]
      exact q
    · exact Or.inr ⟨by rw [m2]; exact q, i, q1, q2, by rw [e3 i q2]; exact q3⟩
theorem UM.cg {a j : Nat} (A : UM c t et lo na g h a j) (a8 : ∀ k, hi u 8 k = hi g 8 k) (b10 : ∀ k, hj u 10 k = hj g 10 k) (b11 : ∀ k, hj u 11 k = hj g 11 k) (e1 : ∀ k, hi u a k = hi g a k) (e2 : ∀ k, hj u a k = hj g a k) (e3 : ∀ i, i < na → hr u (t + 1) i = hr g (t + 1) i) (m1 : ∀ a, 1293 ≤ a → a ≤ 1294 → hi p a j = hi h a j) : UM c t et lo na u p a j := by
  obtain ⟨n1, n6⟩ := A
  refine ⟨?_, ?_⟩
  · rw [m1 1293 (by decide) (by decide), e2, e2]; exact n1.cg a8 b10 b11
  · rcases n6 with ⟨o, q1, q2, q3⟩ | ⟨i, q1, q2, q3⟩
    · exact Or.inl ⟨o, q1, by rw [e1]; exact q2, by rw [m1 1294 (by decide) (by decide)]; exact q3⟩
    · exact Or.inr ⟨i, q1, q2, by rw [e3 i q2]; exact q3⟩
theorem BG.fr (A : BG T n c S t nd ns fs nt ft nu fu na es et eu lo g h) (L : LY g) (ht : 1317 ≤ t) (F : FRX (yP (hk g) S t ns fs nt ft nu fu) (yJ S t ns fs nt ft nu fu es et eu) (yW S t nd na) g u) (G : FRX (zP nd ns fs nt ft nu fu na) (zJ nt ft) nW h p) : BG T n c S t nd ns fs nt ft nu fu na es et eu lo u p := by
  obtain ⟨M, K, D, SS, SC', TT, TC, UU, UC, E, I, ⟨l1, l2, l3, l4, l5, l6, l7, l8, l9, l10, l11, l12, l13, l14⟩⟩ := A
  have S1 := K.1
  have a8 : ∀ k, hi u 8 k = hi g 8 k := fun k => F.at (by unfold yP dS dT dU; omega)
  have b10 : ∀ k, hj u 10 k = hj g 10 k := fun k => F.lg (by unfold yJ; omega)
  have b11 : ∀ k, hj u 11 k = hj g 11 k := fun k => F.lg (by unfold yJ; omega)
  have e3 : ∀ i, i < na → hr u (t + 1) i = hr g (t + 1) i := fun i hi' => F.rf (by unfold yW; omega)
  have ea : ∀ a k, ¬ (a = t ∨ t + 2 ≤ a ∨ (a = S ∨ a = S + 1 ∨ a = S + 195 ∨ a = S + 517 ∨ (dS S ns ≤ a ∧ a < S + 195 ∧ (a < dS S ns + 2 ∨ dS S ns + 2 + fs ≤ a)) ∨ (dT S nt ≤ a ∧ a < S + 517 ∧ (a < dT S nt + 2 ∨ dT S nt + 2 + ft ≤ a)) ∨ (dU S nu ≤ a ∧ a < S + 615 ∧ (a < dU S nu + 2 ∨ dU S nu + 2 + fu ≤ a)))) → hi u a k = hi g a k := fun a k q => F.at (fun z => q (by unfold yP at z; exact z.elim Or.inl fun z => Or.inr (z.elim Or.inl fun z => Or.inr z.2)))
  refine ⟨?_, K.frx L F (fun a k h1 h2 h3 z => ?_), fun d hd => ?_, fun s hs => ?_, fun f hf => ?_, fun s hs => ?_, fun f hf => ?_, fun s hs => ?_, fun f hf => ?_, fun i h1 h2 => ?_, fun i j h1 h2 => ?_, ⟨l1, l2, l3, l4, l5, l6, l7, l8, l9, l10, l11, l12, l13, l14⟩⟩
  · obtain ⟨m1, m2, m3, m4⟩ := M
    exact ⟨by rw [G.at (by simp [zP])]; exact m1, m2, m3, fun k hk' => by rw [G.at (by simp [zP])]; exact m4 k hk'⟩
  · unfold yP at z
    rcases z with z | z | ⟨z | z, -⟩
    · omega
    · omega
    · omega
    · exact z h3
  · obtain ⟨ad, so, no, d1, d2, d3, d4, d5⟩ := D d hd
    have z : ∀ k, ¬ yJ S t ns fs nt ft nu fu es et eu ad k := fun k => by
      unfold yJ dS dT dU
      unfold DA dS dT dU at d2
      omega
    refine ⟨ad, so, no, by rw [F.rf (by unfold yW; omega)]; exact d1, d2, by rw [G.at (by unfold zP; omega)]; exact d3, by rw [G.at (by unfold zP; omega)]; exact d4, ?_⟩
    rw [G.at (show ¬ zP nd ns fs nt ft nu fu na 1270 d by unfold zP; omega), F.lg (z 4), F.lg (z 5)]
    exact d5.cg a8 b10 b11
  · refine (SS s hs).cg a8 b10 b11 (fun a k h1 h2 => ea a k (by unfold dS dT dU at *; omega)) (fun a k h1 h2 => F.lg (by unfold yJ dS dT dU at *; omega)) (fun a k h1 h2 => G.at (by unfold zP; omega)) (fun a k h1 h2 h3 => G.at (by unfold zP; omega)) (fun a k h1 h2 => G.at (by unfold zP; omega))
  · exact (SC' f hf).cg a8 b10 b11 (fun k => ea _ k (by unfold dS dT dU; omega)) (fun k => F.lg (by unfold yJ dS dT dU; omega)) (fun a h1 h2 => G.at (by unfold zP; omega))
  · obtain ⟨m, m1, m2, m3, m4⟩ := TT s hs
    refine ⟨m, m1, by rw [ea _ _ (by unfold dS dT dU; omega)]; exact m2, by rw [G.at (by unfold zP; omega)]; exact m3, fun f hf => (m4 f hf).cg a8 b10 b11 (fun k => ea _ k (by unfold dS dT dU; omega)) (fun k => F.lg (by unfold yJ dS dT dU; omega)) e3 (fun a h1 h2 => G.at (by unfold zP; omega)) (G.lg (by unfold zJ; omega))⟩
  · exact (TC f hf).cg a8 b10 b11 (fun k => ea _ k (by unfold dS dT dU; omega)) (fun k => F.lg (by unfold yJ dS dT dU; omega)) e3 (fun a h1 h2 => G.at (by unfold zP; omega)) (G.lg (by unfold zJ; omega))
  · obtain ⟨m, m0, m1, m2, m3, m4⟩ := UU s hs
    refine ⟨m, m0, m1, by rw [ea _ _ (by unfold dS dT dU; omega)]; exact m2, by rw [G.at (by unfold zP; omega)]; exact m3, fun f hf => (m4 f hf).cg a8 b10 b11 (fun k => ea _ k (by unfold dS dT dU; omega)) (fun k => F.lg (by unfold yJ dS dT dU; omega)) e3 (fun a h1 h2 => G.at (by unfold zP; omega))⟩
  · exact (UC f hf).cg a8 b10 b11 (fun k => ea _ k (by unfold dS dT dU; omega)) (fun k => F.lg (by unfold yJ dS dT dU; omega)) e3 (fun a h1 h2 => G.at (by unfold zP; omega))
  · obtain ⟨a, k, w, x, a1, a2, a3, a4, a5, a6, a7, a9⟩ := E i h1 h2
    have za : ∀ k, hi u a k = hi g a k := by
      intro k
      rcases a9 with ⟨s, f, q1, q2, q3, q4, -⟩ | ⟨s, f, q1, q2, q3, q4, -⟩
      · exact ea a k (by unfold dS dT dU at *; omega)
      · exact ea a k (by unfold dS dT dU at *; omega)
    refine ⟨a, k, w, x, by rw [e3 i h2]; exact a1, by rw [za]; exact a2, by rw [G.at (by unfold zP; omega)]; exact a3, a4, by rw [a8]; exact a5, by rw [G.at (by unfold zP; omega)]; exact a6, by rw [G.at (by unfold zP; omega)]; exact a7, ?_⟩
    rcases a9 with ⟨s, f, q1, q2, q3, q4, q5, q6⟩ | ⟨s, f, q1, q2, q3, q4, q5, q6, q7⟩
    · refine Or.inl ⟨s, f, q1, q2, q3, q4, q5, ?_⟩
      rw [za, za, G.at (show ¬ zP nd ns fs nt ft nu fu na 1288 x by unfold zP; omega), G.at (show ¬ zP nd ns fs nt ft nu fu na 1286 x by unfold zP; omega)]
      exact q6
    · exact Or.inr ⟨s, f, q1, q2, q3, q4, q5, q6, by rw [za]; exact q7⟩
  · rw [e3 i (by omega), e3 j h2]
    exact I i j h1 h2
end Bg
