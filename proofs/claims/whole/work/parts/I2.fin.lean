/-! The parsers: the schema that comes of it -/

def sgF (ns nt nu ro : Nat) (p : XH) (r i : Nat) : Nat :=
  if r = 0 then (if i = 0 then ns else if i = 1 then nt else if i = 2 then nu else ro) else
  if r = 1 then (hi p 1273 i).toNatClampNeg else if r = 2 then (hi p 1274 i).toNatClampNeg else if r = 3 then (hi p 1275 i).toNatClampNeg else
  if r = 4 then (hi p 1277 i).toNatClampNeg else if r = 5 then (hi p 1278 i).toNatClampNeg else if r = 6 then (hi p 1279 i).toNatClampNeg else
  if r = 7 then (hi p 1280 i).toNatClampNeg else if r = 8 then (hi p 1281 i).toNatClampNeg else if r = 9 then (hi p 1282 i).toNatClampNeg else
  if r = 10 then (hi p 1283 i).toNatClampNeg else if r = 11 then (hi p 1284 i).toNatClampNeg else if r = 12 then (hi p 1286 i).toNatClampNeg else
  if r = 13 then (hi p 1287 i).toNatClampNeg else if r = 14 then (hi p 1288 i + 1).toNatClampNeg else if r = 15 then (hi p 1289 i).toNatClampNeg else
  if r = 16 then (hi p 1290 i).toNatClampNeg else if r = 17 then (hi p 1292 i).toNatClampNeg else (hi p 1294 i).toNatClampNeg
section Sf
variable {ns nt nu ro x i : Nat} {p : XH}
theorem sgx1 (q : hi p 1273 i = nI x) (b : x < 2 ^ 31) : sgF ns nt nu ro p 1 i = x := by show (hi p 1273 i).toNatClampNeg = x; rw [q]; exact nI_clamp b
theorem sgx2 (q : hi p 1274 i = nI x) (b : x < 2 ^ 31) : sgF ns nt nu ro p 2 i = x := by show (hi p 1274 i).toNatClampNeg = x; rw [q]; exact nI_clamp b
theorem sgx3 (q : hi p 1275 i = nI x) (b : x < 2 ^ 31) : sgF ns nt nu ro p 3 i = x := by show (hi p 1275 i).toNatClampNeg = x; rw [q]; exact nI_clamp b
theorem sgx4 (q : hi p 1277 i = nI x) (b : x < 2 ^ 31) : sgF ns nt nu ro p 4 i = x := by show (hi p 1277 i).toNatClampNeg = x; rw [q]; exact nI_clamp b
theorem sgx5 (q : hi p 1278 i = nI x) (b : x < 2 ^ 31) : sgF ns nt nu ro p 5 i = x := by show (hi p 1278 i).toNatClampNeg = x; rw [q]; exact nI_clamp b
theorem sgx6 (q : hi p 1279 i = nI x) (b : x < 2 ^ 31) : sgF ns nt nu ro p 6 i = x := by show (hi p 1279 i).toNatClampNeg = x; rw [q]; exact nI_clamp b
theorem sgx7 (q : hi p 1280 i = nI x) (b : x < 2 ^ 31) : sgF ns nt nu ro p 7 i = x := by show (hi p 1280 i).toNatClampNeg = x; rw [q]; exact nI_clamp b
theorem sgx8 (q : hi p 1281 i = nI x) (b : x < 2 ^ 31) : sgF ns nt nu ro p 8 i = x := by show (hi p 1281 i).toNatClampNeg = x; rw [q]; exact nI_clamp b
theorem sgx9 (q : hi p 1282 i = nI x) (b : x < 2 ^ 31) : sgF ns nt nu ro p 9 i = x := by show (hi p 1282 i).toNatClampNeg = x; rw [q]; exact nI_clamp b
theorem sgx10 (q : hi p 1283 i = nI x) (b : x < 2 ^ 31) : sgF ns nt nu ro p 10 i = x := by show (hi p 1283 i).toNatClampNeg = x; rw [q]; exact nI_clamp b
theorem sgx11 (q : hi p 1284 i = nI x) (b : x < 2 ^ 31) : sgF ns nt nu ro p 11 i = x := by show (hi p 1284 i).toNatClampNeg = x; rw [q]; exact nI_clamp b
theorem sgx12 (q : hi p 1286 i = nI x) (b : x < 2 ^ 31) : sgF ns nt nu ro p 12 i = x := by show (hi p 1286 i).toNatClampNeg = x; rw [q]; exact nI_clamp b
theorem sgx13 (q : hi p 1287 i = nI x) (b : x < 2 ^ 31) : sgF ns nt nu ro p 13 i = x := by show (hi p 1287 i).toNatClampNeg = x; rw [q]; exact nI_clamp b
theorem sgx14 (q : hi p 1288 i = nI x - 1) (b : x < 2 ^ 31) : sgF ns nt nu ro p 14 i = x := by
  show (hi p 1288 i + 1).toNatClampNeg = x
  rw [q, Int32.sub_add_cancel]
  exact nI_clamp b
theorem sgx15 (q : hi p 1289 i = nI x) (b : x < 2 ^ 31) : sgF ns nt nu ro p 15 i = x := by show (hi p 1289 i).toNatClampNeg = x; rw [q]; exact nI_clamp b
theorem sgx16 (q : hi p 1290 i = nI x) (b : x < 2 ^ 31) : sgF ns nt nu ro p 16 i = x := by show (hi p 1290 i).toNatClampNeg = x; rw [q]; exact nI_clamp b
theorem sgx17 (q : hi p 1292 i = nI x) (b : x < 2 ^ 31) : sgF ns nt nu ro p 17 i = x := by show (hi p 1292 i).toNatClampNeg = x; rw [q]; exact nI_clamp b
theorem sgx18 (q : hi p 1294 i = nI x) (b : x < 2 ^ 31) : sgF ns nt nu ro p 18 i = x := by show (hi p 1294 i).toNatClampNeg = x; rw [q]; exact nI_clamp b
end Sf
/-- names, the class's longs at u, the model's text at p -/
def NM2 (u p : XH) (S : Nat) (sg : SGT) : Prop := (∀ s, s < sg 0 0 → ∀ f, f < sg 1 s → NME p (hi p 1276 (12 * s + f)) (hj u (dS S s + 2 + f) 0) (hj u (dS S s + 2 + f) 1)) ∧ (∀ t, t < sg 0 1 → ∀ f, f < sg 10 t → NME p (hi p 1285 (16 * t + f)) (hj u (dT S t + 2 + f) 0) (hj u (dT S t + 2 + f) 1))
section Fx
variable {T : Nat → Nat} {n c t S k nd ns nt nu na ro : Nat} {g h u p : XH}
theorem NAq.nme {nm : Int32} {x y : Int64} (A : NAq c g nm x y) (K : TOKS T n g p c) (M : MTx p T n) : NME p nm x y := by
  obtain ⟨i, i1, i2, i3, i4, i5⟩ := A
  obtain ⟨a, b, j1, j2, j3, j4, j5, j6, j7, j8⟩ := (K.2.2.2.2.1 i i1).nm i3
  obtain ⟨-, n4, T2, tx⟩ := M
  have c4 := K.2.2.2.1
  exact ⟨i, a, b, T, i2, by omega, j4, j5, j1, j2, by omega, fun k h1 h2 => ⟨tx k (by omega), j6 k h1 h2, T2 k⟩, by rw [i4]; exact j7, by rw [i5]; exact j8⟩
def slU (S a k : Nat) : Prop := (S + 197 ≤ a ∧ a < S + 517 ∧ (k = 6 ∨ k = 8)) ∨ (a = S ∧ k = 5)
def slP (a _k : Nat) : Prop := a = 1284 ∨ a = 1289
theorem fin_ext (B : BG T n c S t nd ns 0 nt 0 nu 0 na ns nt nu na g h) (K : TOKS T n g h c) (L : LY u) (hS : S = 12 ∨ S = 628) (N : CN S t nd ns nt nu (na + 1) ns nt nu g h) (F : FRX (slU S) nW nW g u) (G : FRX slP nW nW h p) (hro : ro < nt) (e5 : hi u S 5 = nI ro) (e45 : hi h 1262 45 = nI ro) (C : ∀ s n, s < nt → n ≤ 16 → hi g (dT S s) 3 = nI n → hi u (dT S s) 8 = nI (slq (sC g (dT S s)) n) ∧ ∀ f, f < n → hi u (dT S s + 2 + f) 6 = nI (slq (sC g (dT S s)) f)) (M : ∀ s n, s < nt → n ≤ 16 → hi h 1283 s = nI n → hi p 1284 s = nI (slq (sM h s) n) ∧ ∀ f, f < n → hi p 1289 (16 * s + f) = nI (slq (sM h s) f)) : ∃ sg sd, CS u S sg sd ∧ MS p sg sd ∧ WF sg sd ∧ NM2 u p S sg := by
  obtain ⟨M0, KC', D, SS, -, TT, -, UU, -, E, I, ⟨l1, l2, l3, l4, l5, l6, l7, l8, l9, l10, l11, l12, l13, l14⟩⟩ := B
  obtain ⟨n1, n2, n3, n4, n5, n6, n7, n8, n9, n10⟩ := N
  have sc := SC.of L hS
  have M1 : MTx p T n := by
    obtain ⟨m1, m2, m3, m4⟩ := M0
    exact ⟨by rw [G.at (by unfold slP; omega)]; exact m1, m2, m3, fun k hk' => by rw [G.at (by unfold slP; omega)]; exact m4 k hk'⟩
  have K1 : TOKS T n g p c := K.cg rfl rfl rfl rfl rfl (G.at (by unfold slP; omega)) (G.row fun k => by unfold slP; omega) (G.row fun k => by unfold slP; omega) (G.row fun k => by unfold slP; omega) (G.row fun k => by unfold slP; omega)
  have gm : ∀ a k, a ≠ 1284 → a ≠ 1289 → hi p a k = hi h a k := fun a k h1 h2 => G.at (by unfold slP; omega)
  have gj : ∀ a k, hj p a k = hj h a k := fun a k => G.lg (fun z => z)
  have uj : ∀ a k, hj u a k = hj g a k := fun a k => F.lg (fun z => z)
  obtain ⟨sg, es⟩ : ∃ sg, sg = sgF ns nt nu ro p := ⟨_, rfl⟩
  have z0 : sg 0 0 = ns := by rw [es]; rfl
  have z1 : sg 0 1 = nt := by rw [es]; rfl
  have z2 : sg 0 2 = nu := by rw [es]; rfl
  have z3 : sg 0 3 = ro := by rw [es]; rfl
  -- a struct
  have ST' : ∀ s, s < ns → ∃ (m z al k : Nat), sg 1 s = m ∧ sg 2 s = z ∧ sg 3 s = al ∧ sg 7 s = k ∧ ((hi u (dS S s) 3 = nI m ∧ hi u (dS S s) 6 = nI z ∧ hi u (dS S s) 7 = nI al ∧ hi u (dS S s) 11 = nI k) ∧ (hi p 1273 s = nI m ∧ hi p 1274 s = nI z ∧ hi p 1275 s = nI al ∧ hi p 1280 s = nI k)) ∧ (∀ f, f < m → (hi u (dS S s + 2 + f) 3 = nI (sg 4 (12 * s + f)) ∧ hi u (dS S s + 2 + f) 4 = nI (sg 5 (12 * s + f)) ∧ hi u (dS S s + 2 + f) 5 = -1 ∧ hi u (dS S s + 2 + f) 6 = nI (sg 6 (12 * s + f)) ∧ hi u (dS S s + 2 + f) 7 = 0) ∧ (hi p 1277 (12 * s + f) = nI (sg 4 (12 * s + f)) ∧ hi p 1278 (12 * s + f) = nI (sg 5 (12 * s + f)) ∧ hi p 1279 (12 * s + f) = nI (sg 6 (12 * s + f))) ∧ NME p (hi p 1276 (12 * s + f)) (hj u (dS S s + 2 + f) 0) (hj u (dS S s + 2 + f) 1) ∧ ((sg 4 (12 * s + f) = 0 ∧ sg 5 (12 * s + f) < 11 ∧ sg 6 (12 * s + f) + bO (sg 5 (12 * s + f)) ≤ z) ∨ (sg 4 (12 * s + f) = 2 ∧ sg 5 (12 * s + f) < s ∧ sg 6 (12 * s + f) + sg 2 (sg 5 (12 * s + f)) ≤ z))) ∧ (∀ j, j < k → (hi u (dS S s + 2 + 12) j = nI (sg 8 (128 * s + j)) ∧ hi u (dS S s + 3 + 12) j = nI (sg 9 (128 * s + j))) ∧ (hi p 1281 (128 * s + j) = nI (sg 8 (128 * s + j)) ∧ hi p 1282 (128 * s + j) = nI (sg 9 (128 * s + j))) ∧ sg 8 (128 * s + j) < 11 ∧ sg 9 (128 * s + j) + bO (sg 8 (128 * s + j)) ≤ z) ∧ (∀ j, j + 1 < k → sg 9 (128 * s + j) + bO (sg 8 (128 * s + j)) ≤ sg 9 (128 * s + (j + 1))) ∧ (1 ≤ m ∧ m ≤ 12 ∧ 1 ≤ z ∧ z ≤ 128 ∧ (al = 1 ∨ al = 2 ∨ al = 4 ∨ al = 8) ∧ 1 ≤ k ∧ k ≤ z) := by
    intro s hs
    obtain ⟨m, z, al, k, so, o, pl, lo, lp, ⟨c1, c2, c3, c4⟩, ⟨d1, d2, d3, d4⟩, FF, LL, OO, ⟨b1, b2, b3, b4, b5, b6, b7⟩⟩ := SS s hs
    have uS : ∀ a k, dS S s ≤ a → a < dS S s + 16 → hi u a k = hi g a k := fun a k h1 h2 => F.at (by unfold slU; unfold dS at *; omega)
    have LB : ∀ j, j < k → sg 8 (128 * s + j) = lo j ∧ sg 9 (128 * s + j) = lp j := by
      intro j hj'
      obtain ⟨-, ⟨q1, q2⟩, q3, q4⟩ := LL j hj'
      rw [es]
      exact ⟨sgx8 (by rw [gm 1281 _ (by decide) (by decide)]; exact q1) (by omega), sgx9 (by rw [gm 1282 _ (by decide) (by decide)]; exact q2) (by omega)⟩
    refine ⟨m, z, al, k, ?_, ?_, ?_, ?_, ⟨⟨?_, ?_, ?_, ?_⟩, ?_, ?_, ?_, ?_⟩, fun f hf => ?_, fun j hj' => ?_, fun j hj' => ?_, ⟨b1, b2, b3, b4, b5, b6, b7⟩⟩
    · rw [es]; exact sgx1 (by rw [gm _ _ (by decide) (by decide)]; exact d1) (by omega)
    · rw [es]; exact sgx2 (by rw [gm _ _ (by decide) (by decide)]; exact d2) (by omega)
    · rw [es]; exact sgx3 (by rw [gm _ _ (by decide) (by decide)]; exact d3) (by omega)
    · rw [es]; exact sgx7 (by rw [gm _ _ (by decide) (by decide)]; exact d4) (by omega)
    · rw [uS _ _ (by omega) (by omega)]; exact c1
    · rw [uS _ _ (by omega) (by omega)]; exact c2
    · rw [uS _ _ (by omega) (by omega)]; exact c3
    · rw [uS _ _ (by omega) (by omega)]; exact c4
    · rw [gm _ _ (by decide) (by decide)]; exact d1
    · rw [gm _ _ (by decide) (by decide)]; exact d2
    · rw [gm _ _ (by decide) (by decide)]; exact d3
    · rw [gm _ _ (by decide) (by decide)]; exact d4
    · obtain ⟨⟨p1, p2, p3, p4, p5⟩, ⟨q1, q2, q3⟩, nm, v⟩ := FF f hf
      have bs : so f < 3 ∧ o f < 12 ∧ pl f ≤ 128 := by
        rcases v with ⟨v1, v2, v3⟩ | ⟨v1, v2, z', -, v4, v5⟩
        · exact ⟨by omega, by omega, by omega⟩
        · exact ⟨by omega, by omega, by omega⟩
      have e4 : sg 4 (12 * s + f) = so f := by rw [es]; exact sgx4 (by rw [gm _ _ (by decide) (by decide)]; exact q1) (by omega)
      have e5' : sg 5 (12 * s + f) = o f := by rw [es]; exact sgx5 (by rw [gm _ _ (by decide) (by decide)]; exact q2) (by omega)
      have e6 : sg 6 (12 * s + f) = pl f := by rw [es]; exact sgx6 (by rw [gm _ _ (by decide) (by decide)]; exact q3) (by omega)
      have uf : ∀ k, hi u (dS S s + 2 + f) k = hi g (dS S s + 2 + f) k := fun k => uS _ k (by omega) (by omega)
      rw [e4, e5', e6, uf, uf, uf, uf, uf, uj, uj, gm 1277 _ (by decide) (by decide), gm 1278 _ (by decide) (by decide), gm 1279 _ (by decide) (by decide), gm 1276 _ (by decide) (by decide)]
      refine ⟨⟨p1, p2, p3, p4, p5⟩, ⟨q1, q2, q3⟩, nm.nme K1 M1, ?_⟩
      rcases v with v | ⟨v1, v2, z', v3, v4, v5⟩
      · exact Or.inl v
      · have e2 : sg 2 (o f) = z' := by rw [es]; exact sgx2 (by rw [gm _ _ (by decide) (by decide)]; exact v3) (by omega)
        rw [e2]
        exact Or.inr ⟨v1, v2, v5⟩
    · obtain ⟨⟨p1, p2⟩, ⟨q1, q2⟩, q3, q4⟩ := LL j hj'
      obtain ⟨e8, e9⟩ := LB j hj'
      rw [e8, e9, uS _ _ (by omega) (by omega), uS _ _ (by omega) (by omega), gm 1281 _ (by decide) (by decide), gm 1282 _ (by decide) (by decide)]
      exact ⟨⟨p1, p2⟩, ⟨q1, q2⟩, q3, q4⟩
    · rw [(LB j (by omega)).1, (LB j (by omega)).2, (LB (j + 1) hj').2]
      exact OO j hj'
  -- a table
  have TB' : ∀ s, s < nt → ∃ m sl : Nat, sg 10 s = m ∧ sg 11 s = sl ∧ m ≤ 16 ∧ sl ≤ 32 ∧ ((hi u (dT S s) 3 = nI m ∧ hi u (dT S s) 8 = nI sl) ∧ (hi p 1283 s = nI m ∧ hi p 1284 s = nI sl)) ∧ ∀ f, f < m → (hi u (dT S s + 2 + f) 3 = nI (sg 12 (16 * s + f)) ∧ hi u (dT S s + 2 + f) 4 = nI (sg 13 (16 * s + f)) ∧ hi u (dT S s + 2 + f) 5 = nI (sg 14 (16 * s + f)) - 1 ∧ hi u (dT S s + 2 + f) 6 = nI (sg 15 (16 * s + f)) ∧ hi u (dT S s + 2 + f) 7 = nI (sg 16 (16 * s + f)) ∧ hj u (dT S s + 2 + f) 8 = hj p 1291 (16 * s + f)) ∧ (hi p 1286 (16 * s + f) = nI (sg 12 (16 * s + f)) ∧ hi p 1287 (16 * s + f) = nI (sg 13 (16 * s + f)) ∧ hi p 1288 (16 * s + f) = nI (sg 14 (16 * s + f)) - 1 ∧ hi p 1289 (16 * s + f) = nI (sg 15 (16 * s + f)) ∧ hi p 1290 (16 * s + f) = nI (sg 16 (16 * s + f))) ∧ NME p (hi p 1285 (16 * s + f)) (hj u (dT S s + 2 + f) 0) (hj u (dT S s + 2 + f) 1) ∧ sg 16 (16 * s + f) ≤ 1 ∧ (sg 12 (16 * s + f) ≠ 0 → hj p 1291 (16 * s + f) = 0) ∧ sg 15 (16 * s + f) + (if sg 12 (16 * s + f) = 4 then 2 else 1) ≤ sl ∧ ((sg 14 (16 * s + f) = 0 ∧ sg 12 (16 * s + f) = 4 ∧ sg 13 (16 * s + f) < nu) ∨ (sg 14 (16 * s + f) = 0 ∧ oQ ns nt (sg 12 (16 * s + f)) (sg 13 (16 * s + f))) ∨ (1 ≤ sg 14 (16 * s + f) ∧ sg 12 (16 * s + f) = 5 ∧ oQ ns nt (sg 14 (16 * s + f) - 1) (sg 13 (16 * s + f)))) := by
    intro s hs
    obtain ⟨m, m16, m2, m3, FF⟩ := TT s hs
    obtain ⟨C1, C2⟩ := C s m hs m16 m2
    obtain ⟨M2, M3⟩ := M s m hs m16 m3
    have kn : ∀ f, f < m → TFk ns nt nu g h (dT S s + 2 + f) (16 * s + f) := fun f hf => by
      rcases (FF f hf).2.2.2 with q | ⟨-, i, i1, i2, -⟩
      · exact q
      · omega
    have sv : ∀ f, f < m → sC g (dT S s) f = sM h s f := fun f hf => by
      obtain ⟨so, o, e, ⟨o1, -⟩, ⟨o2, -⟩, -⟩ := kn f hf
      unfold sC sM
      rw [o1, o2]
    have le := slq_le (sM h s)
    have ev : ∀ f, f ≤ m → slq (sC g (dT S s)) f = slq (sM h s) f := fun f hf => slq_cg f fun j hj' => sv j (by omega)
    rw [ev m (Nat.le_refl _)] at C1
    refine ⟨m, slq (sM h s) m, ?_, ?_, m16, by have := le m; omega, ⟨⟨?_, C1⟩, ?_, M2⟩, fun f hf => ?_⟩
    · rw [es]; exact sgx10 (by rw [gm _ _ (by decide) (by decide)]; exact m3) (by omega)
    · rw [es]; exact sgx11 M2 (by have := le m; omega)
    · rw [F.at (by unfold slU dT; omega)]; exact m2
    · rw [gm _ _ (by decide) (by decide)]; exact m3
    · obtain ⟨nm, ⟨ne, w1, w2, w3⟩, w4, -⟩ := FF f hf
      obtain ⟨so, o, e, ⟨o1, o2, o3⟩, ⟨p1, p2, p3⟩, o4, o5⟩ := kn f hf
      have bs : so < 6 ∧ o < 16 ∧ e < 7 := by unfold oQ at o5; omega
      have uf : ∀ k, k ≠ 6 → k ≠ 8 → hi u (dT S s + 2 + f) k = hi g (dT S s + 2 + f) k := fun k h1 h2 => F.at (by unfold slU dT; omega)
      have c6 := C2 f hf
      rw [ev f (by omega)] at c6
      have m9 := M3 f hf
      have e12 : sg 12 (16 * s + f) = so := by rw [es]; exact sgx12 (by rw [gm _ _ (by decide) (by decide)]; exact p1) (by omega)
      have e13 : sg 13 (16 * s + f) = o := by rw [es]; exact sgx13 (by rw [gm _ _ (by decide) (by decide)]; exact p2) (by omega)
      have e14 : sg 14 (16 * s + f) = e := by rw [es]; exact sgx14 (by rw [gm _ _ (by decide) (by decide)]; exact p3) (by omega)
      have e15 : sg 15 (16 * s + f) = slq (sM h s) f := by rw [es]; exact sgx15 m9 (by have := le f; omega)
      have e16 : sg 16 (16 * s + f) = ne := by rw [es]; exact sgx16 (by rw [gm _ _ (by decide) (by decide)]; exact w3) (by omega)
      rw [e12, e13, e14, e15, e16, uf 3 (by decide) (by decide), uf 4 (by decide) (by decide), uf 5 (by decide) (by decide), uf 7 (by decide) (by decide), uj, uj, uj, gm 1286 _ (by decide) (by decide), gm 1287 _ (by decide) (by decide), gm 1288 _ (by decide) (by decide), gm 1290 _ (by decide) (by decide), gm 1285 _ (by decide) (by decide), gj]
      refine ⟨⟨o1, o2, o3, c6, w2, w4⟩, ⟨p1, p2, p3, m9, w3⟩, nm.nme K1 M1, w1, o4, ?_, o5⟩
      have mo := slq_mono (sM h s) (f := f) m hf
      have ei : (if sM h s f = 4 then 2 else 1) = (if so = 4 then 2 else 1) := by
        unfold sM
        rw [p1]
        by_cases q : so = 4
        · rw [if_pos q, if_pos (by rw [q]; rfl)]
        · rw [if_neg q, if_neg (show ¬ nI so = 4 by (first | (simp (maxSteps := 4000000) (disch := omega) only [n_0, n_1, n_2, n_3, n_4, n_5, n_6, n_7, n_8, n_9, n_10, n_11, n_12, n_13, n_14, n_15, n_16, n_18, n_20, n_24, n_31, n_32, n_34, n_40, n_41, n_44, n_45, n_47, n_48, n_57, n_58, n_59, n_61, n_63, n_64, n_65, n_68, n_90, n_91, n_93, n_95, n_97, n_100, n_122, n_123, n_125, n_128, n_144, n_200, n_255, n_256, n_300, n_400, n_600, n_1536, n_3980, n_4000, n_4001, n_4300, n_65536, l_0, l_1, l_2, l_3, l_4, l_10, l_48, l_63, l_255, l_300, nI_ltI, nI_leI, nI_eq, nI_clamp, nI_add, pk_sub, pk_mul, nI_ne1, ne1_nI, nI_pge, nI_nlt0, nI_l, lN_i, lN_add, lN_mul, lN_sub, pk_lLT, pk_lLE, pk_lEQ, lg_lt, lg_ge, lg_eq0, lg_le, lg_gt, lg_ltn, lg_gen, lg_eq0n, lg_len, lg_gtn, Nat.zero_le, Nat.not_lt_zero, not_false_eq_true, not_true_eq_false, true_and, and_true]; done) | (simp (maxSteps := 4000000) (disch := omega) only [n_0, n_1, n_2, n_3, n_4, n_5, n_6, n_7, n_8, n_9, n_10, n_11, n_12, n_13, n_14, n_15, n_16, n_18, n_20, n_24, n_31, n_32, n_34, n_40, n_41, n_44, n_45, n_47, n_48, n_57, n_58, n_59, n_61, n_63, n_64, n_65, n_68, n_90, n_91, n_93, n_95, n_97, n_100, n_122, n_123, n_125, n_128, n_144, n_200, n_255, n_256, n_300, n_400, n_600, n_1536, n_3980, n_4000, n_4001, n_4300, n_65536, l_0, l_1, l_2, l_3, l_4, l_10, l_48, l_63, l_255, l_300, nI_ltI, nI_leI, nI_eq, nI_clamp, nI_add, pk_sub, pk_mul, nI_ne1, ne1_nI, nI_pge, nI_nlt0, nI_l, lN_i, lN_add, lN_mul, lN_sub, pk_lLT, pk_lLE, pk_lEQ, lg_lt, lg_ge, lg_eq0, lg_le, lg_gt, lg_ltn, lg_gen, lg_eq0n, lg_len, lg_gtn, Nat.zero_le, Nat.not_lt_zero, not_false_eq_true, not_true_eq_false, true_and, and_true]; omega) | omega))]
      rw [ei] at mo
      exact mo
  -- a union
  have UN' : ∀ s, s < nu → ∃ m, sg 17 s = m ∧ 1 ≤ m ∧ m ≤ 8 ∧ hi u (dU S s) 3 = nI m ∧ hi p 1292 s = nI m ∧ ∀ f, f < m → hi u (dU S s + 2 + f) 4 = nI (sg 18 (8 * s + f)) ∧ hi p 1294 (8 * s + f) = nI (sg 18 (8 * s + f)) ∧ sg 18 (8 * s + f) < nt := by
    intro s hs
    obtain ⟨m, m1, m8, m2, m3, FF⟩ := UU s hs
    refine ⟨m, ?_, m1, m8, ?_, ?_, fun f hf => ?_⟩
    · rw [es]; exact sgx17 (by rw [gm _ _ (by decide) (by decide)]; exact m3) (by omega)
    · rw [F.at (by unfold slU dU; omega)]; exact m2
    · rw [gm _ _ (by decide) (by decide)]; exact m3
    · rcases (FF f hf).2 with ⟨o, o1, o2, o3⟩ | ⟨i, i1, i2, -⟩
      · have e18 : sg 18 (8 * s + f) = o := by rw [es]; exact sgx18 (by rw [gm _ _ (by decide) (by decide)]; exact o3) (by omega)
        rw [e18, F.at (by unfold slU dU; omega), gm _ _ (by decide) (by decide)]
        exact ⟨o2, o3, o1⟩
      · omega
  refine ⟨sg, fun i => hj p 1291 i, ⟨sc, ?_, fun s hs => ?_, fun s hs => ?_, fun s hs => ?_⟩, ⟨?_, fun s hs => ?_, fun s hs => ?_, fun s hs => ?_⟩, ⟨?_, fun s hs => ?_, fun s hs => ?_, fun s hs => ?_⟩, ⟨fun s hs f hf => ?_, fun s hs f hf => ?_⟩⟩
  · rw [z0, z1, z2, z3]
    exact ⟨by rw [F.at (by unfold slU; omega)]; exact n3, by rw [F.at (by unfold slU; omega)]; exact n4, by rw [F.at (by unfold slU; omega)]; exact n5, e5⟩
  · rw [z0] at hs
    obtain ⟨m, z, al, k, e1, e2, e3, e7, ⟨a1, a2⟩, a3, a4, a5, a6⟩ := ST' s hs
    rw [e1, e2, e3, e7]
    exact ⟨a1, fun f hf => (a3 f hf).1, fun j hj' => (a4 j hj').1⟩
  · rw [z1] at hs
    obtain ⟨m, sl, e1, e2, a1, a2, ⟨a3, a4⟩, a5⟩ := TB' s hs
    rw [e1, e2]
    exact ⟨a3, fun f hf => (a5 f hf).1⟩
  · rw [z2] at hs
    obtain ⟨m, e1, a1, a2, a3, a4, a5⟩ := UN' s hs
    rw [e1]
    exact ⟨a3, fun f hf => (a5 f hf).1⟩
  · rw [z0, z1, z2, z3]
    exact ⟨by rw [gm _ _ (by decide) (by decide)]; exact n6, by rw [gm _ _ (by decide) (by decide)]; exact n7, by rw [gm _ _ (by decide) (by decide)]; exact n8, by rw [gm _ _ (by decide) (by decide)]; exact e45⟩
  · rw [z0] at hs
    obtain ⟨m, z, al, k, e1, e2, e3, e7, ⟨a1, a2⟩, a3, a4, a5, a6⟩ := ST' s hs
    rw [e1, e2, e3, e7]
    exact ⟨a2, fun f hf => (a3 f hf).2.1, fun j hj' => (a4 j hj').2.1⟩
  · rw [z1] at hs
    obtain ⟨m, sl, e1, e2, a1, a2, ⟨a3, a4⟩, a5⟩ := TB' s hs
    rw [e1, e2]
    exact ⟨a4, fun f hf => by
      obtain ⟨b1, b2, b3, b4, b5⟩ := (a5 f hf).2.1
      exact ⟨b1, b2, b3, b4, b5, rfl⟩⟩
  · rw [z2] at hs
    obtain ⟨m, e1, a1, a2, a3, a4, a5⟩ := UN' s hs
    rw [e1]
    exact ⟨a4, fun f hf => (a5 f hf).2.1⟩
  · rw [z0, z1, z2, z3]
    exact ⟨l3, l6, l9, hro⟩
  · rw [z0] at hs
    obtain ⟨m, z, al, k, e1, e2, e3, e7, ⟨a1, a2⟩, a3, a4, a5, ⟨b1, b2, b3, b4, b5, b6, b7⟩⟩ := ST' s hs
    rw [e1, e2, e3, e7]
    exact ⟨⟨b1, b2, b3, b4, b5, b6, by omega⟩, fun f hf => (a3 f hf).2.2.2, fun j hj' => (a4 j hj').2.2, a5⟩
  · rw [z1] at hs
    obtain ⟨m, sl, e1, e2, a1, a2, ⟨a3, a4⟩, a5⟩ := TB' s hs
    rw [e1, e2]
    refine ⟨a1, a2, fun f hf => ?_⟩
    obtain ⟨-, -, -, c1, c2, c3, c4⟩ := a5 f hf
    refine ⟨c1, c2, c3, ?_⟩
    unfold oK
    rw [z0, z1, z2]
    exact c4
  · rw [z2] at hs
    obtain ⟨m, e1, a1, a2, a3, a4, a5⟩ := UN' s hs
    rw [e1, z1]
    exact ⟨a1, a2, fun f hf => (a5 f hf).2.2⟩
  · rw [z0] at hs
    obtain ⟨m, z, al, k, e1, e2, e3, e7, ⟨a1, a2⟩, a3, a4, a5, a6⟩ := ST' s hs
    rw [e1] at hf
    exact (a3 f hf).2.2.1
  · rw [z1] at hs
    obtain ⟨m, sl, e1, e2, a1, a2, ⟨a3, a4⟩, a5⟩ := TB' s hs
    rw [e1] at hf
    exact (a5 f hf).2.2.1
end Fx
