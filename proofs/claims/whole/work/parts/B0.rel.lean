/-! The class's cells beside the model's -/
/-- the tape -/
def RT (h : XH) : Prop := ∃ n : Nat, n ≤ 4000 ∧ hi h 1 1 = nI n ∧ hi h 1262 2 = nI n ∧ ∀ k, k < n → hi h 1263 k = nI (cb h 2 k)
/-- the values -/
def RV (h : XH) : Prop := ∃ n : Nat, n ≤ 600 ∧ hi h 5 1 = nI n ∧ hi h 1262 55 = nI n ∧ ∀ k, k < n → hj h 6 k = hj h 1298 k
/-- the out -/
def RO (h : XH) : Prop := ∃ n : Nat, n ≤ 4000 ∧ hi h 3 1 = nI n ∧ hi h 1262 72 = nI n ∧ ∀ k, k < n → hi h 1308 k = nI (cb h 4 k)
/-- the faults -/
def RF (h : XH) : Prop := hi h 0 8 = hi h 1262 50 ∧ hi h 0 9 = hi h 1262 51 ∧ hi h 0 10 = hi h 1262 52 ∧ hi h 0 11 = hi h 1262 53 ∧ hi h 0 12 = hi h 1262 82
/-- m signs from a place on, as one number -/
def pn (f : Nat → Nat) (a : Nat) : Nat → Nat
  | 0 => 0
  | m + 1 => f (a + m) + 256 * pn f a m
/-- a name: where it stands in the model's text, what the class holds of it -/
def NME (h : XH) (nm : Int32) (hd tl : Int64) : Prop := ∃ (i at' to' : Nat) (f : Nat → Nat), nm = nI i ∧ i ≤ 4000 ∧ hi h 1267 i = nI at' ∧ hi h 1268 i = nI to' ∧ at' < to' ∧ to' ≤ at' + 16 ∧ to' ≤ 4000 ∧ (∀ k, at' ≤ k → k < to' → hi h 1264 k = nI (f k) ∧ 0 < f k ∧ f k < 256) ∧ hd = lN (pn f at' (min (to' - at') 8)) ∧ tl = lN (pn f (at' + 8) (to' - at' - 8))
def NM (h : XH) (S : Nat) (sg : SGT) : Prop := (∀ s, s < sg 0 0 → ∀ f, f < sg 1 s → NME h (hi h 1276 (12 * s + f)) (hj h (dS S s + 2 + f) 0) (hj h (dS S s + 2 + f) 1)) ∧ (∀ t, t < sg 0 1 → ∀ f, f < sg 10 t → NME h (hi h 1285 (16 * t + f)) (hj h (dT S t + 2 + f) 0) (hj h (dT S t + 2 + f) 1))
/-- what the class's definitions are from the first: sort and number -/
def KC (h : XH) (S : Nat) : Prop := (S = 12 ∨ S = 628) ∧ ∀ s, s = 12 ∨ s = 628 → (∀ i, i < 12 → hi h (dS s i) 0 = 2 ∧ hi h (dS s i) 1 = nI i) ∧ (∀ i, i < 16 → hi h (dT s i) 0 = 3 ∧ hi h (dT s i) 1 = nI i) ∧ ∀ i, i < 8 → hi h (dU s i) 0 = 4 ∧ hi h (dU s i) 1 = nI i
/-- the text that the class's schema at S was read from is the model's good text -/
def GH (h : XH) (S : Nat) : Prop := ∃ (g0 g1 : XH) (v : Int32) (m : Nat), (LY g0 ∧ KC g0 S) ∧ hz g0 ≤ 900000 ∧ hr g0 0 5 = some S ∧ f_t_schema g0 = some (Sum.inl v, g1) ∧ hi g0 1 1 = nI m ∧ m ≤ 4000 ∧ hi h 1262 6 = nI m ∧ (∀ k, k < m → hi h 1265 k = nI (cb g0 2 k)) ∧ ∀ a, S ≤ a → a < S + 616 → hi g1 a = hi h a ∧ hj g1 a = hj h a
/-- the schema -/
def RS (h : XH) (S : Nat) (sg : SGT) (sd : Nat → Int64) : Prop := (hi h 1262 7 = 0 ∧ hi h (S + 1) 1 = 0 ∧ hi h (S + 195) 1 = 0 ∧ hi h (S + 517) 1 = 0 ∧ hi h S 5 = -1 ∧ KC h S ∧ hi h 1262 6 = 0) ∨ (hi h 1262 7 = 1 ∧ CS h S sg sd ∧ MS h sg sd ∧ WF sg sd ∧ NM h S sg ∧ GH h S ∧ KC h S)
/-- what is being built: the row -/
def RBr (h : XH) (n : Nat) : Prop := n ≤ 4000 ∧ hi h 1244 1 = nI n ∧ hi h 1262 57 = nI n ∧ ∀ i, i < n → hi h 1299 i = nI (cb h 1246 (3999 - i))
/-- the greatest alignment -/
def RBg (h : XH) : Prop := ∃ ga gm : Nat, (ga = 4 ∨ ga = 8) ∧ hi h 1244 2 = nI ga ∧ hi h 1262 58 = nI gm ∧ gm ≤ ga ∧ (hi h 1262 7 = 1 → gm = ga)
/-- things -/
def RBt (h : XH) (n tc : Nat) (sg : SGT) : Prop := tc ≤ 300 ∧ hi h 1244 7 = nI tc ∧ hi h 1262 59 = nI tc ∧ ∀ t, t < tc → ∃ so st : Nat, (so = 1 ∨ so = 3 ∨ so = 5) ∧ 0 < st ∧ st ≤ n ∧ hi h 1247 t = nI so ∧ hi h 1300 t = nI so ∧ hi h 1248 t = hi h 1302 t ∧ hi h 1249 t = hi h 1301 t ∧ hi h 1250 t = nI st ∧ hi h 1303 t = nI st ∧ (so = 3 → hi h 1262 7 = 1)
/-- lists -/
def RBl (h : XH) (n tc : Nat) : Prop := ∃ lc : Nat, lc ≤ tc ∧ hi h 1244 9 = nI lc ∧ hi h 1262 64 = nI lc ∧ ∀ l, l < lc → ∃ ls ln : Nat, hi h 1251 l = nI ls ∧ hi h 1304 l = nI ls ∧ hi h 1305 l = nI ln ∧ 4 ≤ ln ∧ ln ≤ 68 ∧ ln % 2 = 0 ∧ ln ≤ ls ∧ ls ≤ n ∧ nb (cb h 1246) 2 (4000 - ls) = ln
/-- the open table -/
def RBo (h : XH) (n : Nat) (sg : SGT) : Prop := (hi h 1244 10 = -1 ∧ hi h 1262 67 = -1) ∨ ∃ t lo : Nat, t < sg 0 1 ∧ hi h 1262 7 = 1 ∧ hi h 1244 10 = nI t ∧ hi h 1262 67 = nI t ∧ hi h 1244 11 = nI lo ∧ hi h 1262 68 = nI lo ∧ lo ≤ n ∧ (∀ f, f < 16 → hi h 1252 f = hi h 1306 f ∧ (hi h 1306 f = 0 ∨ hi h 1306 f = 1)) ∧ ∀ s, s < 32 → ∃ v : Nat, hi h 1253 s = nI v ∧ hi h 1307 s = nI v ∧ v ≤ n ∧ (sg 11 t ≤ s → v = 0) ∧ (v = 0 ∨ lo < v)
def RB (h : XH) (sg : SGT) : Prop := ∃ n tc : Nat, RBr h n ∧ RBg h ∧ RBt h n tc sg ∧ RBl h n tc ∧ RBo h n sg
/-- the reader -/
def RRn (h : XH) (sg : SGT) (n a : Nat) (so o e p : Nat → Nat) : Prop := ∀ i, i ≤ a → (hi h 1258 i = nI (so i) ∧ hi h 1259 i = nI (o i) ∧ hi h 1260 i = nI (e i) - 1 ∧ hi h 1261 i = nI (p i)) ∧ (hi h 1312 i = nI (so i) ∧ hi h 1313 i = nI (o i) ∧ hi h 1314 i = nI (e i) - 1 ∧ hi h 1315 i = nI (p i)) ∧ NV sg (cb h 1257) n i (so i) (o i) (e i) (p i)
def RRl (h : XH) (sg : SGT) (n : Nat) : Prop := hi h 1262 81 = 1 ∧ hi h 1262 7 = 1 ∧ hi h 1256 1 = nI n ∧ n ≤ 4000 ∧ hi h 1262 75 = nI n ∧ hi h 1262 80 = nI n ∧ (∀ k, k < n → hi h 1310 k = nI (cb h 1257 k) ∧ hi h 1311 k = nI (cb h 1257 k)) ∧ (jA sg (cb h 1257) n).1 = 0
def RR (h : XH) (sg : SGT) : Prop := (hi h 1262 81 = 0 ∧ hi h 1255 5 = -1 ∧ hi h 1256 1 = 0 ∧ ∃ n0 : Nat, n0 ≤ 4000 ∧ hi h 1262 80 = nI n0) ∨ ∃ (n a : Nat) (so o e p : Nat → Nat), RRl h sg n ∧ hi h 1255 5 = nI a ∧ hi h 1262 87 = nI (a + 1) ∧ RRn h sg n a so o e p
/-- all of it, with the class's schema at S -/
def RA (h : XH) (S : Nat) (sg : SGT) (sd : Nat → Int64) : Prop := LY h ∧ (hr h 0 4 = some S ∧ hr h 0 5 = some (640 - S) ∧ (S = 12 ∨ S = 628)) ∧ RT h ∧ RV h ∧ RO h ∧ RF h ∧ RS h S sg sd ∧ RB h sg ∧ RR h sg
/-! what each part of it stands on -/
section Cg
variable {h g : XH} {S n tc a : Nat} {sg : SGT} {sd : Nat → Int64} {so o e p : Nat → Nat}
theorem cb_cg {c : Nat} (q : hi g c = hi h c) : cb g c = cb h c := by funext k; unfold cb; rw [q]
theorem RT.cg (H : RT h) (e1 : hi g 1 1 = hi h 1 1) (e2 : hi g 1262 2 = hi h 1262 2) (e3 : hi g 2 = hi h 2) (e4 : hi g 1263 = hi h 1263) : RT g := by
  unfold RT
  rw [e1, e2, e4, cb_cg e3]
  exact H
theorem RV.cg (H : RV h) (e1 : hi g 5 1 = hi h 5 1) (e2 : hi g 1262 55 = hi h 1262 55) (e3 : hj g 6 = hj h 6) (e4 : hj g 1298 = hj h 1298) : RV g := by
  unfold RV
  rw [e1, e2, e4, e3]
  exact H
theorem RO.cg (H : RO h) (e1 : hi g 3 1 = hi h 3 1) (e2 : hi g 1262 72 = hi h 1262 72) (e3 : hi g 4 = hi h 4) (e4 : hi g 1308 = hi h 1308) : RO g := by
  unfold RO
  rw [e1, e2, e4, cb_cg e3]
  exact H
theorem RF.cg (H : RF h) (e1 : ∀ k, 8 ≤ k → k ≤ 12 → hi g 0 k = hi h 0 k) (e2 : ∀ k, (50 ≤ k ∧ k ≤ 53) ∨ k = 82 → hi g 1262 k = hi h 1262 k) : RF g := by
  unfold RF
  rw [e1 8 (by decide) (by decide), e1 9 (by decide) (by decide), e1 10 (by decide) (by decide), e1 11 (by decide) (by decide), e1 12 (by decide) (by decide), e2 50 (by decide), e2 51 (by decide), e2 52 (by decide), e2 53 (by decide), e2 82 (by decide)]
  exact H
theorem NME.cg {nm : Int32} {hd tl : Int64} (H : NME h nm hd tl) (e1 : hi g 1264 = hi h 1264) (e2 : hi g 1267 = hi h 1267) (e3 : hi g 1268 = hi h 1268) : NME g nm hd tl := by
  unfold NME
  rw [e1, e2, e3]
  exact H
theorem NM.cg (H : NM h S sg) (W : WF sg sd) (e0 : ∀ a, S ≤ a → a < S + 616 → hj g a = hj h a) (em : ∀ a, 1264 ≤ a → a ≤ 1297 → hi g a = hi h a) : NM g S sg := by
  refine ⟨fun s hs f hf => ?_, fun t ht f hf => ?_⟩
  · have w := (W.2.1 s hs).1
    have w0 := W.1
    rw [em 1276 (by decide) (by decide), e0 (dS S s + 2 + f) (by unfold dS; omega) (by unfold dS; omega)]
    exact (H.1 s hs f hf).cg (em _ (by decide) (by decide)) (em _ (by decide) (by decide)) (em _ (by decide) (by decide))
  · have w := (W.2.2.1 t ht).1
    have w0 := W.1
    rw [em 1285 (by decide) (by decide), e0 (dT S t + 2 + f) (by unfold dT; omega) (by unfold dT; omega)]
    exact (H.2 t ht f hf).cg (em _ (by decide) (by decide)) (em _ (by decide) (by decide)) (em _ (by decide) (by decide))
theorem GH.cg (H : GH h S) (e0 : ∀ a, S ≤ a → a < S + 616 → hi g a = hi h a) (e1 : ∀ a, S ≤ a → a < S + 616 → hj g a = hj h a) (em : hi g 1265 = hi h 1265) (ek : hi g 1262 6 = hi h 1262 6) : GH g S := by
  obtain ⟨g0, g1, v, m, a1, a2, a3, a4, a5, a6, a7, a8, a9⟩ := H
  exact ⟨g0, g1, v, m, a1, a2, a3, a4, a5, a6, by rw [ek]; exact a7, by rw [em]; exact a8, fun a h1 h2 => by rw [e0 a h1 h2, e1 a h1 h2]; exact a9 a h1 h2⟩
theorem KC.cg (H : KC h S) (e0 : ∀ a, 12 ≤ a → a < 1244 → hi g a = hi h a) : KC g S := by
  refine ⟨H.1, fun s hs => ?_⟩
  obtain ⟨h1, h2, h3⟩ := H.2 s hs
  refine ⟨fun i hi' => ?_, fun i hi' => ?_, fun i hi' => ?_⟩
  · rw [e0 _ (by unfold dS; omega) (by unfold dS; omega)]; exact h1 i hi'
  · rw [e0 _ (by unfold dT; omega) (by unfold dT; omega)]; exact h2 i hi'
  · rw [e0 _ (by unfold dU; omega) (by unfold dU; omega)]; exact h3 i hi'
theorem RS.kc (H : RS h S sg sd) : KC h S := by
  rcases H with ⟨a1, a2, a3, a4, a5, a6, a7⟩ | ⟨a1, a2, a3, a4, a5, a6, a7⟩
  · exact a6
  · exact a7
theorem RS.cg (H : RS h S sg sd) (hS : SC g S) (e00 : ∀ a, 12 ≤ a → a < 1244 → hi g a = hi h a) (e1 : ∀ a, S ≤ a → a < S + 616 → hj g a = hj h a) (ek : ∀ k, 3 ≤ k → k ≤ 49 → hi g 1262 k = hi h 1262 k) (em : ∀ a, 1264 ≤ a → a ≤ 1297 → hi g a = hi h a) (ej : hj g 1291 = hj h 1291) : RS g S sg sd := by
  have k0 := H.kc
  have k1 := k0.1
  have e0 : ∀ a, S ≤ a → a < S + 616 → hi g a = hi h a := fun a h1 h2 => e00 a (by omega) (by omega)
  rcases H with ⟨a1, a2, a3, a4, a5, a6, a7⟩ | ⟨a1, a2, a3, a4, a5, a6, a7⟩
  · refine Or.inl ⟨?_, ?_, ?_, ?_, ?_, k0.cg e00, by rw [ek 6 (by decide) (by decide)]; exact a7⟩
    · rw [ek 7 (by decide) (by decide)]; exact a1
    · rw [e0 _ (by omega) (by omega)]; exact a2
    · rw [e0 _ (by omega) (by omega)]; exact a3
    · rw [e0 _ (by omega) (by omega)]; exact a4
    · rw [e0 _ (by omega) (by omega)]; exact a5
  · refine Or.inr ⟨?_, a2.cg a4 hS e0 e1, ?_, a4, a5.cg a4 e1 em, a6.cg e0 e1 (em _ (by decide) (by decide)) (ek _ (by decide) (by decide)), k0.cg e00⟩
    · rw [ek 7 (by decide) (by decide)]; exact a1
    · unfold MS at a3 ⊢
      rw [em 1273 (by decide) (by decide), em 1274 (by decide) (by decide), em 1275 (by decide) (by decide), em 1277 (by decide) (by decide), em 1278 (by decide) (by decide), em 1279 (by decide) (by decide), em 1280 (by decide) (by decide), em 1281 (by decide) (by decide), em 1282 (by decide) (by decide), em 1283 (by decide) (by decide), em 1284 (by decide) (by decide), em 1286 (by decide) (by decide), em 1287 (by decide) (by decide), em 1288 (by decide) (by decide), em 1289 (by decide) (by decide), em 1290 (by decide) (by decide), em 1292 (by decide) (by decide), em 1294 (by decide) (by decide), ej, ek 20 (by decide) (by decide), ek 31 (by decide) (by decide), ek 41 (by decide) (by decide), ek 45 (by decide) (by decide)]
      exact a3
theorem RB.cg (H : RB h sg) (e1 : ∀ k, k ≤ 11 → hi g 1244 k = hi h 1244 k) (e2 : ∀ a, 1246 ≤ a → a ≤ 1253 → hi g a = hi h a) (e3 : ∀ k, k = 7 ∨ (57 ≤ k ∧ k ≤ 59) ∨ k = 64 ∨ k = 67 ∨ k = 68 → hi g 1262 k = hi h 1262 k) (e4 : ∀ a, 1299 ≤ a → a ≤ 1307 → hi g a = hi h a) : RB g sg := by
  unfold RB RBr RBg RBt RBl RBo
  rw [cb_cg (e2 1246 (by decide) (by decide)), e1 1 (by decide), e1 2 (by decide), e1 7 (by decide), e1 9 (by decide), e1 10 (by decide), e1 11 (by decide), e2 1247 (by decide) (by decide), e2 1248 (by decide) (by decide), e2 1249 (by decide) (by decide), e2 1250 (by decide) (by decide), e2 1251 (by decide) (by decide), e2 1252 (by decide) (by decide), e2 1253 (by decide) (by decide), e3 7 (by decide), e3 57 (by decide), e3 58 (by decide), e3 59 (by decide), e3 64 (by decide), e3 67 (by decide), e3 68 (by decide), e4 1299 (by decide) (by decide), e4 1300 (by decide) (by decide), e4 1301 (by decide) (by decide), e4 1302 (by decide) (by decide), e4 1303 (by decide) (by decide), e4 1304 (by decide) (by decide), e4 1305 (by decide) (by decide), e4 1306 (by decide) (by decide), e4 1307 (by decide) (by decide)]
  exact H
theorem RR.cg (H : RR h sg) (e1 : hi g 1255 5 = hi h 1255 5) (e2 : hi g 1256 1 = hi h 1256 1) (e3 : ∀ a, 1257 ≤ a → a ≤ 1261 → hi g a = hi h a) (e4 : ∀ k, k = 7 ∨ k = 75 ∨ k = 80 ∨ k = 81 ∨ k = 87 → hi g 1262 k = hi h 1262 k) (e5 : ∀ a, 1310 ≤ a → a ≤ 1315 → hi g a = hi h a) : RR g sg := by
  unfold RR RRl RRn
  rw [cb_cg (e3 1257 (by decide) (by decide)), e1, e2, e3 1258 (by decide) (by decide), e3 1259 (by decide) (by decide), e3 1260 (by decide) (by decide), e3 1261 (by decide) (by decide), e4 7 (by decide), e4 75 (by decide), e4 80 (by decide), e4 81 (by decide), e4 87 (by decide), e5 1310 (by decide) (by decide), e5 1311 (by decide) (by decide), e5 1312 (by decide) (by decide), e5 1313 (by decide) (by decide), e5 1314 (by decide) (by decide), e5 1315 (by decide) (by decide)]
  exact H
end Cg
