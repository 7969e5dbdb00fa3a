/-! Rows that the laid functions need -/
theorem XS.lcl {l : Launch} {G : XG} {q : xEnt} {d pc : Nat} {L2 L3 : List (Option Value)} {st : List Value} {h : XH} {C : XCfg} (w : XS l G q d C (pc, L2, st, h)) (e : L2 = L3) : XS l G q d C (pc, L3, st, h) := e ▸ w
theorem XR.norm {l : Launch} {G : XG} {q : xEnt} {d pc : Nat} {L2 L3 : List (Option Value)} {st : List Value} {h : XH} {P : XCfg → Prop} (e : L2 = L3) (w : XR l G q d (pc, L3, st, h) P) : XR l G q d (pc, L2, st, h) P := e ▸ w
theorem dl {d a b : Nat} (h : a + 1 ≤ b) : d + a + 1 ≤ d + b := by omega
theorem dl0 {d b : Nat} (h : 1 ≤ b) : d + 1 ≤ d + b := by omega
theorem dl1 {d b : Nat} (h : 1 ≤ b) : 1 ≤ d + b := by omega
theorem xi_none {α : Type} {c : Prop} [Decidable c] {a : Option α} {r : α} (hf : (if c then a else none) = some r) : c ∧ a = some r := by
  by_cases q : c
  · rw [if_pos q] at hf; exact ⟨q, hf⟩
  · rw [if_neg q] at hf; cases hf
theorem xi_pos {α : Type} {c : Prop} [Decidable c] {a b : Option α} {r : α} (hf : (if c then a else b) = some r) (q : c) : a = some r := by rw [if_pos q] at hf; exact hf
theorem xi_neg {α : Type} {c : Prop} [Decidable c] {a b : Option α} {r : α} (hf : (if c then a else b) = some r) (q : ¬ c) : b = some r := by rw [if_neg q] at hf; exact hf
theorem xb_some {α β : Type} {e : Option α} {f : α → Option β} {r : β} (hf : Option.bind e f = some r) : ∃ b, e = some b ∧ f b = some r := by
  cases e with
  | none => cases hf
  | some b => exact ⟨b, rfl, hf⟩
theorem xo_none {α β : Type} {e : Option α} {a : Option β} {f : α → Option β} {r : β} (hf : Option.elim e a f = some r) (q : e = none) : a = some r := by subst q; exact hf
theorem xo_some {α β : Type} {e : Option α} {a : Option β} {f : α → Option β} {r : β} {b : α} (hf : Option.elim e a f = some r) (q : e = some b) : f b = some r := by subst q; exact hf
def xsub : List (Option Value) → List (Option Value) → Prop
  | [], _ => True
  | none :: a, _ :: b => xsub a b
  | some v :: a, some w :: b => v = w ∧ xsub a b
  | _ :: _, _ => False
theorem xsub_get : ∀ (a b : List (Option Value)) (i : Nat) (v : Value), xsub a b → a[i]? = some (some v) → b[i]? = some (some v) := by
  intro a
  induction a with
  | nil => intro b i v _ h; simp at h
  | cons x a ih =>
    intro b i v hs h
    cases b with
    | nil => cases x <;> exact hs.elim
    | cons y b =>
      cases x with
      | none =>
        cases i with
        | zero => simp at h
        | succ i => simpa using ih b i v hs (by simpa using h)
      | some z =>
        cases y with
        | none => exact hs.elim
        | some w =>
          cases i with
          | zero => simp at h ⊢; exact hs.1 ▸ h
          | succ i => simpa using ih b i v hs.2 (by simpa using h)
theorem XL.sub {G : XG} {ls : Array Slot} {nL : Nat} {L L2 : List (Option Value)} (hs : xsub L2 L) (hl : XL G ls nL L) : XL G ls nL L2 := ⟨hl.1, hl.2.1, fun i v hv => hl.2.2 i v (xsub_get L2 L i v hs hv)⟩
theorem XR.forget {l : Launch} {G : XG} {q : xEnt} {d pc : Nat} {L L2 : List (Option Value)} {st : List Value} {h : XH} {P : XCfg → Prop} (hs : xsub L2 L) (k : XR l G q d (pc, L2, st, h) P) : XR l G q d (pc, L, st, h) P :=
  XS.go (XS.pure (fun p e Rm s m args below meth c cx Qf H locs cells slots ls hl k => k ls (hl.sub hs))) k
section XRules
variable {l : Launch} {G : XG} {q : xEnt} {d pc : Nat} {L : List (Option Value)} {st : List Value} {h : XH}
theorem s_aald104e {a b : Nat} {i : Int32} (hc : xI q pc = some (.aaload, 1)) (ha : a < hz h) (hk0 : hk h a = 104) (hin : vp_in i (hn h a)) (e : hr h a i.toNatClampNeg = some b) : XS l G q d (pc, L, .int i :: .ref a :: st, h) (pc + 1, L, .ref b :: st, h) := by
  have z := s_aald104 (l := l) (G := G) (d := d) (L := L) (st := st) hc ha hk0 hin
  rw [e] at z
  exact z
theorem s_aald105e {a b : Nat} {i : Int32} (hc : xI q pc = some (.aaload, 1)) (ha : a < hz h) (hk0 : hk h a = 105) (hin : vp_in i (hn h a)) (e : hr h a i.toNatClampNeg = some b) : XS l G q d (pc, L, .int i :: .ref a :: st, h) (pc + 1, L, .ref b :: st, h) := by
  have z := s_aald105 (l := l) (G := G) (d := d) (L := L) (st := st) hc ha hk0 hin
  rw [e] at z
  exact z
theorem s_max {idx : Nat} {x y : Int32} (hc : xI q pc = some (.invokestatic idx, 3)) (hl0 : Cond.methodLink (xCls q.1) idx Lib.Math.max.name ∈ lw_g) (hd : 1 ≤ d) (hcat : (st.map fun v => v.category).sum ≤ 8) : XS l G q d (pc, L, .int y :: .int x :: st, h) (pc + 3, L, .int (if x < y then y else x) :: st, h) := by
  refine ⟨⟨Nat.le_refl _, Nat.le_refl _⟩, fun p e Rm s m args below meth c cx Qf H locs cells slots ls r hl hq hcl hsl kk => ?_⟩
  obtain ⟨hx, hb, hml, -, -, -, hown, hts, hK, hg, hfr, hlo, hE, hs⟩ := cx
  have w := kk H locs ls r hl hq
  have c1 : cells + (hz h - hz h) = cells := by omega
  have c2 : slots + (hw h - hw h) = slots := by omega
  have w2 : W p l e Rm s m args below meth c H locs (cells + (hz h - hz h)) (slots + (hw h - hw h)) Qf (F0 m (pc + 3) ls (.int (if x < y then y else x) :: st.map (mv G))) := w
  have d1 : cells + (hz h - hz h) ≤ Rm.cells := hcl
  have d2 : slots + (hw h - hw h) ≤ Rm.slots := hsl
  rw [c1, c2] at w2
  exact va_mmax (x := x) (y := y) (rest := st.map (mv G)) hx hb (hml.trans hl.1.symm) hown (hts _ hl0) (hts _ (lg_4 193 rfl rfl)) (hts _ (lg_1 16 rfl rfl)) (hts _ (lg_4 194 rfl rfl)) (by omega) (by rw [xcat]; omega) (by omega) (by omega) (xI_dec hg hc) w2
end XRules
theorem LY.new {h : XH} {k n : Nat} (L : LY h) (hm : hz h < 1000000) : LY (hnew h k n) := L.keep (KP.new L.1) (by rw [hnew_z]; have := L.1; omega) (by rw [hnew_z]; omega)
theorem LY.srv {h : XH} {a k : Nat} {v : Option Nat} (L : LY h) (ha : 1317 ≤ a) : LY (hsr h a k v) := L.keep (KP.sr ha) L.1 L.2.1
theorem lyR45 : ∀ t ∈ lyR, t.1 = 0 → t.2.1 ≠ 4 ∧ t.2.1 ≠ 5 := by decide
theorem LY.sr45 {h : XH} {k : Nat} {v : Option Nat} (hk' : k = 4 ∨ k = 5) (L : LY h) : LY (hsr h 0 k v) := by
  obtain ⟨l1, l2, l3, l4, l5, l6, l7⟩ := L
  refine ⟨l1, l2, l3, l4, fun t ht => ?_, l6.keepR (KR.sr (Or.inl (by decide))) (by rw [hz_hsr]; omega) l2, l7.keepR (KR.sr (Or.inl (by decide))) (by rw [hz_hsr]; omega) l2⟩
  by_cases e : t.1 = 0
  · rw [e, hr_hsr_nk (fun z => by have := lyR45 t ht e; omega), ← e]; exact l5 t ht
  · rw [hr_hsr_na e]; exact l5 t ht
theorem LY.sr4 {h : XH} {v : Option Nat} (L : LY h) : LY (hsr h 0 4 v) := LY.sr45 (Or.inl rfl) L
theorem LY.sr5 {h : XH} {v : Option Nat} (L : LY h) : LY (hsr h 0 5 v) := LY.sr45 (Or.inr rfl) L
theorem SC.sd {h : XH} {s k : Nat} {v : Option Nat} (B : SC h s) : SC (hsr h (s + 615) k v) s := by
  obtain ⟨d1, d2, d3, d4, d5, d6, d7, d8, d9, d10, d11, d12⟩ := B
  have e : ∀ j, hr (hsr h (s + 615) k v) s j = hr h s j := fun j => hr_hsr_na (by omega)
  exact ⟨d1, d2, d3, (e 0).trans d4, (e 1).trans d5, (e 2).trans d6, (e 3).trans d7, d8, d9, d10.keepR (KR.sr (Or.inr (by omega))) (by rw [hz_hsr]; omega) d2, d11.keepR (KR.sr (Or.inr (by omega))) (by rw [hz_hsr]; omega) d2, d12.keepR (KR.sr (Or.inr (by omega))) (by rw [hz_hsr]; omega) d2⟩
theorem lyRd : ∀ t ∈ lyR, t.1 ≠ 627 ∧ t.1 ≠ 1243 := by decide
theorem LY.sra {h : XH} {a k : Nat} {v : Option Nat} (L : LY h) (ha : 1317 ≤ a ∨ a = 627 ∨ a = 1243) : LY (hsr h a k v) := by
  rcases ha with ha | ha | ha
  · exact L.srv ha
  · subst ha
    obtain ⟨l1, l2, l3, l4, l5, l6, l7⟩ := L
    exact ⟨l1, l2, l3, l4, fun t ht => (hr_hsr_na (lyRd t ht).1).trans (l5 t ht), l6.sd, l7.keepR (KR.sr (Or.inl (by decide))) (by rw [hz_hsr]; omega) l2⟩
  · subst ha
    obtain ⟨l1, l2, l3, l4, l5, l6, l7⟩ := L
    exact ⟨l1, l2, l3, l4, fun t ht => (hr_hsr_na (lyRd t ht).2).trans (l5 t ht), l6.keepR (KR.sr (Or.inr (by decide))) (by rw [hz_hsr]; omega) l2, l7.sd⟩
/-- a walk that ends in an answer or a throw -/
theorem xe_of {l : Launch} {G : XG} {q : xEnt} {d n : Nat} {as : List Value} {h : XH} {R : Type} {V : R → Option Value} {r : Sum R Nat × XH} (hl : l.stackTraces = false) (hv : xVirt q n) (h11 : q.1 = 11) (hle : (xargs as).length ≤ q.2.2.2.1) (hd : 6 ≤ d)
    (w : XR l G q d (0, xent q as, [], h) (fun C => (∃ v, xRet q C v ∧ (C.2.2.2 = r.2 ∧ ∃ x, r.1 = Sum.inl x ∧ v = V x) ∧ LY r.2) ∨ ∃ k E, r.1 = Sum.inr k ∧ xXs[k]? = some E ∧ XThrown q C E ∧ hthr C.2.2.2 = r.2 ∧ LY r.2)) :
    (∃ x, r.1 = Sum.inl x ∧ XC l G q d as h (fun v h2 => (h2 = r.2 ∧ v = V x) ∧ LY r.2)) ∨ ∃ k E, r.1 = Sum.inr k ∧ xXs[k]? = some E ∧ XCx l G q d as h E (fun h2 => h2 = r.2 ∧ LY r.2) := by
  obtain ⟨C, hP, hS⟩ := w
  rcases hP with ⟨v, h1, ⟨h2, x, h3, h4⟩, h5⟩ | ⟨k, E, h1, h2, h3, h4, h5⟩
  · exact Or.inl ⟨x, h3, XC.virt hv hle ⟨C, ⟨v, h1, ⟨h2, h4⟩, h5⟩, hS⟩⟩
  · exact Or.inr ⟨k, E, h1, h2, XCx.of hl hv h11 hle hd ⟨C, ⟨h3, h4, h5⟩, hS⟩⟩
