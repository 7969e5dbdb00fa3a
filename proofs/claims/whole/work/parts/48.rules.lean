/-! Rows that the laid functions need -/
def xsub : List (Option Value) → List (Option Value) → Prop
  | [], _ => True
  | none :: a, _ :: b => xsub a b
  | some v :: a, some w :: b => v = w ∧ xsub a b
  | _ :: _, _ => False
theorem xsub_get : ∀ (a b : List (Option Value)) (i : Nat) (v : Value), xsub a b → a[i]? = some (some v) → b[i]? = some (some v) := by
  intro a
  induction a with
  | nil => intro b i v _ h; simp at h
  | cons x a ih =>
    intro b i v hs h
    cases b with
    | nil => cases x <;> exact hs.elim
    | cons y b =>
      cases x with
      | none =>
        cases i with
        | zero => simp at h
        | succ i => simpa using ih b i v hs (by simpa using h)
      | some z =>
        cases y with
        | none => exact hs.elim
        | some w =>
          cases i with
          | zero => simp at h ⊢; exact hs.1 ▸ h
          | succ i => simpa using ih b i v hs.2 (by simpa using h)
theorem XL.sub {G : XG} {ls : Array Slot} {nL : Nat} {L L2 : List (Option Value)} (hs : xsub L2 L) (hl : XL G ls nL L) : XL G ls nL L2 := ⟨hl.1, hl.2.1, fun i v hv => hl.2.2 i v (xsub_get L2 L i v hs hv)⟩
theorem XR.forget {l : Launch} {G : XG} {q : xEnt} {d pc : Nat} {L L2 : List (Option Value)} {st : List Value} {h : XH} {P : XCfg → Prop} (hs : xsub L2 L) (k : XR l G q d (pc, L2, st, h) P) : XR l G q d (pc, L, st, h) P :=
  XS.go (XS.pure (fun p e Rm s m args below meth c cx Qf H locs cells slots ls hl k => k ls (hl.sub hs))) k
section XRules
variable {l : Launch} {G : XG} {q : xEnt} {d pc : Nat} {L : List (Option Value)} {st : List Value} {h : XH}
theorem s_aald104e {a b : Nat} {i : Int32} (hc : xI q pc = some (.aaload, 1)) (ha : a < hz h) (hk0 : hk h a = 104) (hin : vp_in i (hn h a)) (e : hr h a i.toNatClampNeg = some b) : XS l G q d (pc, L, .int i :: .ref a :: st, h) (pc + 1, L, .ref b :: st, h) := by
  have z := s_aald104 (l := l) (G := G) (d := d) (L := L) (st := st) hc ha hk0 hin
  rw [e] at z
  exact z
theorem s_aald105e {a b : Nat} {i : Int32} (hc : xI q pc = some (.aaload, 1)) (ha : a < hz h) (hk0 : hk h a = 105) (hin : vp_in i (hn h a)) (e : hr h a i.toNatClampNeg = some b) : XS l G q d (pc, L, .int i :: .ref a :: st, h) (pc + 1, L, .ref b :: st, h) := by
  have z := s_aald105 (l := l) (G := G) (d := d) (L := L) (st := st) hc ha hk0 hin
  rw [e] at z
  exact z
theorem s_max {idx : Nat} {x y : Int32} (hc : xI q pc = some (.invokestatic idx, 3)) (hl0 : Cond.methodLink (xCls q.1) idx Lib.Math.max.name ∈ lw_g) (hd : 1 ≤ d) (hcat : (st.map fun v => v.category).sum ≤ 8) : XS l G q d (pc, L, .int y :: .int x :: st, h) (pc + 3, L, .int (if x < y then y else x) :: st, h) := by
  refine ⟨⟨Nat.le_refl _, Nat.le_refl _⟩, fun p e Rm s m args below meth c cx Qf H locs cells slots ls r hl hq hcl hsl kk => ?_⟩
  obtain ⟨hx, hb, hml, -, -, -, hown, hts, hK, hg, hfr, hlo, hE, hs⟩ := cx
  have w := kk H locs ls r hl hq
  have c1 : cells + (hz h - hz h) = cells := by omega
  have c2 : slots + (hw h - hw h) = slots := by omega
  have w2 : W p l e Rm s m args below meth c H locs (cells + (hz h - hz h)) (slots + (hw h - hw h)) Qf (F0 m (pc + 3) ls (.int (if x < y then y else x) :: st.map (mv G))) := w
  have d1 : cells + (hz h - hz h) ≤ Rm.cells := hcl
  have d2 : slots + (hw h - hw h) ≤ Rm.slots := hsl
  rw [c1, c2] at w2
  exact va_mmax (x := x) (y := y) (rest := st.map (mv G)) hx hb (hml.trans hl.1.symm) hown (hts _ hl0) (hts _ (lg_4 193 rfl rfl)) (hts _ (lg_1 16 rfl rfl)) (hts _ (lg_4 194 rfl rfl)) (by omega) (by rw [xcat]; omega) (by omega) (by omega) (xI_dec hg hc) w2
end XRules
