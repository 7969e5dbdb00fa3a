/-! A method's entry and its end: a contract out of a walk -/
def xargs : List Value → List (Option Value)
  | [] => []
  | v :: r => match v.category with
    | 2 => some v :: none :: xargs r
    | _ => some v :: xargs r
def xent (q : xEnt) (as : List Value) : List (Option Value) := xargs as ++ List.replicate (q.2.2.2.1 - (xargs as).length) none
theorem xargs_in {G : XG} : ∀ (as : List Value) (k i : Nat) (v : Value), (xargs as)[i]? = some (some v) → (k + i, mv G v) ∈ lv_args k (as.map (mv G)) := by
  intro as
  induction as with
  | nil => intro k i v h; simp [xargs] at h
  | cons w r ih =>
    intro k i v h
    rw [List.map_cons, lv_args]
    unfold xargs at h
    split at h
    · rename_i hc
      rw [if_pos (by rw [mv_cat]; exact hc)]
      match i, h with
      | 0, h => simp at h; rw [h]; exact List.mem_cons_self
      | 1, h => simp at h
      | j + 2, h =>
        have := ih (k + 2) j v (by simpa using h)
        rw [show k + (j + 2) = k + 2 + j by omega]
        exact List.mem_cons_of_mem _ this
    · rename_i hc
      rw [if_neg (by rw [mv_cat]; exact fun e => hc e)]
      match i, h with
      | 0, h => simp at h; rw [h]; exact List.mem_cons_self
      | j + 1, h =>
        have := ih (k + 1) j v (by simpa using h)
        rw [show k + (j + 1) = k + 1 + j by omega]
        exact List.mem_cons_of_mem _ this
theorem xargs_len {G : XG} : ∀ as : List Value, (lg_sl (as.map (mv G))).length = (xargs as).length := by
  intro as
  induction as with
  | nil => rfl
  | cons w r ih =>
    rw [List.map_cons]
    show (List.flatMap _ _).length = _
    rw [List.flatMap_cons, List.length_append]
    have ih' : (List.flatMap (fun v : Value => if v.category = 2 then [Slot.val v, .second] else [.val v]) (r.map (mv G))).length = (xargs r).length := ih
    rw [ih']
    by_cases hc : w.category = 2
    · have e1 : xargs (w :: r) = some w :: none :: xargs r := by
        show (match w.category with | 2 => some w :: none :: xargs r | _ => some w :: xargs r) = _
        rw [hc]; rfl
      rw [e1, if_pos (by rw [mv_cat]; exact hc)]
      simp; omega
    · have e1 : xargs (w :: r) = some w :: xargs r := by
        show (match w.category with | 2 => some w :: none :: xargs r | _ => some w :: xargs r) = _
        split
        · rename_i e; exact absurd e hc
        · rfl
      rw [e1, if_neg (by rw [mv_cat]; exact hc)]
      simp; omega
theorem xent_L {G : XG} {q : xEnt} {as : List Value} (hle : (xargs as).length ≤ q.2.2.2.1) : XL G ((lg_sl (as.map (mv G)) ++ List.replicate (q.2.2.2.1 - (lg_sl (as.map (mv G))).length) Slot.unset).toArray) q.2.2.2.1 (xent q as) := by
  have hl := lv_entry (as.map (mv G)) (n := q.2.2.2.1) (by rw [xargs_len]; exact hle)
  refine ⟨hl.1, hl.2.1, fun i v h => hl.2.2 (i, mv G v) ?_⟩
  unfold xent at h
  rcases Nat.lt_or_ge i (xargs as).length with h1 | h1
  · rw [List.getElem?_append_left h1] at h
    have := xargs_in (G := G) as 0 i v h
    rw [Nat.zero_add] at this
    exact this
  · rw [List.getElem?_append_right h1] at h
    have := List.mem_of_getElem? h
    rw [List.mem_replicate] at this
    cases this.2
/-- C stands at a return, with v -/
def xRet (q : xEnt) (C : XCfg) (v : Option Value) : Prop :=
  (v = none ∧ q.2.2.2.2.1 = none ∧ xI q C.1 = some (.return_, 1) ∧ C.2.2.1 = []) ∨
  (∃ x : Int32, v = some (.int x) ∧ (q.2.2.2.2.1 = some .int ∨ (q.2.2.2.2.1 = some .boolean ∧ (x = 0 ∨ x = 1)) ∨ ∃ ty, q.2.2.2.2.1 = some ty ∧ narrow ty (.int x) = .int x) ∧ xI q C.1 = some (.ireturn, 1) ∧ C.2.2.1 = [.int x]) ∨
  (∃ x : Int64, v = some (.long x) ∧ q.2.2.2.2.1 = some .long ∧ xI q C.1 = some (.lreturn, 1) ∧ C.2.2.1 = [.long x]) ∨
  (∃ o : Option Nat, v = some (va_rf o) ∧ (∃ n, q.2.2.2.2.1 = some (.object n)) ∧ xI q C.1 = some (.areturn, 1) ∧ C.2.2.1 = [va_rf o])
/-- 'XC as h Q': called with as over h, q returns a v and leaves a heap h2 with Q v h2 -/
def XC (l : Launch) (G : XG) (q : xEnt) (d : Nat) (as : List Value) (h : XH) (Q : Option Value → XH → Prop) : Prop := ∃ (v : Option Value) (h2 : XH), Q v h2 ∧ XM l G q d as h v h2
theorem XM.of {l : Launch} {G : XG} {q : xEnt} {d : Nat} {as : List Value} {h : XH} {C : XCfg} {v : Option Value} (hg : xGood q) (hpl : plainName q.2.1.cls = true) (hcl : q.2.1.cls = xCls q.1) (hle : (xargs as).length ≤ q.2.2.2.1) (r : XS l G q d (0, xent q as, [], h) C) (hr : xRet q C v) : XM l G q d as h v C.2.2.2 := by
  obtain ⟨hmono, hrun⟩ := r
  refine ⟨hmono, Met.ofW (cc := q.2.2.1) (maxL := q.2.2.2.1) (ret := q.2.2.2.2.1) hpl rfl ?_⟩
  intro p e s m args below meth c s₁ B hml hv
  obtain ⟨rfl, hR, hK, hE, hs⟩ := hv
  have hts := atoms_spec (ws := xW q :: lw_g) B.pre
  have hown : s.vm.findClass (xCls q.1) = some m.cls := by rw [← hcl]; exact findClass_of_methodNamed B.named
  have cx : XCtx G q d p (headSpec (xW q :: lw_g) (xRoom d h C.2.2.2)).room s m (as.map (mv G)).toArray meth c := ⟨B.exec, B.bytes, hml, B.returns, B.notSynchronized, (name_of_methodNamed B.named B.method).1, hown, fun w hw' => hts w (List.mem_cons_of_mem _ hw'), hK, hg, Nat.le_refl _, Nat.le_refl _, hE, hs⟩
  rw [lg_entry_eq]
  refine hrun p e _ s m _ below meth c cx _ s.heap [] 0 0 _ hR (xent_L hle) (fun z hz' => absurd hz' List.not_mem_nil) (by rw [Nat.zero_add]; exact Nat.le_refl _) (by rw [Nat.zero_add]; exact Nat.le_refl _) fun H2 locs2 ls2 r2 hl2 hq2 => ?_
  rw [Nat.zero_add, Nat.zero_add]
  have hlk := B.notSynchronized
  have hend : ∀ t : State, t.heap = H2 → s.WarmedH t.vm → XRel G C.2.2.2 t.heap t := fun t ht hW => by rw [ht]; exact r2.moved hW.alike
  rcases hr with ⟨rfl, e1, e2, e3⟩ | ⟨x, rfl, e1, e2, e3⟩ | ⟨x, rfl, e1, e2, e3⟩ | ⟨o, rfl, ⟨n, e1⟩, e2, e3⟩
  · rw [e3]
    exact W.vret B.exec B.bytes (B.returns.trans e1) (fun t ht hW => ⟨rfl, hend t ht hW⟩) hq2 (xI_dec hg e2)
  · rw [e3]
    rcases e1 with e1 | ⟨e1, hx⟩ | ⟨ty, e1, hx⟩
    · exact W.iret B.exec B.bytes (B.returns.trans e1) (fun t ht hW => ⟨rfl, hend t ht hW⟩) hq2 (xI_dec hg e2)
    · exact W.zret (v := x) B.exec B.bytes (B.returns.trans e1) (by rcases hx with rfl | rfl <;> rfl) (fun t ht hW => ⟨rfl, hend t ht hW⟩) hq2 (xI_dec hg e2)
    · exact W.zret (v := x) B.exec B.bytes (B.returns.trans e1) hx (fun t ht hW => ⟨rfl, hend t ht hW⟩) hq2 (xI_dec hg e2)
  · rw [e3]
    exact W.lret B.exec B.bytes (B.returns.trans e1) (fun t ht hW => ⟨rfl, hend t ht hW⟩) hq2 (xI_dec hg e2)
  · rw [e3]
    exact W.aret (v := mv G (va_rf o)) B.exec B.bytes (B.returns.trans e1) (Or.inl ⟨n, rfl⟩) (by cases o with | none => exact Or.inl rfl | some b => exact Or.inr ⟨_, rfl⟩) (fun t ht hW => ⟨rfl, hend t ht hW⟩) hq2 (xI_dec hg e2)
theorem XC.of {l : Launch} {G : XG} {q : xEnt} {d : Nat} {as : List Value} {h : XH} {Q : Option Value → XH → Prop} (hg : xGood q) (hpl : plainName q.2.1.cls = true) (hcl : q.2.1.cls = xCls q.1) (hle : (xargs as).length ≤ q.2.2.2.1) (r : XR l G q d (0, xent q as, [], h) (fun C => ∃ v, xRet q C v ∧ Q v C.2.2.2)) : XC l G q d as h Q := by
  obtain ⟨C, ⟨v, h1, h2⟩, h3⟩ := r
  exact ⟨v, C.2.2.2, h2, XM.of hg hpl hcl hle h3 h1⟩
theorem XC.virt {l : Launch} {G : XG} {q : xEnt} {n d : Nat} {as : List Value} {h : XH} {Q : Option Value → XH → Prop} (hv : xVirt q n) (hle : (xargs as).length ≤ q.2.2.2.1) (r : XR l G q d (0, xent q as, [], h) (fun C => ∃ v, xRet q C v ∧ Q v C.2.2.2)) : XC l G q d as h Q := XC.of hv.1 hv.2.2.2.2.2.2.1 hv.2.2.2.2.2.2.2 hle r
theorem XC.stat {l : Launch} {G : XG} {q : xEnt} {n d : Nat} {as : List Value} {h : XH} {Q : Option Value → XH → Prop} (hv : xStat q n) (hle : (xargs as).length ≤ q.2.2.2.1) (r : XR l G q d (0, xent q as, [], h) (fun C => ∃ v, xRet q C v ∧ Q v C.2.2.2)) : XC l G q d as h Q := XC.of hv.1 hv.2.2.2.2.2.1 hv.2.2.2.2.2.2 hle r
theorem XC.init {l : Launch} {G : XG} {q : xEnt} {n d : Nat} {as : List Value} {h : XH} {Q : Option Value → XH → Prop} (hv : xInit q n) (hle : (xargs as).length ≤ q.2.2.2.1) (r : XR l G q d (0, xent q as, [], h) (fun C => ∃ v, xRet q C v ∧ Q v C.2.2.2)) : XC l G q d as h Q := XC.of hv.1 hv.2.2.2.2.2.2.1 hv.2.2.2.2.2.2.2 hle r
theorem XC.mono {l : Launch} {G : XG} {q : xEnt} {d : Nat} {as : List Value} {h : XH} {P Q : Option Value → XH → Prop} (a : XC l G q d as h P) (b : ∀ v h2, P v h2 → Q v h2) : XC l G q d as h Q := by
  obtain ⟨v, h2, h1, hM⟩ := a
  exact ⟨v, h2, b v h2 h1, hM⟩
/-- ends of walks -/
theorem XR.retv {l : Launch} {G : XG} {q : xEnt} {d pc : Nat} {L : List (Option Value)} {h : XH} {P : XCfg → Prop} (hc : xI q pc = some (.return_, 1)) (ht : q.2.2.2.2.1 = none) (k : xRet q (pc, L, [], h) none → P (pc, L, [], h)) : XR l G q d (pc, L, [], h) P := XR.here (k (Or.inl ⟨rfl, ht, hc, rfl⟩))
theorem XR.reti {l : Launch} {G : XG} {q : xEnt} {d pc : Nat} {L : List (Option Value)} {h : XH} {x : Int32} {P : XCfg → Prop} (hc : xI q pc = some (.ireturn, 1)) (ht : q.2.2.2.2.1 = some .int) (k : xRet q (pc, L, [.int x], h) (some (.int x)) → P (pc, L, [.int x], h)) : XR l G q d (pc, L, [.int x], h) P := XR.here (k (Or.inr (Or.inl ⟨x, rfl, Or.inl ht, hc, rfl⟩)))
theorem XR.retz {l : Launch} {G : XG} {q : xEnt} {d pc : Nat} {L : List (Option Value)} {h : XH} {x : Int32} {P : XCfg → Prop} (hc : xI q pc = some (.ireturn, 1)) (ht : q.2.2.2.2.1 = some .boolean) (hx : x = 0 ∨ x = 1) (k : xRet q (pc, L, [.int x], h) (some (.int x)) → P (pc, L, [.int x], h)) : XR l G q d (pc, L, [.int x], h) P := XR.here (k (Or.inr (Or.inl ⟨x, rfl, Or.inr (Or.inl ⟨ht, hx⟩), hc, rfl⟩)))
theorem XR.retn {l : Launch} {G : XG} {q : xEnt} {d pc : Nat} {L : List (Option Value)} {h : XH} {x : Int32} {ty : FieldType} {P : XCfg → Prop} (hc : xI q pc = some (.ireturn, 1)) (ht : q.2.2.2.2.1 = some ty) (hx : narrow ty (.int x) = .int x) (k : xRet q (pc, L, [.int x], h) (some (.int x)) → P (pc, L, [.int x], h)) : XR l G q d (pc, L, [.int x], h) P := XR.here (k (Or.inr (Or.inl ⟨x, rfl, Or.inr (Or.inr ⟨ty, ht, hx⟩), hc, rfl⟩)))
theorem XR.retl {l : Launch} {G : XG} {q : xEnt} {d pc : Nat} {L : List (Option Value)} {h : XH} {x : Int64} {P : XCfg → Prop} (hc : xI q pc = some (.lreturn, 1)) (ht : q.2.2.2.2.1 = some .long) (k : xRet q (pc, L, [.long x], h) (some (.long x)) → P (pc, L, [.long x], h)) : XR l G q d (pc, L, [.long x], h) P := XR.here (k (Or.inr (Or.inr (Or.inl ⟨x, rfl, ht, hc, rfl⟩))))
theorem XR.reta {l : Launch} {G : XG} {q : xEnt} {d pc : Nat} {L : List (Option Value)} {h : XH} {o : Option Nat} {n : String} {P : XCfg → Prop} (hc : xI q pc = some (.areturn, 1)) (ht : q.2.2.2.2.1 = some (.object n)) (k : xRet q (pc, L, [va_rf o], h) (some (va_rf o)) → P (pc, L, [va_rf o], h)) : XR l G q d (pc, L, [va_rf o], h) P := XR.here (k (Or.inr (Or.inr (Or.inr ⟨o, rfl, ⟨n, ht⟩, hc, rfl⟩))))
/-- Object's constructor; Math.max -/
theorem s_objInit {l : Launch} {G : XG} {q : xEnt} {d pc idx a : Nat} {L : List (Option Value)} {st : List Value} {h : XH} (hc : xI q pc = some (.invokespecial idx, 3)) (hl0 : Cond.methodLink (xCls q.1) idx Lib.objectInit ∈ lw_g) (hi0 : Cond.instanceMethod Lib.objectInit ∈ lw_g) (hc0 : Cond.code Lib.objectInit ⟨#[0xb1]⟩ 1 none ∈ lw_g) (hd : 1 ≤ d) (hcat : (st.map fun v => v.category).sum ≤ 8) : XS l G q d (pc, L, .ref a :: st, h) (pc + 3, L, st, h) := XS.pure (fun p e Rm s m args below meth c cx Qf H locs cells slots ls hl k => by
  obtain ⟨hx, hb, hml, -, -, -, hown, hts, -, hg, hfr, hlo, -, -⟩ := cx
  exact W.objInit hx hb hown (hts _ hl0) (hts _ hi0) (hts _ hc0) rfl (by rw [hml]; exact hl.1) rfl (xI_dec hg hc) (by omega) (by show 2 * 0 + _ + 12 ≤ _; rw [xcat]; omega) (k ls hl))
