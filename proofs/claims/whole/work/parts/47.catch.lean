/-! The law's methods with handlers: contracts, calls, what they catch -/
def xWh (q : xEnt) (hh : List (Nat × Nat × Nat × Nat)) : Cond := .codeWith q.2.1 q.2.2.1 q.2.2.2.1 q.2.2.2.2.1 hh
def XMh (l : Launch) (G : XG) (q : xEnt) (hh : List (Nat × Nat × Nat × Nat)) (d : Nat) (as : List Value) (h : XH) (v : Option Value) (h2 : XH) : Prop :=
  (hz h ≤ hz h2 ∧ hw h ≤ hw h2) ∧ Met l q.2.1 (xWh q hh :: lw_g) (xRoom d h h2) (XPc G h as) (XQc G v h2) (hz h2 - hz h) (hw h2 - hw h) (gO G)
def XCh (l : Launch) (G : XG) (q : xEnt) (hh : List (Nat × Nat × Nat × Nat)) (d : Nat) (as : List Value) (h : XH) (Q : Option Value → XH → Prop) : Prop := ∃ (v : Option Value) (h2 : XH), Q v h2 ∧ XMh l G q hh d as h v h2
/-- 'XCx as h E Q': called with as over h, q throws E and leaves a heap h2 with Q h2 -/
def XCx (l : Launch) (G : XG) (q : xEnt) (d : Nat) (as : List Value) (h : XH) (E : String) (Q : XH → Prop) : Prop := ∃ h2 : XH, Q h2 ∧ XMx l G q d as h E h2
/-- where a walk has come to a throw -/
def XThrown (q : xEnt) (C : XCfg) (E : String) : Prop := ∃ (ik is ic i : Nat) (tx : String), C.2.2.1 = [] ∧ xThr E ik ic ∧ xSite q C.1 ik is ic i tx ∧ hz C.2.2.2 < 1000000
theorem XCx.of {l : Launch} {G : XG} {q : xEnt} {d n : Nat} {as : List Value} {h : XH} {E : String} {Q : XH → Prop} (hl : l.stackTraces = false) (hv : xVirt q n) (h11 : q.1 = 11) (hle : (xargs as).length ≤ q.2.2.2.1) (hd : 6 ≤ d) (r : XR l G q d (0, xent q as, [], h) (fun C => XThrown q C E ∧ Q (hthr C.2.2.2))) : XCx l G q d as h E Q := by
  obtain ⟨⟨pc, L, st, h1⟩, ⟨⟨ik, is, ic, i, tx, e1, e2, e3, e4⟩, h2⟩, h3⟩ := r
  have e5 : st = [] := e1
  subst e5
  exact ⟨hthr h1, h2, XMx.of hl hv h11 hle h3 e2 e3 e4 hd⟩
theorem xgMet {q : xEnt} {hh : List (Nat × Nat × Nat × Nat)} (hw' : xWh q hh ∈ lw_g) : GoodIn lw_g (xWh q hh :: lw_g) := fun w h => lw_g_good w ((List.mem_cons.mp h).elim (fun e => e ▸ hw') id)
section XEnds
variable {p : Program} {l : Launch} {e : Env} {R : Room} {s : State} {m : MethodId} {args : Array Value} {below : List Frame} {meth : Method} {c : Code} {H : Heap} {locs : List Loc} {cells slots mc ms : Nat}
/-- the end of a walk that returns -/
theorem xend {G : XG} {q : xEnt} {C : XCfg} {v : Option Value} {ls : Array Slot} (hx : p.tables.exec = Jvm.exec) (hb : c.code = q.2.2.1) (hret : meth.sig.returnType = q.2.2.2.2.1) (hlk : meth.locks = false) (hg : xGood q) (hr : xRet q C v) (r : XRel G C.2.2.2 H s) (hq : ∀ z ∈ locs, gB G ≤ z.base) (ec : cells = mc) (es : slots = ms) : W p l e R s m args below meth c H locs cells slots (MQ below (XQc G v C.2.2.2) args s mc ms (gO G)) (F0 m C.1 ls (C.2.2.1.map (mv G))) := by
  subst ec es
  have hend : ∀ t : State, t.heap = H → s.WarmedH t.vm → XRel G C.2.2.2 t.heap t := fun t ht hW => by rw [ht]; exact r.moved hW.alike
  rcases hr with ⟨rfl, e1, e2, e3⟩ | ⟨x, rfl, e1, e2, e3⟩ | ⟨x, rfl, e1, e2, e3⟩ | ⟨o, rfl, ⟨n, e1⟩, e2, e3⟩
  · rw [e3]
    exact W.vret hx hb (hret.trans e1) (fun t ht hW => ⟨rfl, hend t ht hW⟩) hq (xI_dec hg e2)
  · rw [e3]
    rcases e1 with e1 | ⟨e1, hx'⟩ | ⟨ty, e1, hx'⟩
    · exact W.iret hx hb (hret.trans e1) (fun t ht hW => ⟨rfl, hend t ht hW⟩) hq (xI_dec hg e2)
    · exact W.zret (v := x) hx hb (hret.trans e1) (by rcases hx' with rfl | rfl <;> rfl) (fun t ht hW => ⟨rfl, hend t ht hW⟩) hq (xI_dec hg e2)
    · exact W.zret (v := x) hx hb (hret.trans e1) hx' (fun t ht hW => ⟨rfl, hend t ht hW⟩) hq (xI_dec hg e2)
  · rw [e3]
    exact W.lret hx hb (hret.trans e1) (fun t ht hW => ⟨rfl, hend t ht hW⟩) hq (xI_dec hg e2)
  · rw [e3]
    exact W.aret (v := mv G (va_rf o)) hx hb (hret.trans e1) (Or.inl ⟨n, rfl⟩) (by cases o with | none => exact Or.inl rfl | some b => exact Or.inr ⟨_, rfl⟩) (fun t ht hW => ⟨rfl, hend t ht hW⟩) hq (xI_dec hg e2)
/-- a call that throws -/
theorem xcontX {G : XG} {h2 : XH} {E : String} {pc : Nat} {ls : Array Slot} {st0 rest : List Value} {Q : State → Prop} (hr : vx_Run p l e R s m args below meth c H locs cells slots mc ms (F0 m pc ls st0) rest (fun _ _ _ => False) (XQx G E h2) (gO G)) (hq : ∀ z ∈ locs, gB G ≤ z.base)
    (kx : ∀ (H1 : Heap) (locs1 : List Loc) (q9 : Addr) (ce : Cell), XRel G h2 H1 s → (∀ z ∈ locs1, gB G ≤ z.base) → H1[q9]? = some ce → ce.vm = .none → s.vm.findClass E = some ce.cls → vx_W p l e R s m args below meth c H1 locs1 (cells + mc) (slots + ms) Q (F0 m pc ls rest) q9) : W p l e R s m args below meth c H locs cells slots Q (F0 m pc ls st0) := by
  intro T hT X
  rcases hr T hT X with ⟨v, st₀, t, T', L, h0, X', hL, e1, e2, hF, st⟩ | ⟨q, st₀, t, T', L, E1, ce, h0, X', hL, e1, e2, ⟨rfl, hb⟩, hce, hcv, hcl, st⟩
  · exact hF.elim
  · have hal : s.vm.Alike t.vm := by rw [← e2]; exact X'.warmed.alike
    obtain ⟨t2, a1, b1⟩ := kx T'.heap (locs ++ L) q ce (by rw [e1]; exact hb.moved hal.symm) (fun z hz' => by
      rcases List.mem_append.mp hz' with h | h
      · exact hq z h
      · exact hL z h) (by rw [e1]; exact hce) hcv hcl T' rfl X'
    exact ⟨t2, st.trans a1, b1⟩
end XEnds
/-- a method with handlers that returns, nothing thrown -/
theorem XMh.of {l : Launch} {G : XG} {q : xEnt} {hh : List (Nat × Nat × Nat × Nat)} {d : Nat} {as : List Value} {h : XH} {C : XCfg} {v : Option Value} (hg : xGood q) (hpl : plainName q.2.1.cls = true) (hcl : q.2.1.cls = xCls q.1) (hle : (xargs as).length ≤ q.2.2.2.1) (r : XS l G q d (0, xent q as, [], h) C) (hr : xRet q C v) : XMh l G q hh d as h v C.2.2.2 := by
  obtain ⟨hmono, hrun⟩ := r
  refine ⟨hmono, va_MetW (cc := q.2.2.1) (maxL := q.2.2.2.1) (ret := q.2.2.2.2.1) (hh := hh) hpl rfl ?_⟩
  intro p e s m args below meth c s₁ B hml hv
  obtain ⟨rfl, hR, hK, hE, hs⟩ := hv
  have hts := atoms_spec (ws := xWh q hh :: lw_g) B.pre
  have hown : s.vm.findClass (xCls q.1) = some m.cls := by rw [← hcl]; exact findClass_of_methodNamed B.named
  have cx : XCtx G q d p (headSpec (xWh q hh :: lw_g) (xRoom d h C.2.2.2)).room s m (as.map (mv G)).toArray meth c := ⟨B.exec, B.bytes, hml, B.returns, B.notSynchronized, (name_of_methodNamed B.named B.method).1, hown, fun w hw' => hts w (List.mem_cons_of_mem _ hw'), hK, hg, Nat.le_refl _, Nat.le_refl _, hE, hs⟩
  rw [lg_entry_eq]
  refine hrun p e _ s m _ below meth c cx _ s.heap [] 0 0 _ hR (xent_L hle) (fun z hz' => absurd hz' List.not_mem_nil) (by rw [Nat.zero_add]; exact Nat.le_refl _) (by rw [Nat.zero_add]; exact Nat.le_refl _) fun H2 locs2 ls2 r2 hl2 hq2 => ?_
  exact xend B.exec B.bytes B.returns B.notSynchronized hg hr r2 hq2 (Nat.zero_add _) (Nat.zero_add _)
/-- how a handler begins: it keeps what was thrown in a local -/
def xHnd (q : xEnt) (pc len : Nat) : Prop := ∃ i, i < q.2.2.2.1 ∧ ((∃ n : Fin 4, (n : Nat) = i ∧ xI q pc = some (.astore_n n, 1) ∧ len = 1) ∨ (xI q pc = some (.astore i, 2) ∧ len = 2))
/-- a method with handlers, whose call throws, and which catches that -/
theorem XMh.caught {l : Launch} {G : XG} {q q2 : xEnt} {hh : List (Nat × Nat × Nat × Nat)} {d d2 n pc idx b len : Nat} {as as2 stk st : List Value} {L : List (Option Value)} {h h1 h2 : XH} {C : XCfg} {v : Option Value} {E : String} (hg : xGood q) (hpl : plainName q.2.1.cls = true) (hcl : q.2.1.cls = xCls q.1) (hle : (xargs as).length ≤ q.2.2.2.1)
    (r : XS l G q d (0, xent q as, [], h) (pc, L, stk, h1)) (hc : xI q pc = some (.invokevirtual idx, 3)) (hv : xVirt q2 n) (hl0 : xLm (xCls q.1) idx q2) (hM : XMx l G q2 d2 (.ref b :: as2) h1 E h2) (hb0 : b < hz h1) (hkb : hk h1 b = q2.1) (h13 : q2.1 < 13) (hstk : stk = as2.reverse ++ .ref b :: st) (hn : as2.length = n) (hd : d2 + 1 ≤ d) (hmx : q2.2.2.2.1 ≤ 21) (hcat : (st.map fun v => v.category).sum ≤ 8)
    (pre suf : List (Nat × Nat × Nat × Nat)) (x : Nat × Nat × Nat × Nat) (hsplit : hh = pre ++ x :: suf) (hE : E ∈ xXs) (hpass : ∀ z ∈ pre, z.2.2.2 ≠ 0 ∧ ∃ nm, Cond.classLink (xCls q.1) z.2.2.2 nm ∈ lw_g ∧ nm ∈ xXs ∧ E ≠ nm) (hx : covers ⟨x.1, x.2.1, x.2.2.1, x.2.2.2⟩ pc = true) (h0 : x.2.2.2 ≠ 0) (hlink : Cond.classLink (xCls q.1) x.2.2.2 E ∈ lw_g) (hst : xHnd q x.2.2.1 len)
    (r2 : XS l G q d (x.2.2.1 + len, [], [], h2) C) (hr : xRet q C v) : XMh l G q hh d as h v C.2.2.2 := by
  obtain ⟨hmono, hrun⟩ := r
  obtain ⟨hmono2, hrun2⟩ := r2
  have m1 : hz h ≤ hz h1 ∧ hw h ≤ hw h1 := hmono
  have m2 := hM.1
  have m3 : hz h2 ≤ hz C.2.2.2 ∧ hw h2 ≤ hw C.2.2.2 := hmono2
  refine ⟨⟨by omega, by omega⟩, va_MetW (cc := q.2.2.1) (maxL := q.2.2.2.1) (ret := q.2.2.2.2.1) (hh := hh) hpl rfl ?_⟩
  intro p e s m args below meth c s₁ B hml hv'
  obtain ⟨rfl, hR, hK, hE', hs⟩ := hv'
  have hts0 := atoms_spec (ws := xWh q hh :: lw_g) B.pre
  have hts : ∀ w ∈ lw_g, w.before (as.map (mv G)).toArray s = true := fun w hw' => hts0 w (List.mem_cons_of_mem _ hw')
  have htab := vx_table (x := q.2.1) B (hts0 _ List.mem_cons_self)
  have hown : s.vm.findClass (xCls q.1) = some m.cls := by rw [← hcl]; exact findClass_of_methodNamed B.named
  have cx : XCtx G q d p (headSpec (xWh q hh :: lw_g) (xRoom d h C.2.2.2)).room s m (as.map (mv G)).toArray meth c := ⟨B.exec, B.bytes, hml, B.returns, B.notSynchronized, (name_of_methodNamed B.named B.method).1, hown, hts, hK, hg, Nat.le_refl _, Nat.le_refl _, hE', hs⟩
  rw [lg_entry_eq]
  refine hrun p e _ s m _ below meth c cx _ s.heap [] 0 0 _ hR (xent_L hle) (fun z hz' => absurd hz' List.not_mem_nil) (show 0 + (hz h1 - hz h) ≤ hz C.2.2.2 - hz h by omega) (show 0 + (hw h1 - hw h) ≤ hw C.2.2.2 - hw h by omega) fun H1 locs1 ls1 r1 hl1 hq1 => ?_
  obtain ⟨-, v1, v2, v3, v4, v5, -, v7⟩ := hv
  have hO := (r1.2.2.1 b hb0).1 (by show hk h1 b < 13; rw [hkb]; exact h13)
  unfold xO at hO
  have hkb' : hk (pc, L, stk, h1).2.2.2 b = q2.1 := hkb
  rw [hkb'] at hO
  obtain ⟨rr, g1, cell, y1, yc, y3, -⟩ := hO
  have hcls := (hK.1 q2.1 _ g1).2
  have hcn := (xcl g1).2.2.2.2.2.2.1
  subst hstk
  show W p l e _ s m _ below meth c H1 locs1 (0 + (hz h1 - hz h)) (0 + (hw h1 - hw h)) _ (F0 m pc ls1 ((as2.reverse ++ .ref b :: st).map (mv G)))
  rw [List.map_append, List.map_reverse]
  refine xcontX (vx_runV (b := gA G b) (As := as2.map (mv G)) (rest := st.map (mv G)) (C := q2.2.1.cls) ⟨B.exec, B.bytes, hml, hown, hts⟩ hM.2 ⟨xB v1 v2 v3 hl0 hts hd hmx (Nat.le_refl d) (Nat.le_refl (40 * d)), hts _ v4, hts _ v5⟩ ⟨XPc.blind, ⟨cell, y1, by rw [y3]; rfl, by rw [v7, ← hcn, yc]; exact hcls.1⟩, XPc.pre (as := .ref b :: as2) r1 hK hE' hs⟩ rfl (by rw [List.length_map]; exact hn) hl1.1 rfl (by show 2 * 0 + _ ≤ 8; rw [xcat]; omega) (xI_dec hg hc) ⟨show 0 + (hz h1 - hz h) + (hz h2 - hz h1) ≤ hz C.2.2.2 - hz h by omega, show 0 + (hw h1 - hw h) + (hw h2 - hw h1) ≤ hw C.2.2.2 - hw h by omega⟩) hq1 fun H3 locs3 q9 ce r3 hq3 hce hcv hcf => ?_
  refine vx_catch (name := E) hown (tableOf pre) ⟨x.1, x.2.1, x.2.2.1, x.2.2.2⟩ (tableOf suf) (by rw [htab, hsplit]; unfold tableOf; rw [List.map_append]; rfl) ?_ hx h0 (hts _ hlink) (hE'.2.2.2.2.2.2.2.1 E hE).word hce hcv hcf ?_
  · intro z hz'
    obtain ⟨z0, hz0, rfl⟩ := List.mem_map.mp hz'
    obtain ⟨k1, nm, k2, k3, k4⟩ := hpass z0 hz0
    exact Or.inr ⟨k1, nm, hts _ k2, hE'.2.2.2.2.2.2.2.2.1 E hE nm k3 k4⟩
  · have fin : ∀ ls9 : Array Slot, XL G ls9 q.2.2.2.1 [] → W p l e (headSpec (xWh q hh :: lw_g) (xRoom d h C.2.2.2)).room s m (as.map (mv G)).toArray below meth c H3 locs3 (0 + (hz h1 - hz h) + (hz h2 - hz h1)) (0 + (hw h1 - hw h) + (hw h2 - hw h1)) (MQ below (XQc G v C.2.2.2) (as.map (mv G)).toArray s (hz C.2.2.2 - hz h) (hw C.2.2.2 - hw h) (gO G)) (F0 m (x.2.2.1 + len) ls9 []) := fun ls9 hl9 => by
      refine hrun2 p e _ s m _ below meth c cx _ H3 locs3 _ _ ls9 r3 hl9 hq3 (show 0 + (hz h1 - hz h) + (hz h2 - hz h1) + (hz C.2.2.2 - hz h2) ≤ hz C.2.2.2 - hz h by omega) (show 0 + (hw h1 - hw h) + (hw h2 - hw h1) + (hw C.2.2.2 - hw h2) ≤ hw C.2.2.2 - hw h by omega) fun H4 locs4 ls4 r4 hl4 hq4 => ?_
      exact xend B.exec B.bytes B.returns B.notSynchronized hg hr r4 hq4 (show 0 + (hz h1 - hz h) + (hz h2 - hz h1) + (hz C.2.2.2 - hz h2) = hz C.2.2.2 - hz h by omega) (show 0 + (hw h1 - hw h) + (hw h2 - hw h1) + (hw C.2.2.2 - hw h2) = hw C.2.2.2 - hw h by omega)
    obtain ⟨i, hi', ⟨n9, e9, k9, rfl⟩ | ⟨k9, rfl⟩⟩ := hst
    · exact lv_astore_n B.exec B.bytes (xI_dec hg k9) e9 hl1.has hi' rfl fun ls2 h9 => fin ls2 ⟨h9.1, h9.2.1, fun i v hv' => by cases hv'⟩
    · exact lv_astore B.exec B.bytes (xI_dec hg k9) hl1.has hi' rfl fun ls2 h9 => fin ls2 ⟨h9.1, h9.2.1, fun i v hv' => by cases hv'⟩
section XCallsW
variable {l : Launch} {G : XG} {q q2 : xEnt} {d d2 pc n idx : Nat} {L : List (Option Value)} {st stk as : List Value} {h h2 : XH} {v : Option Value} {hh : List (Nat × Nat × Nat × Nat)}
/-- a static method with handlers -/
def xStatW (q : xEnt) (hh : List (Nat × Nat × Nat × Nat)) (n : Nat) : Prop := xGood q ∧ xWh q hh ∈ lw_g ∧ Cond.initialized q.2.1.cls ∈ lw_g ∧ xPlain q.2.1 n ∧ Cond.static q.2.1 ∈ lw_g ∧ plainName q.2.1.cls = true ∧ q.2.1.cls = xCls q.1
theorem s_callsW (hc : xI q pc = some (.invokestatic idx, 3)) (hv : xStatW q2 hh n) (hl0 : xLm (xCls q.1) idx q2) (hM : XMh l G q2 hh d2 as h v h2) (hstk : stk = as.reverse ++ st) (hn : as.length = n) (hd : d2 + 1 ≤ d) (hmx : q2.2.2.2.1 ≤ 21) (hcat : (st.map fun v => v.category).sum ≤ 8) :
    XS l G q d (pc, L, stk, h) (pc + 3, L, v.toList ++ st, h2) := by
  refine ⟨hM.1, fun p e Rm s m args below meth c cx Qf H locs cells slots ls r hl hq hcl hsl kk => ?_⟩
  obtain ⟨hx, hb, hml, -, -, -, hown, hts, hK, hg, hfr, hlo, hE, hs⟩ := cx
  obtain ⟨-, v1, v2, v3, v4, -⟩ := hv
  have w := kk
  simp only [List.map_append] at w
  subst hstk
  show W p l e Rm s m args below meth c H locs cells slots Qf (F0 m pc ls ((as.reverse ++ st).map (mv G)))
  rw [List.map_append, List.map_reverse]
  have cw : vx_CSW Rm s args (xCls q.1) idx q2.2.1 q2.2.2.1 q2.2.2.2.1 q2.2.2.2.2.1 hh (xWh q2 hh :: lw_g) (xRoom d2 h h2) (hz h2 - hz h) (hw h2 - hw h) n :=
    ⟨⟨rfl, rfl, show d2 + 1 ≤ Rm.frames by omega, show 8 + (q2.2.2.2.1 + 11) + 40 * d2 ≤ Rm.locals by omega, pay_in hts (xgMet v1), List.mem_cons_self⟩, hts _ v1, hts _ v2, ⟨v3.1, v3.2.1⟩, fun sig hsig => by
      have h9 := v3.2.2
      rw [hsig] at h9
      exact (Option.some.inj h9).symm, hts _ hl0, hts _ v4⟩
  refine xcont (vx_runSW (As := as.map (mv G)) (rest := st.map (mv G)) ⟨hx, hb, hml, hown, hts⟩ hM.2 cw ⟨XPc.blind, XPc.pre (as := as) r hK hE hs⟩ rfl (by rw [List.length_map]; exact hn) hl.1 rfl (by show 2 * 0 + _ ≤ 8; rw [xcat]; omega) (xI_dec hg hc) ⟨hcl, hsl⟩) hq fun H1 locs1 r1 hq1 => ?_
  have w1 := w H1 locs1 ls r1 hl hq1
  have e9 : (v.map (mv G)).toList = v.toList.map (mv G) := by cases v <;> rfl
  rw [e9]
  exact w1
theorem r_callsW {Q : Option Value → XH → Prop} {P : XCfg → Prop} (hc : xI q pc = some (.invokestatic idx, 3)) (hv : xStatW q2 hh n) (hl0 : xLm (xCls q.1) idx q2) (hX : XCh l G q2 hh d2 as h Q) (hstk : stk = as.reverse ++ st) (hn : as.length = n) (hd : d2 + 1 ≤ d) (hmx : q2.2.2.2.1 ≤ 21) (hcat : (st.map fun v => v.category).sum ≤ 8)
    (k : ∀ v h2, Q v h2 → XR l G q d (pc + 3, L, v.toList ++ st, h2) P) : XR l G q d (pc, L, stk, h) P := by
  obtain ⟨v, h2, hQ, hM⟩ := hX
  exact XS.go (s_callsW hc hv hl0 hM hstk hn hd hmx hcat) (k v h2 hQ)
end XCallsW
def hhL_schema : List (Nat × Nat × Nat × Nat) := [(0, 8, 11, 13)]
theorem xwL_schema : xStatW xEL_schema hhL_schema 2 := ⟨xgL_schema, (lg_4 55 rfl rfl), (lg_1 0 rfl rfl), ⟨by decide +kernel, by decide +kernel, by decide +kernel⟩, (lg_4 54 rfl rfl), by decide +kernel, rfl⟩
def hhL_text : List (Nat × Nat × Nat × Nat) := [(0, 8, 11, 18), (0, 8, 14, 20)]
theorem xwL_text : xStatW xEL_text hhL_text 2 := ⟨xgL_text, (lg_6 36 rfl rfl), (lg_1 0 rfl rfl), ⟨by decide +kernel, by decide +kernel, by decide +kernel⟩, (lg_6 35 rfl rfl), by decide +kernel, rfl⟩
def hhL_vector : List (Nat × Nat × Nat × Nat) := [(0, 10, 13, 18), (0, 10, 17, 13), (0, 10, 21, 20)]
theorem xwL_vector : xStatW xEL_vector hhL_vector 4 := ⟨xgL_vector, (lg_6 105 rfl rfl), (lg_1 0 rfl rfl), ⟨by decide +kernel, by decide +kernel, by decide +kernel⟩, (lg_6 104 rfl rfl), by decide +kernel, rfl⟩
def hhL_begin : List (Nat × Nat × Nat × Nat) := [(0, 5, 8, 18), (0, 5, 11, 30)]
theorem xwL_begin : xStatW xEL_begin hhL_begin 2 := ⟨xgL_begin, (lg_6 166 rfl rfl), (lg_1 0 rfl rfl), ⟨by decide +kernel, by decide +kernel, by decide +kernel⟩, (lg_6 165 rfl rfl), by decide +kernel, rfl⟩
def hhL_set : List (Nat × Nat × Nat × Nat) := [(0, 16, 19, 18), (0, 16, 22, 30), (0, 16, 25, 13), (0, 16, 28, 20)]
theorem xwL_set : xStatW xEL_set hhL_set 3 := ⟨xgL_set, (lg_6 194 rfl rfl), (lg_1 0 rfl rfl), ⟨by decide +kernel, by decide +kernel, by decide +kernel⟩, (lg_6 193 rfl rfl), by decide +kernel, rfl⟩
def hhL_ready : List (Nat × Nat × Nat × Nat) := [(0, 8, 11, 18), (0, 8, 14, 20)]
theorem xwL_ready : xStatW xEL_ready hhL_ready 2 := ⟨xgL_ready, (lg_6 233 rfl rfl), (lg_1 0 rfl rfl), ⟨by decide +kernel, by decide +kernel, by decide +kernel⟩, (lg_6 232 rfl rfl), by decide +kernel, rfl⟩
def hhL_finish : List (Nat × Nat × Nat × Nat) := [(0, 9, 12, 18), (0, 9, 15, 13), (0, 9, 18, 20)]
theorem xwL_finish : xStatW xEL_finish hhL_finish 3 := ⟨xgL_finish, (lg_7 29 rfl rfl), (lg_1 0 rfl rfl), ⟨by decide +kernel, by decide +kernel, by decide +kernel⟩, (lg_7 28 rfl rfl), by decide +kernel, rfl⟩
def hhL_load : List (Nat × Nat × Nat × Nat) := [(0, 16, 19, 13), (0, 16, 22, 18)]
theorem xwL_load : xStatW xEL_load hhL_load 3 := ⟨xgL_load, (lg_7 43 rfl rfl), (lg_1 0 rfl rfl), ⟨by decide +kernel, by decide +kernel, by decide +kernel⟩, (lg_7 42 rfl rfl), by decide +kernel, rfl⟩
def hhL_read : List (Nat × Nat × Nat × Nat) := [(0, 8, 11, 30)]
theorem xwL_read : xStatW xEL_read hhL_read 3 := ⟨xgL_read, (lg_7 58 rfl rfl), (lg_1 0 rfl rfl), ⟨by decide +kernel, by decide +kernel, by decide +kernel⟩, (lg_7 57 rfl rfl), by decide +kernel, rfl⟩
