/-! Contracts of methods, and calls by them -/
def XPc (G : XG) (h : XH) (as : List Value) : Array Value → State → Prop := fun a U => a = (as.map (mv G)).toArray ∧ XRel G h U.heap U ∧ va_K (gD G) vwCl [] U ∧ xEx G U ∧ ∀ a, a ≠ 10000200 → G.2.1 a < G.1
def XQc (G : XG) (v : Option Value) (h2 : XH) : Array Value → State → Outcome → State → Prop := fun _ _ oc t => oc = .returned (v.map (mv G)) ∧ XRel G h2 t.heap t
def xRoom (d : Nat) (h h2 : XH) : Room := { frames := d, cells := hz h2 - hz h, slots := hw h2 - hw h, locals := 40 * d }
/-- method q, with d frames above it, from the arguments as and the heap h: it returns v, and the heap is h2 -/
def XM (l : Launch) (G : XG) (q : xEnt) (d : Nat) (as : List Value) (h : XH) (v : Option Value) (h2 : XH) : Prop :=
  (hz h ≤ hz h2 ∧ hw h ≤ hw h2) ∧ Met l q.2.1 (xW q :: lw_g) (xRoom d h h2) (XPc G h as) (XQc G v h2) (hz h2 - hz h) (hw h2 - hw h) (gO G)
theorem XPc.blind {G : XG} {h : XH} {as : List Value} : FrameBlind (XPc G h as) := fun a U g mk w => ⟨w.1, w.2.1.moved (u := U) (U := U.calling g mk a) (Vm.Alike.refl U.vm), va_K.moved (u := U) (U := U.calling g mk a) (Vm.Alike.refl U.vm) w.2.2.1, xEx.same (s := U) (U := U.calling g mk a) rfl w.2.2.2.1, w.2.2.2.2⟩
theorem XPc.pre {G : XG} {h : XH} {as : List Value} {H : Heap} {s : State} (r : XRel G h H s) (hK : va_K (gD G) vwCl [] s) (hE : xEx G s) (hs : ∀ a, a ≠ 10000200 → G.2.1 a < G.1) : ∀ U : State, U.heap = H → s.WarmedH U.vm → XPc G h as (as.map (mv G)).toArray U :=
  fun U hU hW => ⟨rfl, by rw [hU]; exact r.moved hW.alike, va_K.moved hW.alike hK, hE.warm hW, hs⟩
theorem xG_of {q : xEnt} (hw' : xW q ∈ lw_g) : GoodIn lw_g (xW q :: lw_g) := fun w h => lw_g_good w ((List.mem_cons.mp h).elim (fun e => e ▸ hw') id)
section XCalls
variable {p : Program} {l : Launch} {e : Env} {R : Room} {s : State} {m : MethodId} {args : Array Value} {below : List Frame} {meth : Method} {c : Code} {H : Heap} {locs : List Loc} {cells slots : Nat} {Q : State → Prop}
theorem xcont {G : XG} {h2 : XH} {v : Option Value} {a : Array Value} {pc mc ms : Nat} {ls : Array Slot} {st0 rest : List Value} (hr : va_Run p l e R s m args below meth c H locs cells slots mc ms (F0 m pc ls st0) rest (XQc G v h2 a) (gO G)) (hq : ∀ z ∈ locs, gB G ≤ z.base)
    (kk : ∀ (H1 : Heap) (locs1 : List Loc), XRel G h2 H1 s → (∀ z ∈ locs1, gB G ≤ z.base) → W p l e R s m args below meth c H1 locs1 (cells + mc) (slots + ms) Q (F0 m (pc + 3) ls ((v.map (mv G)).toList ++ rest))) : W p l e R s m args below meth c H locs cells slots Q (F0 m pc ls st0) := by
  intro T hT X
  obtain ⟨v', st₀, t, T', L, h0, X', hL, e1, e2, ⟨hv, hb⟩, st⟩ := hr T hT X
  cases hv
  have hal : s.vm.Alike t.vm := by rw [← e2]; exact X'.warmed.alike
  obtain ⟨t2, a1, b1⟩ := kk T'.heap (locs ++ L) (by rw [e1]; exact hb.moved hal.symm) (fun z hz' => by
    rcases List.mem_append.mp hz' with h | h
    · exact hq z h
    · exact hL z h) T' rfl X'
  exact ⟨t2, st t2 a1, b1⟩
end XCalls
section XCalls2
variable {l : Launch} {G : XG} {q q2 : xEnt} {d d2 pc n idx : Nat} {L : List (Option Value)} {st stk as : List Value} {h h2 : XH} {v : Option Value}
theorem xcat (st : List Value) : ((st.map (mv G)).map fun v => v.category) = st.map fun v => v.category := by
  rw [List.map_map]
  exact List.map_congr_left fun v _ => mv_cat G v
theorem xB {R : Room} {s : State} {args : Array Value} {own : String} (hg : xW q2 ∈ lw_g) (hini : Cond.initialized q2.2.1.cls ∈ lw_g) (hpl : xPlain q2.2.1 n) (hl0 : xLm own idx q2) (hts : ∀ w ∈ lw_g, w.before args s = true) (hd : d2 + 1 ≤ d) (hmx : q2.2.2.2.1 ≤ 21) (hf : d ≤ R.frames) (hlo : 40 * d ≤ R.locals) :
    CallB R s args own idx q2.2.1 q2.2.2.1 q2.2.2.2.1 q2.2.2.2.2.1 (xW q2 :: lw_g) (xRoom d2 h h2) (hz h2 - hz h) (hw h2 - hw h) n :=
  callB_of n hts (xG_of hg) rfl rfl rfl (hts _ hini) (hts _ hl0) ⟨hpl.1, hpl.2.1, hpl.2.2⟩ ⟨by show d2 + 1 ≤ _; omega, by show 8 + (_ + 11) + 40 * d2 ≤ _; omega⟩
/-- a method of an object -/
theorem s_callv {b : Nat} (hc : xI q pc = some (.invokevirtual idx, 3)) (hv : xVirt q2 n) (hl0 : xLm (xCls q.1) idx q2) (hM : XM l G q2 d2 (.ref b :: as) h v h2) (hb0 : b < hz h) (hkb : hk h b = q2.1) (h13 : q2.1 < 13) (hstk : stk = as.reverse ++ .ref b :: st) (hn : as.length = n) (hd : d2 + 1 ≤ d) (hmx : q2.2.2.2.1 ≤ 21) (hcat : (st.map fun v => v.category).sum ≤ 8) :
    XS l G q d (pc, L, stk, h) (pc + 3, L, v.toList ++ st, h2) := by
  refine ⟨hM.1, fun p e Rm s m args below meth c cx Qf H locs cells slots ls r hl hq hcl hsl kk => ?_⟩
  obtain ⟨hx, hb, hml, -, -, -, hown, hts, hK, hg, hfr, hlo, hE, hs⟩ := cx
  obtain ⟨-, v1, v2, v3, v4, v5, -, v7⟩ := hv
  have hO := (r.2.2.1 b hb0).1 (by rw [hkb]; exact h13)
  unfold xO at hO
  rw [hkb] at hO
  obtain ⟨rr, h1, cell, q1, qc, q3, -⟩ := hO
  have hcls := (hK.1 q2.1 _ h1).2
  have hcn := (xcl h1).2.2.2.2.2.2.1
  have w := kk
  simp only [List.map_append] at w
  subst hstk
  show W p l e Rm s m args below meth c H locs cells slots Qf (F0 m pc ls ((as.reverse ++ .ref b :: st).map (mv G)))
  rw [List.map_append, List.map_reverse]
  refine xcont (va_runV (b := gA G b) (As := as.map (mv G)) (rest := st.map (mv G)) (C := q2.2.1.cls) ⟨hx, hb, hml, hown, hts⟩ hM.2 ⟨xB v1 v2 v3 hl0 hts hd hmx hfr hlo, hts _ v4, hts _ v5⟩ ⟨XPc.blind, ⟨cell, q1, by rw [q3]; rfl, by rw [v7, ← hcn, qc]; exact hcls.1⟩, XPc.pre (as := .ref b :: as) r hK hE hs⟩ rfl (by rw [List.length_map]; exact hn) hl.1 rfl (by show 2 * 0 + _ ≤ 8; rw [xcat]; omega) (xI_dec hg hc) ⟨hcl, hsl⟩) hq fun H1 locs1 r1 hq1 => ?_
  have w1 := w H1 locs1 ls r1 hl hq1
  have e9 : (v.map (mv G)).toList = v.toList.map (mv G) := by cases v <;> rfl
  rw [e9]
  exact w1
/-- a static method -/
theorem s_calls (hc : xI q pc = some (.invokestatic idx, 3)) (hv : xStat q2 n) (hl0 : xLm (xCls q.1) idx q2) (hM : XM l G q2 d2 as h v h2) (hstk : stk = as.reverse ++ st) (hn : as.length = n) (hd : d2 + 1 ≤ d) (hmx : q2.2.2.2.1 ≤ 21) (hcat : (st.map fun v => v.category).sum ≤ 8) :
    XS l G q d (pc, L, stk, h) (pc + 3, L, v.toList ++ st, h2) := by
  refine ⟨hM.1, fun p e Rm s m args below meth c cx Qf H locs cells slots ls r hl hq hcl hsl kk => ?_⟩
  obtain ⟨hx, hb, hml, -, -, -, hown, hts, hK, hg, hfr, hlo, hE, hs⟩ := cx
  obtain ⟨-, v1, v2, v3, v4, -⟩ := hv
  have w := kk
  simp only [List.map_append] at w
  subst hstk
  show W p l e Rm s m args below meth c H locs cells slots Qf (F0 m pc ls ((as.reverse ++ st).map (mv G)))
  rw [List.map_append, List.map_reverse]
  refine xcont (va_runS (As := as.map (mv G)) (rest := st.map (mv G)) ⟨hx, hb, hml, hown, hts⟩ hM.2 ⟨xB v1 v2 v3 hl0 hts hd hmx hfr hlo, hts _ v4⟩ ⟨XPc.blind, XPc.pre (as := as) r hK hE hs⟩ rfl (by rw [List.length_map]; exact hn) hl.1 rfl (by show 2 * 0 + _ ≤ 8; rw [xcat]; omega) (xI_dec hg hc) ⟨hcl, hsl⟩) hq fun H1 locs1 r1 hq1 => ?_
  have w1 := w H1 locs1 ls r1 hl hq1
  have e9 : (v.map (mv G)).toList = v.toList.map (mv G) := by cases v <;> rfl
  rw [e9]
  exact w1
/-- a constructor -/
theorem s_calli {b : Nat} (hc : xI q pc = some (.invokespecial idx, 3)) (hv : xInit q2 n) (hret : q2.2.2.2.2.1 = none) (hl0 : xLm (xCls q.1) idx q2) (hM : XM l G q2 d2 (.ref b :: as) h v h2) (hstk : stk = as.reverse ++ .ref b :: st) (hn : as.length = n) (hd : d2 + 1 ≤ d) (hmx : q2.2.2.2.1 ≤ 21) (hcat : (st.map fun v => v.category).sum ≤ 8) :
    XS l G q d (pc, L, stk, h) (pc + 3, L, v.toList ++ st, h2) := by
  refine ⟨hM.1, fun p e Rm s m args below meth c cx Qf H locs cells slots ls r hl hq hcl hsl kk => ?_⟩
  obtain ⟨hx, hb, hml, -, -, -, hown, hts, hK, hg, hfr, hlo, hE, hs⟩ := cx
  obtain ⟨-, v1, v2, v3, v4, v5, -⟩ := hv
  have w := kk
  simp only [List.map_append] at w
  subst hstk
  show W p l e Rm s m args below meth c H locs cells slots Qf (F0 m pc ls ((as.reverse ++ .ref b :: st).map (mv G)))
  rw [List.map_append, List.map_reverse]
  have hB := xB (h := h) (h2 := h2) v1 v2 v3 hl0 hts hd hmx hfr hlo
  rw [hret] at hB
  refine xcont (va_runI (b := gA G b) (As := as.map (mv G)) (rest := st.map (mv G)) ⟨hx, hb, hml, hown, hts⟩ hM.2 ⟨hB, v5, hts _ v4⟩ ⟨XPc.blind, XPc.pre (as := .ref b :: as) r hK hE hs⟩ rfl (by rw [List.length_map]; exact hn) hl.1 rfl (by show 2 * 0 + _ ≤ 8; rw [xcat]; omega) (xI_dec hg hc) ⟨hcl, hsl⟩) hq fun H1 locs1 r1 hq1 => ?_
  have w1 := w H1 locs1 ls r1 hl hq1
  have e9 : (v.map (mv G)).toList = v.toList.map (mv G) := by cases v <;> rfl
  rw [e9]
  exact w1
theorem xBN {R : Room} {s : State} {args : Array Value} {own host : String} (hg : xW q2 ∈ lw_g) (hini : Cond.initialized q2.2.1.cls ∈ lw_g) (hpl : xPlain q2.2.1 n) (hl0 : va_Nw (.methodLinkNest own idx q2.2.1 host) s) (hts : ∀ w ∈ lw_g, w.before args s = true) (hd : d2 + 1 ≤ d) (hmx : q2.2.2.2.1 ≤ 21) (hf : d ≤ R.frames) (hlo : 40 * d ≤ R.locals) :
    va_CN R s args own idx q2.2.1 host q2.2.2.1 q2.2.2.2.1 q2.2.2.2.2.1 (xW q2 :: lw_g) (xRoom d2 h h2) (hz h2 - hz h) (hw h2 - hw h) n :=
  va_cnB n hts (xG_of hg) rfl rfl rfl hl0 (hts _ hini) ⟨hpl.1, hpl.2.1, hpl.2.2⟩ ⟨by show d2 + 1 ≤ _; omega, by show 8 + (_ + 11) + 40 * d2 ≤ _; omega⟩
/-- a nest mate's constructor -/
theorem s_callin {b : Nat} {host : String} (hc : xI q pc = some (.invokespecial idx, 3)) (hv : xInit q2 n) (hret : q2.2.2.2.2.1 = none) (hl0 : (xCls q.1, idx, q2.2.1, host) ∈ xNest) (hM : XM l G q2 d2 (.ref b :: as) h v h2) (hstk : stk = as.reverse ++ .ref b :: st) (hn : as.length = n) (hd : d2 + 1 ≤ d) (hmx : q2.2.2.2.1 ≤ 21) (hcat : (st.map fun v => v.category).sum ≤ 8) :
    XS l G q d (pc, L, stk, h) (pc + 3, L, v.toList ++ st, h2) := by
  refine ⟨hM.1, fun p e Rm s m args below meth c cx Qf H locs cells slots ls r hl hq hcl hsl kk => ?_⟩
  obtain ⟨hx, hb, hml, -, -, -, hown, hts, hK, hg, hfr, hlo, hE, hs⟩ := cx
  obtain ⟨-, v1, v2, v3, v4, v5, -⟩ := hv
  have w := kk
  simp only [List.map_append] at w
  subst hstk
  show W p l e Rm s m args below meth c H locs cells slots Qf (F0 m pc ls ((as.reverse ++ .ref b :: st).map (mv G)))
  rw [List.map_append, List.map_reverse]
  have hB := xBN (h := h) (h2 := h2) v1 v2 v3 (hE.2.1 _ hl0) hts hd hmx hfr hlo
  rw [hret] at hB
  refine xcont (va_runIN (b := gA G b) (As := as.map (mv G)) (rest := st.map (mv G)) ⟨hx, hb, hml, hown, hts⟩ hM.2 ⟨hB, v5, hts _ v4⟩ ⟨XPc.blind, XPc.pre (as := .ref b :: as) r hK hE hs⟩ rfl (by rw [List.length_map]; exact hn) hl.1 rfl (by show 2 * 0 + _ ≤ 8; rw [xcat]; omega) (xI_dec hg hc) ⟨hcl, hsl⟩) hq fun H1 locs1 r1 hq1 => ?_
  have w1 := w H1 locs1 ls r1 hl hq1
  have e9 : (v.map (mv G)).toList = v.toList.map (mv G) := by cases v <;> rfl
  rw [e9]
  exact w1
/-- a nest mate's static method -/
theorem s_callsn {host : String} (hc : xI q pc = some (.invokestatic idx, 3)) (hv : xStat q2 n) (hl0 : (xCls q.1, idx, q2.2.1, host) ∈ xNest) (hM : XM l G q2 d2 as h v h2) (hstk : stk = as.reverse ++ st) (hn : as.length = n) (hd : d2 + 1 ≤ d) (hmx : q2.2.2.2.1 ≤ 21) (hcat : (st.map fun v => v.category).sum ≤ 8) :
    XS l G q d (pc, L, stk, h) (pc + 3, L, v.toList ++ st, h2) := by
  refine ⟨hM.1, fun p e Rm s m args below meth c cx Qf H locs cells slots ls r hl hq hcl hsl kk => ?_⟩
  obtain ⟨hx, hb, hml, -, -, -, hown, hts, hK, hg, hfr, hlo, hE, hs⟩ := cx
  obtain ⟨-, v1, v2, v3, v4, -⟩ := hv
  have w := kk
  simp only [List.map_append] at w
  subst hstk
  show W p l e Rm s m args below meth c H locs cells slots Qf (F0 m pc ls ((as.reverse ++ st).map (mv G)))
  rw [List.map_append, List.map_reverse]
  refine xcont (va_runSN (As := as.map (mv G)) (rest := st.map (mv G)) ⟨hx, hb, hml, hown, hts⟩ hM.2 ⟨xBN v1 v2 v3 (hE.2.1 _ hl0) hts hd hmx hfr hlo, hts _ v4, trivial⟩ ⟨XPc.blind, XPc.pre (as := as) r hK hE hs⟩ rfl (by rw [List.length_map]; exact hn) hl.1 rfl (by show 2 * 0 + _ ≤ 8; rw [xcat]; omega) (xI_dec hg hc) ⟨hcl, hsl⟩) hq fun H1 locs1 r1 hq1 => ?_
  have w1 := w H1 locs1 ls r1 hl hq1
  have e9 : (v.map (mv G)).toList = v.toList.map (mv G) := by cases v <;> rfl
  rw [e9]
  exact w1
end XCalls2
