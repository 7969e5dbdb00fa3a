/-! Texts: the JDK's methods over the claim's literals -/
section XStr
variable {l : Launch} {G : XG} {q : xEnt} {d pc : Nat} {L : List (Option Value)} {st : List Value} {h : XH}
theorem mvS {a : Nat} (ha : 10000000 ≤ a) : mv G (.ref a) = .ref (G.2.1 a) := by simp [mv, gA, Nat.not_lt.mpr ha]
theorem s_sval {idx i : Nat} (hc : xI q pc = some (.getfield idx, 3)) (hl0 : Cond.fieldLink (xCls q.1) idx "java/lang/String" "value" "[B" ∈ lw_g) (hi' : i < 36) : XS l G q d (pc, L, .ref (10000010 + i) :: st, h) (pc + 3, L, .ref (10000100 + i) :: st, h) := by
  refine ⟨⟨Nat.le_refl _, Nat.le_refl _⟩, fun p e Rm s m args below meth c cx Qf H locs cells slots ls r hl hq _ _ kk => ?_⟩
  obtain ⟨hx, hb, -, -, -, -, hown, hts, -, hg, -, -, hE, -⟩ := cx
  obtain ⟨cf, k, fi, f, cell, h1, h2, h3, h4, h5, h6⟩ := (hE.2.2.2.2.2.2.2.2.2.2.1.1 i hi').2.2.1
  have w := kk H locs ls r hl hq
  simp only [Nat.sub_self, Nat.add_zero] at w
  have e3 : (Value.ref (10000100 + i) :: st).map (mv G) = .ref (G.2.1 (10000100 + i)) :: st.map (mv G) := by rw [List.map_cons, mvS (by omega)]
  have e4 : (Value.ref (10000010 + i) :: st).map (mv G) = .ref (G.2.1 (10000010 + i)) :: st.map (mv G) := by rw [List.map_cons, mvS (by omega)]
  rw [e3] at w
  show W p l e Rm s m args below meth c H locs cells slots Qf (F0 m pc ls ((Value.ref (10000010 + i) :: st).map (mv G)))
  rw [e4]
  exact W.getf hx hb hown (hts _ hl0) h1 h2 (r.old h3 h6) h4 (v := .ref (G.2.1 (10000100 + i))) h5 rfl rfl (xI_dec hg hc) w
theorem s_scod {idx i : Nat} (hc : xI q pc = some (.getfield idx, 3)) (hl0 : Cond.fieldLink (xCls q.1) idx "java/lang/String" "coder" "B" ∈ lw_g) (hi' : i < 36) : XS l G q d (pc, L, .ref (10000010 + i) :: st, h) (pc + 3, L, .int 0 :: st, h) := by
  refine ⟨⟨Nat.le_refl _, Nat.le_refl _⟩, fun p e Rm s m args below meth c cx Qf H locs cells slots ls r hl hq _ _ kk => ?_⟩
  obtain ⟨hx, hb, -, -, -, -, hown, hts, -, hg, -, -, hE, -⟩ := cx
  obtain ⟨cf, k, fi, f, cell, h1, h2, h3, h4, h5, h6⟩ := (hE.2.2.2.2.2.2.2.2.2.2.1.1 i hi').2.1
  have w := kk H locs ls r hl hq
  simp only [Nat.sub_self, Nat.add_zero] at w
  have e4 : (Value.ref (10000010 + i) :: st).map (mv G) = .ref (G.2.1 (10000010 + i)) :: st.map (mv G) := by rw [List.map_cons, mvS (by omega)]
  show W p l e Rm s m args below meth c H locs cells slots Qf (F0 m pc ls ((Value.ref (10000010 + i) :: st).map (mv G)))
  rw [e4]
  exact W.getf hx hb hown (hts _ hl0) h1 h2 (r.old h3 h6) h4 (v := .int 0) h5 rfl rfl (xI_dec hg hc) w
theorem s_sgv {idx : Nat} {C n ds : String} {v : Value} (hc : xI q pc = some (.getstatic idx, 3)) (hl0 : Cond.fieldLink (xCls q.1) idx C n ds ∈ lw_g) (hv1 : (mv G v).isRef = true ∨ True) (hZ : ∀ s, xEx G s → va_Z C n ds (mv G v) (gO G) s (gH G)) : XS l G q d (pc, L, st, h) (pc + 3, L, v :: st, h) := by
  refine ⟨⟨Nat.le_refl _, Nat.le_refl _⟩, fun p e Rm s m args below meth c cx Qf H locs cells slots ls r hl hq _ _ kk => ?_⟩
  obtain ⟨hx, hb, -, -, -, -, hown, hts, -, hg, -, -, hE, -⟩ := cx
  obtain ⟨cf, kf, fi, f, z, cell, h1, h2, h3, h4, h5, h6, h7, h8⟩ := hZ s hE
  have w := kk H locs ls r hl hq
  simp only [Nat.sub_self, Nat.add_zero] at w
  exact W.gets hx hb hown (hts _ hl0) h1 h2 h3 h4 (r.old h5 h8) (fun e => by rw [e] at h6; cases h6) h7 rfl (xI_dec hg hc) w
theorem s_sbld {i : Nat} {k : Int32} (hc : xI q pc = some (.baload, 1)) (hi' : i < 36) (hin : vp_in k (xsL.getD i 0)) : XS l G q d (pc, L, .int k :: .ref (10000100 + i) :: st, h) (pc + 1, L, .int ((xsB.getD i []).getD k.toNatClampNeg 0) :: st, h) := by
  refine ⟨⟨Nat.le_refl _, Nat.le_refl _⟩, fun p e Rm s m args below meth c cx Qf H locs cells slots ls r hl hq _ _ kk => ?_⟩
  obtain ⟨hx, hb, -, -, -, -, -, -, -, hg, -, -, hE, -⟩ := cx
  obtain ⟨cell, h1, h2, h3, h4, h5, h6, h7⟩ := (hE.2.2.2.2.2.2.2.2.2.2.1.1 i hi').2.2.2
  have hlt : k.toNatClampNeg < xsL.getD i 0 := Nat.not_le.mp fun z => hin (Or.inr z)
  have w := kk H locs ls r hl hq
  simp only [Nat.sub_self, Nat.add_zero] at w
  have e4 : (Value.int k :: Value.ref (10000100 + i) :: st).map (mv G) = .int k :: .ref (G.2.1 (10000100 + i)) :: st.map (mv G) := by rw [List.map_cons, List.map_cons, mvS (by omega)]; rfl
  show W p l e Rm s m args below meth c H locs cells slots Qf (F0 m pc ls ((Value.int k :: Value.ref (10000100 + i) :: st).map (mv G)))
  rw [e4]
  exact W.bald (v := .int ((xsB.getD i []).getD k.toNatClampNeg 0)) hx hb (r.old h1 h7) h2 h3 (fun z => z.elim (fun z => hin (Or.inl z)) (fun z => by omega)) (h6 _ hlt) rfl rfl (xI_dec hg hc) w
theorem s_slen {i : Nat} (hc : xI q pc = some (.arraylength, 1)) (hi' : i < 36) : XS l G q d (pc, L, .ref (10000100 + i) :: st, h) (pc + 1, L, .int (nI (xsL.getD i 0)) :: st, h) := s_tlen hc (by omega) (fun _ E => (E.2.2.2.2.2.2.2.2.2.2.1.1 i hi').2.2.2)
theorem s_callvS {q2 : xEnt} {n idx d2 i : Nat} {stk as : List Value} {h2 : XH} {v : Option Value} (hc : xI q pc = some (.invokevirtual idx, 3)) (hv : xVirt q2 n) (h14 : q2.2.1.cls = "java/lang/String") (hl0 : xLm (xCls q.1) idx q2) (hM : XM l G q2 d2 (.ref (10000010 + i) :: as) h v h2) (hi' : i < 36) (hstk : stk = as.reverse ++ .ref (10000010 + i) :: st) (hn : as.length = n) (hd : d2 + 1 ≤ d) (hmx : q2.2.2.2.1 ≤ 21) (hcat : (st.map fun v => v.category).sum ≤ 8) :
    XS l G q d (pc, L, stk, h) (pc + 3, L, v.toList ++ st, h2) := by
  refine ⟨hM.1, fun p e Rm s m args below meth c cx Qf H locs cells slots ls r hl hq hcl hsl kk => ?_⟩
  obtain ⟨hx, hb, hml, -, -, -, hown, hts, hK, hg, hfr, hlo, hE, hs⟩ := cx
  obtain ⟨-, v1, v2, v3, v4, v5, -, v7⟩ := hv
  obtain ⟨cell, y1, y2, y3, y4⟩ := (hE.2.2.2.2.2.2.2.2.2.2.1.1 i hi').1
  have w := kk
  simp only [List.map_append] at w
  subst hstk
  show W p l e Rm s m args below meth c H locs cells slots Qf (F0 m pc ls ((as.reverse ++ .ref (10000010 + i) :: st).map (mv G)))
  rw [List.map_append, List.map_reverse]
  have ea : gA G (10000010 + i) = G.2.1 (10000010 + i) := by unfold gA; rw [if_neg (by omega)]
  refine xcont (va_runV (b := gA G (10000010 + i)) (As := as.map (mv G)) (rest := st.map (mv G)) (C := q2.2.1.cls) ⟨hx, hb, hml, hown, hts⟩ hM.2 ⟨xB v1 v2 v3 hl0 hts hd hmx hfr hlo, hts _ v4, hts _ v5⟩ ⟨XPc.blind, ⟨cell, by rw [ea]; exact r.old y1 y4, y2, by rw [h14]; exact y3⟩, XPc.pre (as := .ref (10000010 + i) :: as) r hK hE hs⟩ rfl (by rw [List.length_map]; exact hn) hl.1 rfl (by show 2 * 0 + _ ≤ 8; rw [xcat]; omega) (xI_dec hg hc) ⟨hcl, hsl⟩) hq fun H1 locs1 r1 hq1 => ?_
  have w1 := w H1 locs1 ls r1 hl hq1
  have e9 : (v.map (mv G)).toList = v.toList.map (mv G) := by cases v <;> rfl
  rw [e9]
  exact w1
theorem r_callvS {q2 : xEnt} {n idx d2 i : Nat} {stk as : List Value} {Q : Option Value → XH → Prop} {P : XCfg → Prop} (hc : xI q pc = some (.invokevirtual idx, 3)) (hv : xVirt q2 n) (h14 : q2.2.1.cls = "java/lang/String") (hl0 : xLm (xCls q.1) idx q2) (hX : XC l G q2 d2 (.ref (10000010 + i) :: as) h Q) (hi' : i < 36) (hstk : stk = as.reverse ++ .ref (10000010 + i) :: st) (hn : as.length = n) (hd : d2 + 1 ≤ d) (hmx : q2.2.2.2.1 ≤ 21) (hcat : (st.map fun v => v.category).sum ≤ 8)
    (k : ∀ v h2, Q v h2 → XR l G q d (pc + 3, L, v.toList ++ st, h2) P) : XR l G q d (pc, L, stk, h) P := by
  obtain ⟨v, h2, hQ, hM⟩ := hX
  exact XS.go (s_callvS hc hv h14 hl0 hM hi' hstk hn hd hmx hcat) (k v h2 hQ)
end XStr
theorem xs_len : ∀ i, i < 36 → (xsL.getD i 0 = (xsB.getD i []).length ∧ (xsB.getD i []).length < 200 ∧ ∀ b ∈ xsB.getD i [], b.toInt8.toInt32 = b) := by decide +kernel
def xsc (i : Nat) (k : Int32) : Int32 := (xsB.getD i []).getD k.toNatClampNeg 0 &&& 255
theorem kj_coder {l : Launch} {G : XG} {h : XH} {d i : Nat} (hi' : i < 36) : XC l G xEJ0_coder d [.ref (10000010 + i)] h (fun v h2 => h = h2 ∧ v = some (.int 0)) := by
  refine XC.virt xvJ0_coder (Nat.le_of_ble_eq_true rfl) ?_
  refine XS.go (s_sgv (v := .int 1) rfl (lg_4 121 rfl rfl) (Or.inr trivial) (fun _ E => E.2.2.2.2.2.2.2.2.2.2.2.1)) ?_
  refine XS.go (s_if_eq_f (tgt := 13) rfl rfl (by decide)) ?_
  refine XS.go (s_aloadn rfl rfl rfl) ?_
  refine XS.go (s_scod (i := i) rfl (lg_10 64 rfl rfl) hi') ?_
  refine XS.go (s_goto (tgt := 14) rfl rfl) ?_
  exact XR.retn rfl rfl (by decide +kernel) (fun hret => ⟨_, hret, rfl, rfl⟩)
theorem kj_latin {l : Launch} {G : XG} {h : XH} {d i : Nat} (hi' : i < 36) : XC l G xEJ0_isLatin1 d [.ref (10000010 + i)] h (fun v h2 => h = h2 ∧ v = some (.int 1)) := by
  refine XC.virt xvJ0_isLatin1 (Nat.le_of_ble_eq_true rfl) ?_
  refine XS.go (s_sgv (v := .int 1) rfl (lg_4 121 rfl rfl) (Or.inr trivial) (fun _ E => E.2.2.2.2.2.2.2.2.2.2.2.1)) ?_
  refine XS.go (s_if_eq_f (tgt := 17) rfl rfl (by decide)) ?_
  refine XS.go (s_aloadn rfl rfl rfl) ?_
  refine XS.go (s_scod (i := i) rfl (lg_10 64 rfl rfl) hi') ?_
  refine XS.go (s_if_ne_f (tgt := 17) rfl rfl (by decide)) ?_
  refine XS.go (s_iconst (v := 1) rfl rfl) ?_
  refine XS.go (s_goto (tgt := 18) rfl rfl) ?_
  exact XR.retz rfl rfl (by decide) (fun hret => ⟨_, hret, rfl, rfl⟩)
theorem kj_length {l : Launch} {G : XG} {h : XH} {d i : Nat} (hi' : i < 36) : XC l G xEJ0_length (d + 1) [.ref (10000010 + i)] h (fun v h2 => h = h2 ∧ v = some (.int (nI (xsL.getD i 0)))) := by
  refine XC.virt xvJ0_length (Nat.le_of_ble_eq_true rfl) ?_
  refine XS.go (s_aloadn rfl rfl rfl) ?_
  refine XS.go (s_sval (i := i) rfl (lg_10 63 rfl rfl) hi') ?_
  refine XS.go (s_slen rfl hi') ?_
  refine XS.go (s_aloadn rfl rfl rfl) ?_
  refine r_callvS rfl xvJ0_coder rfl xj14_335 (kj_coder (d := d) hi') hi' rfl rfl (by omega) (by decide) (Nat.le_of_ble_eq_true rfl) ?_
  rintro _ _ ⟨rfl, rfl⟩
  refine XS.go (s_ishr rfl) ?_
  refine XR.reti rfl rfl (fun hret => ⟨_, hret, rfl, ?_⟩)
  have := xs_len i hi'
  rw [sc_shr0 (by omega)]
theorem kj_chk3 {l : Launch} {G : XG} {h : XH} {d : Nat} {a n : Int32} {v0 : Value} (hv0 : v0 = .null ∨ v0 = .ref 10000200) (h0 : ¬ a < 0) (h1 : a < n) : XC l G xEJ3_checkIndex d [.int a, .int n, v0] h (fun v h2 => h = h2 ∧ v = some (.int a)) := by
  rcases hv0 with rfl | rfl
  all_goals
    refine XC.stat xsJ3_checkIndex (Nat.le_of_ble_eq_true rfl) ?_
    refine XS.go (s_iloadn rfl rfl rfl) ?_
    refine XS.go (s_if_lt_f (tgt := 9) rfl rfl h0) ?_
    refine XS.go (s_iloadn rfl rfl rfl) ?_
    refine XS.go (s_iloadn rfl rfl rfl) ?_
    refine XS.go (s_icmp_lt_t (tgt := 16) rfl rfl h1) ?_
    refine XS.go (s_iloadn rfl rfl rfl) ?_
    exact XR.reti rfl rfl (fun hret => ⟨_, hret, rfl, rfl⟩)
theorem kj_chk0 {l : Launch} {G : XG} {h : XH} {d : Nat} {a n : Int32} (h0 : ¬ a < 0) (h1 : a < n) : XC l G xEJ0_checkIndex (d + 1) [.int a, .int n] h (fun v h2 => h = h2 ∧ v = none) := by
  refine XC.stat xsJ0_checkIndex (Nat.le_of_ble_eq_true rfl) ?_
  refine XS.go (s_iloadn rfl rfl rfl) ?_
  refine XS.go (s_iloadn rfl rfl rfl) ?_
  by_cases z : G.2.1 10000201 = 0
  · refine XS.go (s_sgv (v := .null) rfl (lg_4 137 rfl rfl) (Or.inr trivial) (fun _ E => E.2.2.2.2.2.2.2.2.2.2.2.2.1 z)) ?_
    refine r_calls rfl xsJ3_checkIndex xj14_1059 (kj_chk3 (d := d) (Or.inl rfl) h0 h1) rfl rfl (by omega) (by decide) (Nat.le_of_ble_eq_true rfl) ?_
    rintro _ _ ⟨rfl, rfl⟩
    refine XS.go (s_pop rfl rfl) ?_
    exact XR.retv rfl rfl (fun hret => ⟨_, hret, rfl, rfl⟩)
  · refine XS.go (s_sgv (v := .ref 10000200) rfl (lg_4 137 rfl rfl) (Or.inr trivial) (fun _ E => by rw [mvS (by decide)]; exact E.2.2.2.2.2.2.2.2.2.2.2.2.2 z)) ?_
    refine r_calls rfl xsJ3_checkIndex xj14_1059 (kj_chk3 (d := d) (Or.inr rfl) h0 h1) rfl rfl (by omega) (by decide) (Nat.le_of_ble_eq_true rfl) ?_
    rintro _ _ ⟨rfl, rfl⟩
    refine XS.go (s_pop rfl rfl) ?_
    exact XR.retv rfl rfl (fun hret => ⟨_, hret, rfl, rfl⟩)
theorem kj_lchar {l : Launch} {G : XG} {h : XH} {d i : Nat} {k : Int32} (hi' : i < 36) (h0 : ¬ k < 0) (h1 : k < nI (xsL.getD i 0)) : XC l G xEJ1_charAt (d + 2) [.ref (10000100 + i), .int k] h (fun v h2 => h = h2 ∧ v = some (.int (xsc i k))) := by
  have hL := xs_len i hi'
  refine XC.stat xsJ1_charAt (Nat.le_of_ble_eq_true rfl) ?_
  refine XS.go (s_iloadn rfl rfl rfl) ?_
  refine XS.go (s_aloadn rfl rfl rfl) ?_
  refine XS.go (s_slen rfl hi') ?_
  refine r_calls rfl xsJ0_checkIndex xj15_9 (kj_chk0 (d := d) h0 h1) rfl rfl (by omega) (by decide) (Nat.le_of_ble_eq_true rfl) ?_
  rintro _ _ ⟨rfl, rfl⟩
  refine XS.go (s_aloadn rfl rfl rfl) ?_
  refine XS.go (s_iloadn rfl rfl rfl) ?_
  refine XS.go (s_sbld rfl hi' (in_of rfl (by omega) h0 (Int32.not_le.mpr h1))) ?_
  refine XS.go (s_sipush (v := 255) rfl rfl) ?_
  refine XS.go (s_iand rfl) ?_
  refine XS.go (s_i2c rfl) ?_
  rw [sc_c2]
  exact XR.retn rfl rfl (sc_nar _) (fun hret => ⟨_, hret, rfl, rfl⟩)
theorem kj_charAt {l : Launch} {G : XG} {h : XH} {d i : Nat} {k : Int32} (hi' : i < 36) (h0 : ¬ k < 0) (h1 : k < nI (xsL.getD i 0)) : XC l G xEJ0_charAt (d + 3) [.ref (10000010 + i), .int k] h (fun v h2 => h = h2 ∧ v = some (.int (xsc i k))) := by
  refine XC.virt xvJ0_charAt (Nat.le_of_ble_eq_true rfl) ?_
  refine XS.go (s_aloadn rfl rfl rfl) ?_
  refine r_callvS rfl xvJ0_isLatin1 rfl xj14_492 (kj_latin (d := d) hi') hi' rfl rfl (by omega) (by decide) (Nat.le_of_ble_eq_true rfl) ?_
  rintro _ _ ⟨rfl, rfl⟩
  refine XS.go (s_if_eq_f (tgt := 16) rfl rfl (by decide)) ?_
  refine XS.go (s_aloadn rfl rfl rfl) ?_
  refine XS.go (s_sval (i := i) rfl (lg_10 63 rfl rfl) hi') ?_
  refine XS.go (s_iloadn rfl rfl rfl) ?_
  refine r_calls rfl xsJ1_charAt xj14_495 (kj_lchar (d := d) hi' h0 h1) rfl rfl (by omega) (by decide) (Nat.le_of_ble_eq_true rfl) ?_
  rintro _ _ ⟨rfl, rfl⟩
  exact XR.retn rfl rfl (sc_nar _) (fun hret => ⟨_, hret, rfl, rfl⟩)
theorem s_min {l : Launch} {G : XG} {q : xEnt} {d pc idx : Nat} {L : List (Option Value)} {st : List Value} {h : XH} {x y : Int32} (hc : xI q pc = some (.invokestatic idx, 3)) (hl0 : Cond.methodLink (xCls q.1) idx Lib.Math.min.name ∈ lw_g) (hd : 1 ≤ d) (hcat : (st.map fun v => v.category).sum ≤ 8) : XS l G q d (pc, L, .int y :: .int x :: st, h) (pc + 3, L, .int (if y < x then y else x) :: st, h) := by
  refine ⟨⟨Nat.le_refl _, Nat.le_refl _⟩, fun p e Rm s m args below meth c cx Qf H locs cells slots ls r hl hq hcl hsl kk => ?_⟩
  obtain ⟨hx, hb, hml, -, -, -, hown, hts, hK, hg, hfr, hlo, hE, hs⟩ := cx
  have w := kk H locs ls r hl hq
  have c1 : cells + (hz h - hz h) = cells := by omega
  have c2 : slots + (hw h - hw h) = slots := by omega
  have w2 : W p l e Rm s m args below meth c H locs (cells + (hz h - hz h)) (slots + (hw h - hw h)) Qf (F0 m (pc + 3) ls (.int (if y < x then y else x) :: st.map (mv G))) := w
  have d1 : cells + (hz h - hz h) ≤ Rm.cells := hcl
  have d2 : slots + (hw h - hw h) ≤ Rm.slots := hsl
  rw [c1, c2] at w2
  exact va_mmin (x := x) (y := y) (rest := st.map (mv G)) hx hb (hml.trans hl.1.symm) hown (hts _ hl0) (hts _ (lg_4 196 rfl rfl)) (hts _ (lg_1 16 rfl rfl)) (hts _ (lg_4 197 rfl rfl)) (by omega) (by rw [xcat]; omega) (by omega) (by omega) (xI_dec hg hc) w2
def xsxF (c : Int32) : List Int32 → Nat → Int32
  | [], _ => -1
  | b :: t, k => if b = c then nI k else xsxF c t (k + 1)
def xsx (i : Nat) (c : Int32) : Int32 := if c < 0 then -1 else if 255 < c then -1 else xsxF c.toInt8.toInt32 (xsB.getD i []) 0
theorem kj_canEnc {l : Launch} {G : XG} {h : XH} {d : Nat} {c : Int32} : XC l G xEJ1_canEncode d [.int c] h (fun v h2 => h = h2 ∧ v = some (.int (if c < 0 then 0 else if 255 < c then 0 else 1))) := by
  refine XC.stat xsJ1_canEncode (Nat.le_of_ble_eq_true rfl) ?_
  refine XS.go (s_iloadn rfl rfl rfl) ?_
  refine r_if_lt (tgt := 15) rfl rfl (fun q1 => ?_) (fun q1 => ?_)
  · refine XS.go (s_iconst (v := 0) rfl rfl) ?_
    exact XR.retz rfl rfl (by decide) (fun hret => ⟨_, hret, rfl, by rw [if_pos q1]⟩)
  · refine XS.go (s_iloadn rfl rfl rfl) ?_
    refine XS.go (s_sipush (v := 255) rfl rfl) ?_
    refine r_icmp_gt (tgt := 15) rfl rfl (fun q2 => ?_) (fun q2 => ?_)
    · refine XS.go (s_iconst (v := 0) rfl rfl) ?_
      exact XR.retz rfl rfl (by decide) (fun hret => ⟨_, hret, rfl, by rw [if_neg q1, if_pos q2]⟩)
    · refine XS.go (s_iconst (v := 1) rfl rfl) ?_
      refine XS.go (s_goto (tgt := 16) rfl rfl) ?_
      exact XR.retz rfl rfl (by decide) (fun hret => ⟨_, hret, rfl, by rw [if_neg q1, if_neg q2]⟩)
theorem kj_ixc_loop {l : Launch} {G : XG} {h : XH} {d i : Nat} {c c8 : Int32} (hi' : i < 36) : ∀ (t : List Int32) (k : Nat), (xsB.getD i []).drop k = t → k ≤ xsL.getD i 0 → XR l G xEJ1_indexOfChar d (7, [some (.ref (10000100 + i)), some (.int c), some (.int 0), some (.int (nI (xsL.getD i 0))), some (.int c8), some (.int (nI k))], [], h) (fun C => ∃ v, xRet xEJ1_indexOfChar C v ∧ h = C.2.2.2 ∧ v = some (.int (xsxF c8 t k))) := by
  have hL := xs_len i hi'
  intro t
  induction t with
  | nil =>
    intro k e hk'
    have q : (xsB.getD i []).length ≤ k := List.drop_eq_nil_iff.mp e
    refine XS.go (s_iload rfl rfl) ?_
    refine XS.go (s_iloadn rfl rfl rfl) ?_
    refine XS.go (s_icmp_ge_t (tgt := 31) rfl rfl (nI_le (by omega) (by omega))) ?_
    refine XS.go (s_iconst (v := -1) rfl rfl) ?_
    exact XR.reti rfl rfl (fun hret => ⟨_, hret, rfl, rfl⟩)
  | cons b t ih =>
    intro k e hk'
    obtain ⟨h1, h2, h3, h4⟩ := sc_dropC e
    refine XS.go (s_iload rfl rfl) ?_
    refine XS.go (s_iloadn rfl rfl rfl) ?_
    refine XS.go (s_icmp_ge_f (tgt := 31) rfl rfl (nI_ge (by omega) (by omega))) ?_
    refine XS.go (s_aloadn rfl rfl rfl) ?_
    refine XS.go (s_iload rfl rfl) ?_
    refine XS.go (s_sbld rfl hi' (vp_in_nI (by omega) (by omega))) ?_
    rw [nI_clamp (by omega), h2]
    refine XS.go (s_iload rfl rfl) ?_
    refine r_icmp_ne (tgt := 25) rfl rfl (fun q => ?_) (fun q => ?_)
    · refine XS.go (s_inc rfl rfl (Nat.le_of_ble_eq_true rfl)) ?_
      refine XS.go (s_goto (tgt := 7) rfl rfl) ?_
      rw [nI_1]
      have w := ih (k + 1) h3 (by omega)
      rw [xsxF, if_neg q]
      exact w
    · refine XS.go (s_iload rfl rfl) ?_
      refine XR.reti rfl rfl (fun hret => ⟨_, hret, rfl, ?_⟩)
      rw [xsxF, if_pos (Classical.not_not.mp q)]
theorem kj_ixc {l : Launch} {G : XG} {h : XH} {d i : Nat} {c : Int32} (hi' : i < 36) : XC l G xEJ1_indexOfChar d [.ref (10000100 + i), .int c, .int 0, .int (nI (xsL.getD i 0))] h (fun v h2 => h = h2 ∧ v = some (.int (xsxF c.toInt8.toInt32 (xsB.getD i []) 0))) := by
  refine XC.stat xsJ1_indexOfChar (Nat.le_of_ble_eq_true rfl) ?_
  refine XS.go (s_iloadn rfl rfl rfl) ?_
  refine XS.go (s_i2b rfl) ?_
  refine XS.go (s_istore rfl (Nat.le_of_ble_eq_true rfl)) ?_
  refine XS.go (s_iloadn rfl rfl rfl) ?_
  refine XS.go (s_istore rfl (Nat.le_of_ble_eq_true rfl)) ?_
  exact kj_ixc_loop hi' (xsB.getD i []) 0 rfl (Nat.zero_le _)
theorem kj_lix {l : Launch} {G : XG} {h : XH} {d i : Nat} {c : Int32} (hi' : i < 36) : XC l G xEJ1_indexOf (d + 1) [.ref (10000100 + i), .int c, .int 0, .int (nI (xsL.getD i 0))] h (fun v h2 => h = h2 ∧ v = some (.int (xsx i c))) := by
  have hL := xs_len i hi'
  refine XC.stat xsJ1_indexOf (Nat.le_of_ble_eq_true rfl) ?_
  refine XS.go (s_iloadn rfl rfl rfl) ?_
  refine r_calls rfl xsJ1_canEncode xj15_88 (kj_canEnc (d := d)) rfl rfl (by omega) (by decide) (Nat.le_of_ble_eq_true rfl) ?_
  rintro _ _ ⟨rfl, rfl⟩
  unfold xsx
  by_cases q1 : c < 0
  · rw [if_pos q1, if_pos q1]
    refine XS.go (s_if_ne_f (tgt := 9) rfl rfl (by decide)) ?_
    refine XS.go (s_iconst (v := -1) rfl rfl) ?_
    exact XR.reti rfl rfl (fun hret => ⟨_, hret, rfl, rfl⟩)
  rw [if_neg q1, if_neg q1]
  by_cases q2 : 255 < c
  · rw [if_pos q2, if_pos q2]
    refine XS.go (s_if_ne_f (tgt := 9) rfl rfl (by decide)) ?_
    refine XS.go (s_iconst (v := -1) rfl rfl) ?_
    exact XR.reti rfl rfl (fun hret => ⟨_, hret, rfl, rfl⟩)
  rw [if_neg q2, if_neg q2]
  refine XS.go (s_if_ne_t (tgt := 9) rfl rfl (by decide)) ?_
  refine XS.go (s_iloadn rfl rfl rfl) ?_
  refine XS.go (s_iconst (v := 0) rfl rfl) ?_
  refine XS.go (s_max rfl (lg_4 192 rfl rfl) (by omega) (Nat.le_of_ble_eq_true rfl)) ?_
  rw [ite_self]
  refine XS.go (s_istoren rfl rfl (Nat.le_of_ble_eq_true rfl)) ?_
  refine XS.go (s_iloadn rfl rfl rfl) ?_
  refine XS.go (s_aloadn rfl rfl rfl) ?_
  refine XS.go (s_slen rfl hi') ?_
  refine XS.go (s_min rfl (lg_4 195 rfl rfl) (by omega) (Nat.le_of_ble_eq_true rfl)) ?_
  rw [ite_self]
  refine XS.go (s_istoren rfl rfl (Nat.le_of_ble_eq_true rfl)) ?_
  refine XS.go (s_iloadn rfl rfl rfl) ?_
  refine XS.go (s_iloadn rfl rfl rfl) ?_
  by_cases q3 : (0 : Int32) < nI (xsL.getD i 0)
  · refine XS.go (s_icmp_lt_t (tgt := 29) rfl rfl q3) ?_
    refine XS.go (s_aloadn rfl rfl rfl) ?_
    refine XS.go (s_iloadn rfl rfl rfl) ?_
    refine XS.go (s_iloadn rfl rfl rfl) ?_
    refine XS.go (s_iloadn rfl rfl rfl) ?_
    refine r_calls rfl xsJ1_indexOfChar xj15_95 (kj_ixc (d := d) hi') rfl rfl (by omega) (by decide) (Nat.le_of_ble_eq_true rfl) ?_
    rintro _ _ ⟨rfl, rfl⟩
    exact XR.reti rfl rfl (fun hret => ⟨_, hret, rfl, rfl⟩)
  · refine XS.go (s_icmp_lt_f (tgt := 29) rfl rfl q3) ?_
    refine XS.go (s_iconst (v := -1) rfl rfl) ?_
    refine XR.reti rfl rfl (fun hret => ⟨_, hret, rfl, ?_⟩)
    have z : xsB.getD i [] = [] := by
      rcases Nat.eq_zero_or_pos (xsB.getD i []).length with y | y
      · exact List.length_eq_zero_iff.mp y
      · exact absurd (nI_lt (a := 0) (b := xsL.getD i 0) (by omega) (by omega)) q3
    rw [z]; rfl
theorem kj_ix2 {l : Launch} {G : XG} {h : XH} {d i : Nat} {c : Int32} (hi' : i < 36) : XC l G xEJ0_indexOf2 (d + 2) [.ref (10000010 + i), .int c, .int 0] h (fun v h2 => h = h2 ∧ v = some (.int (xsx i c))) := by
  refine XC.virt xvJ0_indexOf2 (Nat.le_of_ble_eq_true rfl) ?_
  refine XS.go (s_aloadn rfl rfl rfl) ?_
  refine r_callvS rfl xvJ0_isLatin1 rfl xj14_492 (kj_latin (d := d) hi') hi' rfl rfl (by omega) (by decide) (Nat.le_of_ble_eq_true rfl) ?_
  rintro _ _ ⟨rfl, rfl⟩
  refine XS.go (s_if_eq_f (tgt := 23) rfl rfl (by decide)) ?_
  refine XS.go (s_aloadn rfl rfl rfl) ?_
  refine XS.go (s_sval (i := i) rfl (lg_10 63 rfl rfl) hi') ?_
  refine XS.go (s_iloadn rfl rfl rfl) ?_
  refine XS.go (s_iloadn rfl rfl rfl) ?_
  refine XS.go (s_aloadn rfl rfl rfl) ?_
  refine r_callvS rfl xvJ0_length rfl xj14_505 (kj_length (d := d) hi') hi' rfl rfl (by omega) (by decide) (Nat.le_of_ble_eq_true rfl) ?_
  rintro _ _ ⟨rfl, rfl⟩
  refine r_calls rfl xsJ1_indexOf xj14_637 (kj_lix (d := d) hi') rfl rfl (by omega) (by decide) (Nat.le_of_ble_eq_true rfl) ?_
  rintro _ _ ⟨rfl, rfl⟩
  refine XS.go (s_goto (tgt := 36) rfl rfl) ?_
  exact XR.reti rfl rfl (fun hret => ⟨_, hret, rfl, rfl⟩)
theorem kj_ix {l : Launch} {G : XG} {h : XH} {d i : Nat} {c : Int32} (hi' : i < 36) : XC l G xEJ0_indexOf (d + 3) [.ref (10000010 + i), .int c] h (fun v h2 => h = h2 ∧ v = some (.int (xsx i c))) := by
  refine XC.virt xvJ0_indexOf (Nat.le_of_ble_eq_true rfl) ?_
  refine XS.go (s_aloadn rfl rfl rfl) ?_
  refine XS.go (s_iloadn rfl rfl rfl) ?_
  refine XS.go (s_iconst (v := 0) rfl rfl) ?_
  refine r_callvS rfl xvJ0_indexOf2 rfl xj14_633 (kj_ix2 (d := d) hi') hi' rfl rfl (by omega) (by decide) (Nat.le_of_ble_eq_true rfl) ?_
  rintro _ _ ⟨rfl, rfl⟩
  exact XR.reti rfl rfl (fun hret => ⟨_, hret, rfl, rfl⟩)
def xlen (a : Nat) : Nat := xsL.getD (a - 10000010) 0
def xch (a : Nat) (k : Int32) : Int32 := xsc (a - 10000010) k
def xix (a : Nat) (c : Int32) : Int32 := xsx (a - 10000010) c
theorem kS_length {l : Launch} {G : XG} {h : XH} {d a : Nat} (ha : 10000010 ≤ a ∧ a < 10000046) : XC l G xEJ0_length (d + 1) [.ref a] h (fun v h2 => h = h2 ∧ v = some (.int (nI (xlen a)))) := by
  obtain ⟨i, rfl⟩ : ∃ i, a = 10000010 + i := ⟨a - 10000010, by omega⟩
  unfold xlen
  rw [Nat.add_sub_cancel_left]
  exact kj_length (by omega)
theorem kS_charAt {l : Launch} {G : XG} {h : XH} {d a : Nat} {k : Int32} (ha : 10000010 ≤ a ∧ a < 10000046) (h0 : ¬ k < 0) (h1 : k < nI (xlen a)) : XC l G xEJ0_charAt (d + 3) [.ref a, .int k] h (fun v h2 => h = h2 ∧ v = some (.int (xch a k))) := by
  obtain ⟨i, rfl⟩ : ∃ i, a = 10000010 + i := ⟨a - 10000010, by omega⟩
  unfold xlen at h1
  unfold xch
  rw [Nat.add_sub_cancel_left] at h1 ⊢
  exact kj_charAt (by omega) h0 h1
theorem kS_ix {l : Launch} {G : XG} {h : XH} {d a : Nat} {c : Int32} (ha : 10000010 ≤ a ∧ a < 10000046) : XC l G xEJ0_indexOf (d + 3) [.ref a, .int c] h (fun v h2 => h = h2 ∧ v = some (.int (xix a c))) := by
  obtain ⟨i, rfl⟩ : ∃ i, a = 10000010 + i := ⟨a - 10000010, by omega⟩
  unfold xix
  rw [Nat.add_sub_cancel_left]
  exact kj_ix (by omega)
theorem r_callvA {l : Launch} {G : XG} {q : xEnt} {d pc : Nat} {L : List (Option Value)} {st : List Value} {h : XH} {q2 : xEnt} {n idx d2 a : Nat} {stk as : List Value} {Q : Option Value → XH → Prop} {P : XCfg → Prop} (hc : xI q pc = some (.invokevirtual idx, 3)) (hv : xVirt q2 n) (h14 : q2.2.1.cls = "java/lang/String") (hl0 : xLm (xCls q.1) idx q2) (hX : XC l G q2 d2 (.ref a :: as) h Q) (ha : 10000010 ≤ a ∧ a < 10000046) (hstk : stk = as.reverse ++ .ref a :: st) (hn : as.length = n) (hd : d2 + 1 ≤ d) (hmx : q2.2.2.2.1 ≤ 21) (hcat : (st.map fun v => v.category).sum ≤ 8)
    (k : ∀ v h2, Q v h2 → XR l G q d (pc + 3, L, v.toList ++ st, h2) P) : XR l G q d (pc, L, stk, h) P := by
  obtain ⟨i, rfl⟩ : ∃ i, a = 10000010 + i := ⟨a - 10000010, by omega⟩
  exact r_callvS hc hv h14 hl0 hX (by omega) hstk hn hd hmx hcat k
