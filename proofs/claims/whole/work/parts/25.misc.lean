section XMisc
variable {l : Launch} {G : XG} {q : xEnt} {d pc : Nat} {L : List (Option Value)} {st : List Value} {h : XH} {P : XCfg → Prop}
theorem XRel.old {H : Heap} {U : State} (r : XRel G h H U) {z : Nat} {cell : Cell} (hc : (gH G)[z]? = some cell) (hA : ¬ gO G z) : H[z]? = some cell := by
  rw [r.2.2.2 z (Nat.not_le.mp hA)]; exact hc
/-- a static array's reference -/
theorem s_gets {idx a : Nat} {n ds : String} (hc : xI q pc = some (.getstatic idx, 3)) (hl0 : Cond.fieldLink (xCls q.1) idx "FlatTables" n ds ∈ lw_g) (ha : 10000000 ≤ a) (hZ : ∀ s, xEx G s → va_Z "FlatTables" n ds (.ref (G.2.1 a)) (gO G) s (gH G)) : XS l G q d (pc, L, st, h) (pc + 3, L, .ref a :: st, h) := by
  refine ⟨⟨Nat.le_refl _, Nat.le_refl _⟩, fun p e Rm s m args below meth c cx Qf H locs cells slots ls r hl hq _ _ kk => ?_⟩
  obtain ⟨hx, hb, -, -, -, -, hown, hts, -, hg, -, -, hE, -⟩ := cx
  obtain ⟨cf, kf, fi, f, z, cell, h1, h2, h3, h4, h5, h6, h7, h8⟩ := hZ s hE
  have w := kk H locs ls r hl hq
  simp only [Nat.sub_self, Nat.add_zero] at w
  have e3 : (Value.ref a :: st).map (mv G) = .ref (G.2.1 a) :: st.map (mv G) := by simp [mv, gA, Nat.not_lt.mpr ha]
  rw [e3] at w
  exact W.gets hx hb hown (hts _ hl0) h1 h2 h3 h4 (r.old h5 h8) (fun e => by rw [e] at h6; cases h6) h7 rfl (xI_dec hg hc) w
theorem s_gets1 {idx : Nat} (hc : xI q pc = some (.getstatic idx, 3)) (hl0 : Cond.fieldLink (xCls q.1) idx "FlatTables" "SCALAR_BYTES" "[I" ∈ lw_g) : XS l G q d (pc, L, st, h) (pc + 3, L, .ref 10000001 :: st, h) := s_gets hc hl0 (by decide) fun _ E => E.2.2.2.1.1
theorem s_gets2 {idx : Nat} (hc : xI q pc = some (.getstatic idx, 3)) (hl0 : Cond.fieldLink (xCls q.1) idx "FlatTables" "LOWEST" "[J" ∈ lw_g) : XS l G q d (pc, L, st, h) (pc + 3, L, .ref 10000002 :: st, h) := s_gets hc hl0 (by decide) fun _ E => E.2.2.2.1.2.1
theorem s_gets3 {idx : Nat} (hc : xI q pc = some (.getstatic idx, 3)) (hl0 : Cond.fieldLink (xCls q.1) idx "FlatTables" "HIGHEST" "[J" ∈ lw_g) : XS l G q d (pc, L, st, h) (pc + 3, L, .ref 10000003 :: st, h) := s_gets hc hl0 (by decide) fun _ E => E.2.2.2.1.2.2
/-- places of a constant array -/
theorem s_tald {ins : Instr} {a N : Nat} {i : Int32} {f : Nat → Value} {ty : FieldType} (hc : xI q pc = some (ins, 1)) (hcase : (ins = .iaload ∧ ty = .int) ∨ (ins = .laload ∧ ty = .long)) (ha : 10000000 ≤ a) (hT : ∀ s, xEx G s → va_T ty (G.2.1 a) N f (gO G) s (gH G)) (hf : ∀ j, mv G (f j) = f j) (hin : vp_in i N) : XS l G q d (pc, L, .int i :: .ref a :: st, h) (pc + 1, L, f i.toNatClampNeg :: st, h) := by
  refine ⟨⟨Nat.le_refl _, Nat.le_refl _⟩, fun p e Rm s m args below meth c cx Qf H locs cells slots ls r hl hq _ _ kk => ?_⟩
  obtain ⟨hx, hb, -, -, -, -, -, -, -, hg, -, -, hE, -⟩ := cx
  obtain ⟨cell, h1, h2, h3, h4, h5, h6, h7⟩ := hT s hE
  have hlt : i.toNatClampNeg < N := Nat.not_le.mp fun z => hin (Or.inr z)
  have w := kk H locs ls r hl hq
  simp only [Nat.sub_self, Nat.add_zero] at w
  have e3 : (f i.toNatClampNeg :: st).map (mv G) = f i.toNatClampNeg :: st.map (mv G) := by simp [hf]
  have e4 : (Value.int i :: Value.ref a :: st).map (mv G) = .int i :: .ref (G.2.1 a) :: st.map (mv G) := by simp [mv, gA, Nat.not_lt.mpr ha]
  rw [e3] at w
  show W p l e Rm s m args below meth c H locs cells slots Qf (F0 m pc ls ((Value.int i :: Value.ref a :: st).map (mv G)))
  rw [e4]
  have hdec := xI_dec hg hc
  rcases hcase with ⟨rfl, rfl⟩ | ⟨rfl, rfl⟩
  · exact W.iald (v := f i.toNatClampNeg) hx hb (r.old h1 h7) h2 h3 (fun z => z.elim (fun z => hin (Or.inl z)) (fun z => by omega)) (h6 _ hlt) rfl rfl hdec w
  · exact W.lald (v := f i.toNatClampNeg) hx hb (r.old h1 h7) h2 h3 (fun z => z.elim (fun z => hin (Or.inl z)) (fun z => by omega)) (h6 _ hlt) rfl rfl hdec w
theorem s_ald1 {i : Int32} (hc : xI q pc = some (.iaload, 1)) (hin : vp_in i 11) : XS l G q d (pc, L, .int i :: .ref 10000001 :: st, h) (pc + 1, L, .int (xSB i.toNatClampNeg) :: st, h) := s_tald (f := fun j => .int (xSB j)) hc (Or.inl ⟨rfl, rfl⟩) (by decide) (fun _ E => E.2.2.2.2.1.1) (fun _ => rfl) hin
theorem s_ald2 {i : Int32} (hc : xI q pc = some (.laload, 1)) (hin : vp_in i 11) : XS l G q d (pc, L, .int i :: .ref 10000002 :: st, h) (pc + 1, L, .long (xLO i.toNatClampNeg) :: st, h) := s_tald (f := fun j => .long (xLO j)) hc (Or.inr ⟨rfl, rfl⟩) (by decide) (fun _ E => E.2.2.2.2.1.2.1) (fun _ => rfl) hin
theorem s_ald3 {i : Int32} (hc : xI q pc = some (.laload, 1)) (hin : vp_in i 11) : XS l G q d (pc, L, .int i :: .ref 10000003 :: st, h) (pc + 1, L, .long (xHI i.toNatClampNeg) :: st, h) := s_tald (f := fun j => .long (xHI j)) hc (Or.inr ⟨rfl, rfl⟩) (by decide) (fun _ E => E.2.2.2.2.1.2.2) (fun _ => rfl) hin
theorem s_ald0 {i : Int32} (hc : xI q pc = some (.iaload, 1)) (hin : vp_in i (gN G)) : XS l G q d (pc, L, .int i :: .ref 10000000 :: st, h) (pc + 1, L, .int (gX G i.toNatClampNeg) :: st, h) := s_tald (f := fun j => .int (gX G j)) hc (Or.inl ⟨rfl, rfl⟩) (by decide) (fun _ E => E.2.2.2.2.2.1) (fun _ => rfl) hin
theorem s_tlen {a N : Nat} {f : Nat → Value} {ty : FieldType} (hc : xI q pc = some (.arraylength, 1)) (ha : 10000000 ≤ a) (hT : ∀ s, xEx G s → va_T ty (G.2.1 a) N f (gO G) s (gH G)) : XS l G q d (pc, L, .ref a :: st, h) (pc + 1, L, .int (nI N) :: st, h) := by
  refine ⟨⟨Nat.le_refl _, Nat.le_refl _⟩, fun p e Rm s m args below meth c cx Qf H locs cells slots ls r hl hq _ _ kk => ?_⟩
  obtain ⟨hx, hb, -, -, -, -, -, -, -, hg, -, -, hE, -⟩ := cx
  obtain ⟨cell, h1, h2, h3, h4, h5, h6, h7⟩ := hT s hE
  have w := kk H locs ls r hl hq
  simp only [Nat.sub_self, Nat.add_zero] at w
  have e4 : (Value.ref a :: st).map (mv G) = .ref (G.2.1 a) :: st.map (mv G) := by simp [mv, gA, Nat.not_lt.mpr ha]
  show W p l e Rm s m args below meth c H locs cells slots Qf (F0 m pc ls ((Value.ref a :: st).map (mv G)))
  rw [e4]
  exact W.alen (n := nI N) hx hb (r.old h1 h7) h2 h5 rfl rfl (xI_dec hg hc) w
theorem s_len1 (hc : xI q pc = some (.arraylength, 1)) : XS l G q d (pc, L, .ref 10000001 :: st, h) (pc + 1, L, .int 11 :: st, h) := s_tlen (N := 11) hc (by decide) (fun _ E => E.2.2.2.2.1.1)
theorem s_len0 (hc : xI q pc = some (.arraylength, 1)) : XS l G q d (pc, L, .ref 10000000 :: st, h) (pc + 1, L, .int (nI (gN G)) :: st, h) := s_tlen hc (by decide) (fun _ E => E.2.2.2.2.2.1)
/-- null tests -/
theorem s_ifnull_r {a : Nat} {off : Int} (hc : xI q pc = some (.ifnull off, 3)) : XS l G q d (pc, L, .ref a :: st, h) (pc + 3, L, st, h) := XS.pure (fun p e Rm s m args below meth c cx Qf H locs cells slots ls hl k => lv_ifnull cx.1 cx.2.1 (xI_dec cx.2.2.2.2.2.2.2.2.2.1 hc) (k ls hl))
theorem s_ifnull_n {off : Int} {tgt : Nat} (hc : xI q pc = some (.ifnull off, 3)) (ht : (pc : Int) + off = (tgt : Int)) : XS l G q d (pc, L, .null :: st, h) (tgt, L, st, h) := XS.pure (fun p e Rm s m args below meth c cx Qf H locs cells slots ls hl k => lv_ifnullN cx.1 cx.2.1 (xI_dec cx.2.2.2.2.2.2.2.2.2.1 hc) ht (k ls hl))
theorem s_ifnonnull_r {a : Nat} {off : Int} {tgt : Nat} (hc : xI q pc = some (.ifnonnull off, 3)) (ht : (pc : Int) + off = (tgt : Int)) : XS l G q d (pc, L, .ref a :: st, h) (tgt, L, st, h) := XS.pure (fun p e Rm s m args below meth c cx Qf H locs cells slots ls hl k => lv_ifnonnull cx.1 cx.2.1 (xI_dec cx.2.2.2.2.2.2.2.2.2.1 hc) ht (k ls hl))
theorem s_ifnonnull_n {off : Int} (hc : xI q pc = some (.ifnonnull off, 3)) : XS l G q d (pc, L, .null :: st, h) (pc + 3, L, st, h) := XS.pure (fun p e Rm s m args below meth c cx Qf H locs cells slots ls hl k => lv_ifnonnullN cx.1 cx.2.1 (xI_dec cx.2.2.2.2.2.2.2.2.2.1 hc) (k ls hl))
theorem r_ifnull {o : Option Nat} {off : Int} {tgt : Nat} (hc : xI q pc = some (.ifnull off, 3)) (ht : (pc : Int) + off = (tgt : Int)) (kn : o = none → XR l G q d (tgt, L, st, h) P) (ks : ∀ b, o = some b → XR l G q d (pc + 3, L, st, h) P) : XR l G q d (pc, L, va_rf o :: st, h) P := by
  cases o with
  | none => exact (s_ifnull_n hc ht).go (kn rfl)
  | some b => exact (s_ifnull_r hc).go (ks b rfl)
theorem r_ifnonnull {o : Option Nat} {off : Int} {tgt : Nat} (hc : xI q pc = some (.ifnonnull off, 3)) (ht : (pc : Int) + off = (tgt : Int)) (kn : o = none → XR l G q d (pc + 3, L, st, h) P) (ks : ∀ b, o = some b → XR l G q d (tgt, L, st, h) P) : XR l G q d (pc, L, va_rf o :: st, h) P := by
  cases o with
  | none => exact (s_ifnonnull_n hc).go (kn rfl)
  | some b => exact (s_ifnonnull_r hc ht).go (ks b rfl)
/-- references that may be null, in locals -/
theorem s_aloadnO {n : Fin 4} {i : Nat} {o : Option Nat} (hc : xI q pc = some (.aload_n n, 1)) (hn' : (n : Nat) = i) (hx : L[i]? = some (some (va_rf o))) : XS l G q d (pc, L, st, h) (pc + 1, L, va_rf o :: st, h) := by
  cases o with
  | none => exact s_aloadnN hc hn' hx
  | some b => exact s_aloadn hc hn' hx
theorem s_aloadO {i : Nat} {o : Option Nat} (hc : xI q pc = some (.aload i, 2)) (hx : L[i]? = some (some (va_rf o))) : XS l G q d (pc, L, st, h) (pc + 2, L, va_rf o :: st, h) := by
  cases o with
  | none => exact s_aloadN hc hx
  | some b => exact s_aload hc hx
theorem s_astorenO {n : Fin 4} {i : Nat} {o : Option Nat} (hc : xI q pc = some (.astore_n n, 1)) (hn' : (n : Nat) = i) (hb : i < q.2.2.2.1) : XS l G q d (pc, L, va_rf o :: st, h) (pc + 1, xset1 L i (va_rf o), st, h) := by
  cases o with
  | none => exact s_astorenN hc hn' hb
  | some b => exact s_astoren hc hn' hb
theorem s_astoreO {i : Nat} {o : Option Nat} (hc : xI q pc = some (.astore i, 2)) (hb : i < q.2.2.2.1) : XS l G q d (pc, L, va_rf o :: st, h) (pc + 2, xset1 L i (va_rf o), st, h) := by
  cases o with
  | none => exact s_astoreN hc hb
  | some b => exact s_astore hc hb
/-- two references compared: of cells that are there, or null -/
theorem r_acmp_eq {a b : Nat} {off : Int} {tgt : Nat} (hc : xI q pc = some (.if_acmp .eq off, 3)) (ht : (pc : Int) + off = (tgt : Int)) (ha : a < 10000000) (hb : b < 10000000) (kt : a = b → XR l G q d (tgt, L, st, h) P) (kf : ¬ a = b → XR l G q d (pc + 3, L, st, h) P) : XR l G q d (pc, L, .ref b :: .ref a :: st, h) P := by
  have hinj : gA G a = gA G b ↔ a = b := by rw [gA_dyn ha, gA_dyn hb]; omega
  rcases Classical.em (a = b) with e | e
  · refine (XS.pure (fun p e' Rm s m args below meth c cx Qf H locs cells slots ls hl k => ?_)).go (kt e)
    exact lv_acmp_eq (rx := some (gA G a)) (ry := some (gA G b)) cx.1 cx.2.1 (xI_dec cx.2.2.2.2.2.2.2.2.2.1 hc) ht (fun _ => k ls hl) (fun z => absurd (by rw [e]) z)
  · refine (XS.pure (fun p e' Rm s m args below meth c cx Qf H locs cells slots ls hl k => ?_)).go (kf e)
    exact lv_acmp_eq (rx := some (gA G a)) (ry := some (gA G b)) cx.1 cx.2.1 (xI_dec cx.2.2.2.2.2.2.2.2.2.1 hc) ht (fun z => absurd (hinj.mp (Option.some.inj z)) e) (fun _ => k ls hl)
/-- switches -/
theorem s_tswI {dflt lo hi' : Int} {offs : Array Int} {len : Nat} {x : Int32} {off : Int} {tgt : Nat} (hc : xI q pc = some (.tableswitch dflt lo hi' offs, len)) (h1 : ¬ x.toInt < lo) (h2 : ¬ hi' < x.toInt) (ho : offs[(x.toInt - lo).toNat]? = some off) (ht : (pc : Int) + off = (tgt : Int)) : XS l G q d (pc, L, .int x :: st, h) (tgt, L, st, h) := XS.pure (fun p e Rm s m args below meth c cx Qf H locs cells slots ls hl k => lv_tableIn cx.1 cx.2.1 (xI_dec cx.2.2.2.2.2.2.2.2.2.1 hc) h1 h2 ho ht (k ls hl))
theorem s_tswO {dflt lo hi' : Int} {offs : Array Int} {len : Nat} {x : Int32} {tgt : Nat} (hc : xI q pc = some (.tableswitch dflt lo hi' offs, len)) (h1 : x.toInt < lo ∨ hi' < x.toInt) (ht : (pc : Int) + dflt = (tgt : Int)) : XS l G q d (pc, L, .int x :: st, h) (tgt, L, st, h) := XS.pure (fun p e Rm s m args below meth c cx Qf H locs cells slots ls hl k => lv_tableOut cx.1 cx.2.1 (xI_dec cx.2.2.2.2.2.2.2.2.2.1 hc) h1 ht (k ls hl))
theorem s_lsw {dflt : Int} {ps : Array (Int × Int)} {len : Nat} {x : Int32} {off : Int} {tgt : Nat} (hc : xI q pc = some (.lookupswitch dflt ps, len)) (hp : (ps.toList.zip (ps.toList.drop 1)).all (fun (a, next) => a.1 < next.1) = true) (ho : Op.lookupswitch.offset ps.toList dflt x.toInt = off) (ht : (pc : Int) + off = (tgt : Int)) : XS l G q d (pc, L, .int x :: st, h) (tgt, L, st, h) := XS.pure (fun p e Rm s m args below meth c cx Qf H locs cells slots ls hl k => lv_lookup cx.1 cx.2.1 (xI_dec cx.2.2.2.2.2.2.2.2.2.1 hc) hp ho ht (k ls hl))
/-- constants -/
theorem s_ldc2 {idx : Nat} {v : Int64} (hc : xI q pc = some (.ldc2_w idx, 3)) (hl0 : Cond.constantLong (xCls q.1) idx v ∈ lw_g) : XS l G q d (pc, L, st, h) (pc + 3, L, .long v :: st, h) := XS.pure (fun p e Rm s m args below meth c cx Qf H locs cells slots ls hl k => lv_ldc2 cx.1 cx.2.1 cx.2.2.2.2.2.2.1 (cx.2.2.2.2.2.2.2.1 _ hl0) (xI_dec cx.2.2.2.2.2.2.2.2.2.1 hc) (k ls hl))
theorem mv_big {a : Nat} (h : ¬ a < 10000000) : mv G (.ref a) = .ref (G.2.1 a) := by
  show Value.ref (gA G a) = _
  unfold gA
  rw [if_neg h]
theorem s_ldcs {idx i a : Nat} {tx : String} (hc : xI q pc = some (.ldc idx, 2)) (hs : xStrs[i]? = some (xCls q.1, idx, tx)) (ha : 10000010 + i = a) : XS l G q d (pc, L, st, h) (pc + 2, L, .ref a :: st, h) := by
  have hbig : ¬ a < 10000000 := by omega
  refine XS.pure (fun p e Rm s m args below meth c cx Qf H locs cells slots ls hl k => ?_)
  obtain ⟨hx, hb, -, -, -, -, hown, -, -, hg, -, -, hE, -⟩ := cx
  have hv := hE.2.2.1 i _ hs
  rw [ha] at hv
  have w := k ls hl
  rw [List.map_cons, mv_big hbig] at w
  exact va_ldcS hx hb hown hv (xI_dec hg hc) w
end XMisc
