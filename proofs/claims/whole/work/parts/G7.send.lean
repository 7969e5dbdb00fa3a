/-! The parsers: a struct to its end -/

/-- what comes of a definition: both go on, or both found one fault -/
def OUT (T : Nat → Nat) (n c S t nd ns nt nu na es et eu lo : Nat) (g h : XH) (rc : Option (Int32 × XH)) (rm : Option (Unit × XH)) : Prop := (∃ u p k', rc = some (1, u) ∧ rm = some ((), p) ∧ ST T n c u p t S k' ∧ BG T n c S t nd ns 0 nt 0 nu 0 na es et eu lo u p ∧ CN S t nd ns nt nu na es et eu u p ∧ LY p ∧ FC S t g u ∧ FMx h p) ∨ (∃ u p, rc = some (0, u) ∧ rm = some ((), p) ∧ FLT u p t ∧ FC S t g u ∧ FMx h p)
section Se
variable {so o zS aS mS : Nat → Nat} {lS pS : Nat → Nat → Nat} {T : Nat → Nat} {n c S t nd ns fs nt ft nu fu na es et eu lo k f : Nat} {g h u p v g2 h2 : XH} {rc : Option (Int32 × XH)} {rm : Option (Unit × XH)}
theorem OUT.pre (A : OUT T n c S t nd ns nt nu na es et eu lo g2 h2 rc rm) (F : FC S t g g2) (G : FMx h h2) : OUT T n c S t nd ns nt nu na es et eu lo g h rc rm := by
  rcases A with ⟨u, p, k', a1, a2, a3, a4, a5, a6, a7, a8⟩ | ⟨u, p, a1, a2, a3, a4, a5⟩
  · exact Or.inl ⟨u, p, k', a1, a2, a3, a4, a5, a6, F.trans a7, FRX.trans G a8⟩
  · exact Or.inr ⟨u, p, a1, a2, a3, F.trans a4, FRX.trans G a5⟩
theorem e_m_isSign {x : Nat} (A : ST T n c g h t S k) (hx : sgB x = true) : (hi g 8 k = nI x ∧ f_m_isSign (nI x) h = some (1, h)) ∨ (¬ hi g 8 k = nI x ∧ f_m_isSign (nI x) h = some (0, h)) := by
  obtain ⟨P, K, kc', a5, a6, m13', m14'⟩ := A
  have c4 := K.2.2.2.1
  have i := (K.2.2.2.2.1 k kc').sign hx
  unfold f_m_isSign
  rw [m13', nI_clamp (show k < 2 ^ 31 by omega)]
  by_cases q : hi g 8 k = nI x
  · obtain ⟨i1, i2⟩ := i.mp q
    exact Or.inl ⟨q, o_neg (not_not_intro m14') (o_pos (by (first | (simp (maxSteps := 4000000) (disch := omega) only [n_0, n_1, n_2, n_3, n_4, n_5, n_6, n_7, n_8, n_9, n_10, n_11, n_12, n_13, n_14, n_15, n_16, n_18, n_20, n_24, n_31, n_32, n_34, n_40, n_41, n_44, n_45, n_47, n_48, n_57, n_58, n_59, n_61, n_63, n_64, n_65, n_68, n_90, n_91, n_93, n_95, n_97, n_100, n_122, n_123, n_125, n_128, n_144, n_200, n_255, n_256, n_300, n_400, n_600, n_1536, n_3980, n_4000, n_4001, n_4300, n_65536, l_0, l_1, l_2, l_3, l_4, l_10, l_48, l_63, l_255, l_300, nI_ltI, nI_leI, nI_eq, nI_clamp, nI_add, pk_sub, pk_mul, nI_ne1, ne1_nI, nI_pge, nI_nlt0, nI_l, lN_i, lN_add, lN_mul, lN_sub, pk_lLT, pk_lLE, pk_lEQ, lg_lt, lg_ge, lg_eq0, lg_le, lg_gt, lg_ltn, lg_gen, lg_eq0n, lg_len, lg_gtn, Nat.zero_le, Nat.not_lt_zero, not_false_eq_true, not_true_eq_false, true_and, and_true]; done) | (simp (maxSteps := 4000000) (disch := omega) only [n_0, n_1, n_2, n_3, n_4, n_5, n_6, n_7, n_8, n_9, n_10, n_11, n_12, n_13, n_14, n_15, n_16, n_18, n_20, n_24, n_31, n_32, n_34, n_40, n_41, n_44, n_45, n_47, n_48, n_57, n_58, n_59, n_61, n_63, n_64, n_65, n_68, n_90, n_91, n_93, n_95, n_97, n_100, n_122, n_123, n_125, n_128, n_144, n_200, n_255, n_256, n_300, n_400, n_600, n_1536, n_3980, n_4000, n_4001, n_4300, n_65536, l_0, l_1, l_2, l_3, l_4, l_10, l_48, l_63, l_255, l_300, nI_ltI, nI_leI, nI_eq, nI_clamp, nI_add, pk_sub, pk_mul, nI_ne1, ne1_nI, nI_pge, nI_nlt0, nI_l, lN_i, lN_add, lN_mul, lN_sub, pk_lLT, pk_lLE, pk_lEQ, lg_lt, lg_ge, lg_eq0, lg_le, lg_gt, lg_ltn, lg_gen, lg_eq0n, lg_len, lg_gtn, Nat.zero_le, Nat.not_lt_zero, not_false_eq_true, not_true_eq_false, true_and, and_true]; omega) | omega)) (o_neg (not_not_intro i1) (o_neg (not_not_intro i2) rfl)))⟩
  · refine Or.inr ⟨q, o_neg (not_not_intro m14') (o_pos (by (first | (simp (maxSteps := 4000000) (disch := omega) only [n_0, n_1, n_2, n_3, n_4, n_5, n_6, n_7, n_8, n_9, n_10, n_11, n_12, n_13, n_14, n_15, n_16, n_18, n_20, n_24, n_31, n_32, n_34, n_40, n_41, n_44, n_45, n_47, n_48, n_57, n_58, n_59, n_61, n_63, n_64, n_65, n_68, n_90, n_91, n_93, n_95, n_97, n_100, n_122, n_123, n_125, n_128, n_144, n_200, n_255, n_256, n_300, n_400, n_600, n_1536, n_3980, n_4000, n_4001, n_4300, n_65536, l_0, l_1, l_2, l_3, l_4, l_10, l_48, l_63, l_255, l_300, nI_ltI, nI_leI, nI_eq, nI_clamp, nI_add, pk_sub, pk_mul, nI_ne1, ne1_nI, nI_pge, nI_nlt0, nI_l, lN_i, lN_add, lN_mul, lN_sub, pk_lLT, pk_lLE, pk_lEQ, lg_lt, lg_ge, lg_eq0, lg_le, lg_gt, lg_ltn, lg_gen, lg_eq0n, lg_len, lg_gtn, Nat.zero_le, Nat.not_lt_zero, not_false_eq_true, not_true_eq_false, true_and, and_true]; done) | (simp (maxSteps := 4000000) (disch := omega) only [n_0, n_1, n_2, n_3, n_4, n_5, n_6, n_7, n_8, n_9, n_10, n_11, n_12, n_13, n_14, n_15, n_16, n_18, n_20, n_24, n_31, n_32, n_34, n_40, n_41, n_44, n_45, n_47, n_48, n_57, n_58, n_59, n_61, n_63, n_64, n_65, n_68, n_90, n_91, n_93, n_95, n_97, n_100, n_122, n_123, n_125, n_128, n_144, n_200, n_255, n_256, n_300, n_400, n_600, n_1536, n_3980, n_4000, n_4001, n_4300, n_65536, l_0, l_1, l_2, l_3, l_4, l_10, l_48, l_63, l_255, l_300, nI_ltI, nI_leI, nI_eq, nI_clamp, nI_add, pk_sub, pk_mul, nI_ne1, ne1_nI, nI_pge, nI_nlt0, nI_l, lN_i, lN_add, lN_mul, lN_sub, pk_lLT, pk_lLE, pk_lEQ, lg_lt, lg_ge, lg_eq0, lg_le, lg_gt, lg_ltn, lg_gen, lg_eq0n, lg_len, lg_gtn, Nat.zero_le, Nat.not_lt_zero, not_false_eq_true, not_true_eq_false, true_and, and_true]; omega) | omega)) ?_)⟩
    by_cases s1 : hi h 1266 k = 4
    · exact o_neg (not_not_intro s1) (o_pos (fun z => q (i.mpr ⟨s1, z⟩)) rfl)
    · exact o_pos s1 rfl
theorem BG.dropS (A : BG T n c S t nd ns fs nt ft nu fu na es et eu lo g h) : BG T n c S t nd ns 0 nt ft nu fu na es et eu lo g h := by
  obtain ⟨M, K, D, SS, SC', TT, TC, UU, UC, E, I, ⟨l1, l2, l3, l4, l5, l6, l7, l8, l9, l10, l11, l12, l13, l14⟩⟩ := A
  exact ⟨M, K, D, SS, fun j hj' => absurd hj' (Nat.not_lt_zero j), TT, TC, UU, UC, E, I, ⟨l1, l2, l3, l4, l5, l6, l7, l8, l9, l10, l11, Or.inl rfl, l13, l14⟩⟩
theorem BG.addSD (A : BG T n c S t nd ns 0 nt 0 nu 0 na es et eu lo g h) (q : SD c S g h ns) (he : es = ns + 1) : BG T n c S t nd (ns + 1) 0 nt 0 nu 0 na es et eu lo g h := by
  obtain ⟨M, K, D, SS, SC', TT, TC, UU, UC, E, I, ⟨l1, l2, l3, l4, l5, l6, l7, l8, l9, l10, l11, l12, l13, l14⟩⟩ := A
  refine ⟨M, K, D, fun j hj' => ?_, fun j hj' => absurd hj' (Nat.not_lt_zero j), TT, TC, UU, UC, E, I, ⟨by omega, by omega, l3, l4, l5, l6, l7, l8, l9, l10, l11, Or.inl rfl, l13, l14⟩⟩
  by_cases cj : j = ns
  · rw [cj]; exact q
  · exact SS j (by omega)
theorem nf_sb195 (m : ¬ hi p 1262 14 = 0) : b_m_structBody_195 p = some ((), hsi p 1262 20 (hi p 1262 20 + 1)) := by
  unfold b_m_structBody_195
  exact o_bind (nf_sign m) rfl
theorem nf_sb35 {F : Nat} {x1 x2 : Int32} (m : ¬ hi p 1262 14 = 0) : b_m_structBody_35 (F + 1) x1 x2 p = some ((), hsi p 1262 20 (hi p 1262 20 + 1)) := by
  have e : b_m_structBody_149 x1 p = some ((), hsi p 1262 20 (hi p 1262 20 + 1)) := by
    unfold b_m_structBody_149
    exact o_pos m (nf_sb195 m)
  show s_m_structBody_35 (b_m_structBody_35 F) _ _ _ = _
  unfold s_m_structBody_35
  by_cases q : x2 = 0
  · exact o_pos q e
  · exact o_neg q (o_pos m e)
theorem nf_sb131 {F : Nat} {x1 : Int32} (m : ¬ hi p 1262 14 = 0) : b_m_structBody_131 (b_m_structBody_35 (F + 1)) x1 p = some ((), hsi p 1262 20 (hi p 1262 20 + 1)) := by
  unfold b_m_structBody_131 b_m_structBody_145
  exact o_bind (nf_isSign m) (o_neg (not_not_intro rfl) (nf_sb35 m))
theorem FLT.up {x : Nat} {w : Int32} (A : FLT u p t) (hx : x ≠ 14 ∧ x ≠ 15) : FLT u (hsi p 1262 x w) t := by
  unfold FLT
  rw [hi_nk hx.1.symm, hi_nk hx.2.symm]
  exact A
theorem lf_ok (O : OLP ns zS aS mS lS pS) (Q : FO so o ns f) {j i : Nat} (hj' : j < f) (hi' : i < ct so o mS j) : lfv so o lS j i < 11 ∧ pv so o pS j i + bO (lfv so o lS j i) ≤ fz so o zS j := by
  unfold lfv pv fz
  unfold ct at hi'
  rcases Q j hj' with ⟨q1, q2⟩ | ⟨q1, q2⟩
  · rw [if_pos q1, if_pos q1, if_pos q1]
    omega
  · have e : ¬ so j = 0 := by omega
    rw [if_neg e] at hi'
    have := (O (o j) q2).1 i hi'
    rw [if_neg e, if_neg e, if_neg e]
    exact this
/-- the struct's end: its places, its leaves, its bracket -/
theorem structEnd (A : SB T n c S t nd ns nt nu na es et eu lo k f so o zS aS mS lS pS g h) (hf : f ≤ 12) (f0 : 1 ≤ f) (kq : hi g 8 k = 125) : OUT T n c S t nd (ns + 1) nt nu na es et eu lo g h (b_p_readStruct_67 t (some (dS S ns)) g) (b_m_structBody_149 (nI ns) h) := by
  obtain ⟨ST0, B, N, Lh, ⟨OP, OC, OM⟩, Q, M, ⟨e3, e6, e7, e11⟩, e73, hes⟩ := A
  have B' := B
  obtain ⟨BM, BK, BD, -, BS, -, -, -, -, -, -, ⟨l1, l2, l3, l4, l5, l6, l7, l8, l9, l10, -⟩⟩ := B'
  have ST0' := ST0
  obtain ⟨P, K, kc', a5, a6, m13', m14'⟩ := ST0'
  have c4 := K.2.2.2.1
  have t17 := P.2.1
  have S1 := P.2.2.2.1
  have L := ST0.scq
  have n12 : ns < 12 := by omega
  have D := L.ddS (s := ns) n12
  have d1 : dS S ns < hz g ∧ hk g (dS S ns) = 2 := ⟨by have := D.1; omega, D.2.2.2.2.1⟩
  have k14 : hk g (dS S ns + 14) = 100 := D.2.2.2.2.2.2.2.2.2.2.1
  have k15 : hk g (dS S ns + 15) = 100 := D.2.2.2.2.2.2.2.2.2.2.2.2.2.1
  have dr : S + 3 ≤ dS S ns ∧ dS S ns + 16 ≤ S + 195 := by unfold dS; omega
  have ff : ∀ i, i < f → hi g (dS S ns + 2 + i) 3 = nI (so i) ∧ hi g (dS S ns + 2 + i) 4 = nI (o i) := fun i hi' => by
    obtain ⟨-, -, s', o', s1, s2, s3, s4, -⟩ := BS i hi'
    have := M.2.2.1 i hi'
    exact ⟨by rw [s1, ← s3]; exact this.1, by rw [s2, ← s4]; exact this.2.1⟩
  obtain ⟨u1, y1, y2, y3, y4, y5⟩ := e_p_layOut (t := t) OP Q hf (show ns ≤ es by omega) l3 n12 f 0 100000 g (by omega) (by omega) P OC N.2.2.1 e3 (by rw [e6]; rfl) (by rw [e7]; rfl) ff
  have zl := Zf_le OP Q f (Nat.le_refl f)
  have am := Af_ok OP Q f (Nat.le_refl f)
  have rr := rU_f (x := Zf so o zS aS f) am
  have z1 : 1 ≤ Zf so o zS aS f := by
    have z := Zf_s OP Q (show 0 < f by omega)
    have a := fa_ok OP Q (show 0 < f by omega)
    have mm := Zf_mono OP Q (f - 1) 1 (by omega)
    rw [show 1 + (f - 1) = f by omega] at mm
    have : Zf so o zS aS (0 + 1) = Zf so o zS aS 1 := rfl
    omega
  obtain ⟨z, ez⟩ : ∃ z, z = rU (Zf so o zS aS f) (Af so o aS f) := ⟨_, rfl⟩
  rw [← ez] at y3 rr
  have F1 : FRX (yP (hk g) S t ns 0 nt 0 nu 0) (yJ S t ns 0 nt 0 nu 0 es et eu) (yW S t nd na) g u1 := y2.mono (fun a k z => by
    unfold loP at z
    unfold yP
    exact Or.inr (Or.inr ⟨Or.inl (by omega), by unfold dT dU; omega⟩)) (fun _ _ z => z.elim) (fun _ _ z => z.elim)
  have x1 : FRX (xP S t) (xJ S t) (wW S t) g u1 := y2.mono (fun a k z => by unfold loP at z; unfold xP; omega) (fun _ _ z => z.elim) (fun _ _ z => z.elim)
  obtain ⟨p1, ep1⟩ : ∃ p1, p1 = hsi h 1274 ns (nI z) := ⟨_, rfl⟩
  have G1 : FRX (zP nd ns 0 nt 0 nu 0 na) (zJ nt 0) nW h p1 := by
    rw [ep1]
    exact FRX.refl.si (Or.inr (Or.inr (Or.inl ⟨Or.inr (Or.inl rfl), Nat.le_refl _⟩)))
  have xg1 : FRX xM nJ nW h p1 := by rw [ep1]; exact FRX.refl.si (by simp [xM])
  have ST1 : ST T n c u1 p1 t S k := ST0.con x1 xg1
  have u8 : hi u1 8 k = 125 := by rw [x1.at (by unfold xP; omega)]; exact kq
  have sm : ∀ {X : Option (Unit × XH)}, (if nI z ≤ 128 then (b_m_structBody_195 p1) else (Option.bind (f_m_flaw 8 p1) fun r11 => (b_m_structBody_195 r11.2))) = X → b_m_structBody_149 (nI ns) h = X := by
    intro X qx
    unfold b_m_structBody_149
    rw [nI_clamp (show ns < 2 ^ 31 by omega), M.1, M.2.1]
    refine o_neg (not_not_intro m14') (o_pos (by (first | (simp (maxSteps := 4000000) (disch := omega) only [n_0, n_1, n_2, n_3, n_4, n_5, n_6, n_7, n_8, n_9, n_10, n_11, n_12, n_13, n_14, n_15, n_16, n_18, n_20, n_24, n_31, n_32, n_34, n_40, n_41, n_44, n_45, n_47, n_48, n_57, n_58, n_59, n_61, n_63, n_64, n_65, n_68, n_90, n_91, n_93, n_95, n_97, n_100, n_122, n_123, n_125, n_128, n_144, n_200, n_255, n_256, n_300, n_400, n_600, n_1536, n_3980, n_4000, n_4001, n_4300, n_65536, l_0, l_1, l_2, l_3, l_4, l_10, l_48, l_63, l_255, l_300, nI_ltI, nI_leI, nI_eq, nI_clamp, nI_add, pk_sub, pk_mul, nI_ne1, ne1_nI, nI_pge, nI_nlt0, nI_l, lN_i, lN_add, lN_mul, lN_sub, pk_lLT, pk_lLE, pk_lEQ, lg_lt, lg_ge, lg_eq0, lg_le, lg_gt, lg_ltn, lg_gen, lg_eq0n, lg_len, lg_gtn, Nat.zero_le, Nat.not_lt_zero, not_false_eq_true, not_true_eq_false, true_and, and_true]; done) | (simp (maxSteps := 4000000) (disch := omega) only [n_0, n_1, n_2, n_3, n_4, n_5, n_6, n_7, n_8, n_9, n_10, n_11, n_12, n_13, n_14, n_15, n_16, n_18, n_20, n_24, n_31, n_32, n_34, n_40, n_41, n_44, n_45, n_47, n_48, n_57, n_58, n_59, n_61, n_63, n_64, n_65, n_68, n_90, n_91, n_93, n_95, n_97, n_100, n_122, n_123, n_125, n_128, n_144, n_200, n_255, n_256, n_300, n_400, n_600, n_1536, n_3980, n_4000, n_4001, n_4300, n_65536, l_0, l_1, l_2, l_3, l_4, l_10, l_48, l_63, l_255, l_300, nI_ltI, nI_leI, nI_eq, nI_clamp, nI_add, pk_sub, pk_mul, nI_ne1, ne1_nI, nI_pge, nI_nlt0, nI_l, lN_i, lN_add, lN_mul, lN_sub, pk_lLT, pk_lLE, pk_lEQ, lg_lt, lg_ge, lg_eq0, lg_le, lg_gt, lg_ltn, lg_gen, lg_eq0n, lg_len, lg_gtn, Nat.zero_le, Nat.not_lt_zero, not_false_eq_true, not_true_eq_false, true_and, and_true]; omega) | omega)) (o_bind (e_m_upTo (by omega) am) (o_pos (by (first | (simp (maxSteps := 4000000) (disch := omega) only [n_0, n_1, n_2, n_3, n_4, n_5, n_6, n_7, n_8, n_9, n_10, n_11, n_12, n_13, n_14, n_15, n_16, n_18, n_20, n_24, n_31, n_32, n_34, n_40, n_41, n_44, n_45, n_47, n_48, n_57, n_58, n_59, n_61, n_63, n_64, n_65, n_68, n_90, n_91, n_93, n_95, n_97, n_100, n_122, n_123, n_125, n_128, n_144, n_200, n_255, n_256, n_300, n_400, n_600, n_1536, n_3980, n_4000, n_4001, n_4300, n_65536, l_0, l_1, l_2, l_3, l_4, l_10, l_48, l_63, l_255, l_300, nI_ltI, nI_leI, nI_eq, nI_clamp, nI_add, pk_sub, pk_mul, nI_ne1, ne1_nI, nI_pge, nI_nlt0, nI_l, lN_i, lN_add, lN_mul, lN_sub, pk_lLT, pk_lLE, pk_lEQ, lg_lt, lg_ge, lg_eq0, lg_le, lg_gt, lg_ltn, lg_gen, lg_eq0n, lg_len, lg_gtn, Nat.zero_le, Nat.not_lt_zero, not_false_eq_true, not_true_eq_false, true_and, and_true]; done) | (simp (maxSteps := 4000000) (disch := omega) only [n_0, n_1, n_2, n_3, n_4, n_5, n_6, n_7, n_8, n_9, n_10, n_11, n_12, n_13, n_14, n_15, n_16, n_18, n_20, n_24, n_31, n_32, n_34, n_40, n_41, n_44, n_45, n_47, n_48, n_57, n_58, n_59, n_61, n_63, n_64, n_65, n_68, n_90, n_91, n_93, n_95, n_97, n_100, n_122, n_123, n_125, n_128, n_144, n_200, n_255, n_256, n_300, n_400, n_600, n_1536, n_3980, n_4000, n_4001, n_4300, n_65536, l_0, l_1, l_2, l_3, l_4, l_10, l_48, l_63, l_255, l_300, nI_ltI, nI_leI, nI_eq, nI_clamp, nI_add, pk_sub, pk_mul, nI_ne1, ne1_nI, nI_pge, nI_nlt0, nI_l, lN_i, lN_add, lN_mul, lN_sub, pk_lLT, pk_lLE, pk_lEQ, lg_lt, lg_ge, lg_eq0, lg_le, lg_gt, lg_ltn, lg_gen, lg_eq0n, lg_len, lg_gtn, Nat.zero_le, Nat.not_lt_zero, not_false_eq_true, not_true_eq_false, true_and, and_true]; omega) | omega)) ?_)))
    rw [← ez, ← ep1]
    exact qx
  have d1' : dS S ns < hz u1 ∧ hk u1 (dS S ns) = 2 := by rw [y2.1.1, y2.1.2.2.1]; exact d1
  have zb : z < 100000 := by omega
  by_cases cz : z ≤ 128
  · have z128 : Zf so o zS aS f ≤ 128 := by omega
    obtain ⟨mm1, mm2⟩ := M.2.2.2 z128
    have lo0 : ∀ {b : Nat}, b < dS S ns → ∀ k, hi u1 b k = hi g b k := fun hb k => y2.at (by unfold loP; omega)
    obtain ⟨u2, w1, w2, w3, w4⟩ := e_p_findLeaves (t := t) OP Q hf (show ns ≤ es by omega) l3 n12 z128 f 0 100000 u1 (by omega) (by omega) ST1.1 (OC.fr y2 (fun a k h1 h2 => by unfold loP; omega)) (by rw [lo0 (by omega)]; exact N.2.2.1) (by rw [y2.at (by unfold loP; omega)]; exact e3) (by rw [y2.at (by unfold loP; omega)]; exact e11) (fun i hi' => ⟨by rw [y2.at (by unfold loP; omega)]; exact (ff i hi').1, by rw [y2.at (by unfold loP; omega)]; exact (ff i hi').2, y5 i (Nat.zero_le i) hi'⟩)
    have F12 : FRX (yP (hk g) S t ns 0 nt 0 nu 0) (yJ S t ns 0 nt 0 nu 0 es et eu) (yW S t nd na) u1 u2 := w2.mono (fun a k z => by
      unfold lfP at z
      unfold yP
      rcases z with z | ⟨z | z, -⟩
      · exact Or.inr (Or.inr ⟨Or.inl (by omega), by unfold dT dU; omega⟩)
      · exact Or.inr (Or.inr ⟨Or.inr (by rw [z, k14]; decide), by unfold dT dU; omega⟩)
      · exact Or.inr (Or.inr ⟨Or.inr (by rw [z, k15]; decide), by unfold dT dU; omega⟩)) (fun _ _ z => z.elim) (fun _ _ z => z.elim)
    have F2 := F1.trans F12
    have ST2 : ST T n c u2 p1 t S k := ST1.con (w2.mono (fun a k z => by unfold lfP at z; unfold xP; omega) (fun _ _ z => z.elim) (fun _ _ z => z.elim)) FRX.refl
    have scl : ∀ {r : Int32} {v : XH}, f_p_expect t 125 u2 = some (r, v) → (r = 0 ∨ r = 1) → b_p_readStruct_67 t (some (dS S ns)) g = some (r, v) := by
      intro r v q1 q2
      unfold b_p_readStruct_67 f_p_layOut
      refine o_pos P.tk (o_bind rfl (o_bind y1 (o_pos d1' ?_)))
      rw [y3]
      refine o_pos (by (first | (simp (maxSteps := 4000000) (disch := omega) only [n_0, n_1, n_2, n_3, n_4, n_5, n_6, n_7, n_8, n_9, n_10, n_11, n_12, n_13, n_14, n_15, n_16, n_18, n_20, n_24, n_31, n_32, n_34, n_40, n_41, n_44, n_45, n_47, n_48, n_57, n_58, n_59, n_61, n_63, n_64, n_65, n_68, n_90, n_91, n_93, n_95, n_97, n_100, n_122, n_123, n_125, n_128, n_144, n_200, n_255, n_256, n_300, n_400, n_600, n_1536, n_3980, n_4000, n_4001, n_4300, n_65536, l_0, l_1, l_2, l_3, l_4, l_10, l_48, l_63, l_255, l_300, nI_ltI, nI_leI, nI_eq, nI_clamp, nI_add, pk_sub, pk_mul, nI_ne1, ne1_nI, nI_pge, nI_nlt0, nI_l, lN_i, lN_add, lN_mul, lN_sub, pk_lLT, pk_lLE, pk_lEQ, lg_lt, lg_ge, lg_eq0, lg_le, lg_gt, lg_ltn, lg_gen, lg_eq0n, lg_len, lg_gtn, Nat.zero_le, Nat.not_lt_zero, not_false_eq_true, not_true_eq_false, true_and, and_true]; done) | (simp (maxSteps := 4000000) (disch := omega) only [n_0, n_1, n_2, n_3, n_4, n_5, n_6, n_7, n_8, n_9, n_10, n_11, n_12, n_13, n_14, n_15, n_16, n_18, n_20, n_24, n_31, n_32, n_34, n_40, n_41, n_44, n_45, n_47, n_48, n_57, n_58, n_59, n_61, n_63, n_64, n_65, n_68, n_90, n_91, n_93, n_95, n_97, n_100, n_122, n_123, n_125, n_128, n_144, n_200, n_255, n_256, n_300, n_400, n_600, n_1536, n_3980, n_4000, n_4001, n_4300, n_65536, l_0, l_1, l_2, l_3, l_4, l_10, l_48, l_63, l_255, l_300, nI_ltI, nI_leI, nI_eq, nI_clamp, nI_add, pk_sub, pk_mul, nI_ne1, ne1_nI, nI_pge, nI_nlt0, nI_l, lN_i, lN_add, lN_mul, lN_sub, pk_lLT, pk_lLE, pk_lEQ, lg_lt, lg_ge, lg_eq0, lg_le, lg_gt, lg_ltn, lg_gen, lg_eq0n, lg_len, lg_gtn, Nat.zero_le, Nat.not_lt_zero, not_false_eq_true, not_true_eq_false, true_and, and_true]; omega) | omega)) (o_pos ST1.1.tk (o_bind (v := ((), u2)) ?_ (o_pos ST2.1.tk (o_bind q1 (o_pos q2 rfl)))))
      unfold f_p_findLeaves
      exact w1
    rcases exp2 (x := 125) ST2 (by decide) with ⟨u3, p3, q1, q2, q3, q4, q5⟩ | ⟨u3, p3, q1, q2, q3, q4, q5⟩
    · refine Or.inl ?_
      obtain ⟨p4, ep4⟩ : ∃ p4, p4 = hsi p3 1262 20 (nI (ns + 1)) := ⟨_, rfl⟩
      have n20 : hi p3 1262 20 = nI ns := by rw [q5.at (by simp [m13]), ep1, hi_hsi_ne (by decide)]; exact N.2.2.2.2.2.1
      have F3 : FRX (yP (hk g) S t ns 0 nt 0 nu 0) (yJ S t ns 0 nt 0 nu 0 es et eu) (yW S t nd na) g u3 := F2.trans (q4.x (fun a k z => Or.inl z.1) (fun k => Or.inl rfl))
      have G3 : FRX (zP nd ns 0 nt 0 nu 0 na) (zJ nt 0) nW h p3 := G1.trans (q5.x (fun a k z => Or.inl ⟨z.1, Or.inl z.2⟩) (fun k => Or.inl rfl))
      have G4 : FRX (zP nd ns 0 nt 0 nu 0 na) (zJ nt 0) nW h p4 := by
        rw [ep4]
        exact G3.si (by simp [zP])
      have x4 : FRX xM nJ nW p3 p4 := by rw [ep4]; exact FRX.refl.si (by simp [xM])
      have B4 := B.dropS.fr P.1 t17 F3 G4
      have ST4 := q3.con (FRX.refl (P := xP S t) (J := xJ S t) (W := wW S t)) x4
      have ua : ∀ b k, b ≠ t → hi u3 b k = hi u2 b k := fun b k hb => q4.at (fun z => hb z.1)
      have ph : ∀ b k, b ≠ 1262 → b ≠ 1274 → hi p4 b k = hi h b k := fun b k hb hb2 => by
        rw [ep4, hi_hsi_ne hb, q5.at (fun z => hb z.1), ep1, hi_hsi_ne hb2]
      have ph4 : ∀ k, k ≠ ns → hi p4 1274 k = hi h 1274 k := fun k hk' => by
        rw [ep4, hi_hsi_ne (by decide), q5.at (by simp [m13]), ep1, hi_nk hk']
      have p4z : hi p4 1274 ns = nI z := by rw [ep4, hi_hsi_ne (by decide), q5.at (by simp [m13]), ep1, hi_at]
      have mle := Mf_le OP Q f (Nat.le_refl f)
      have FC3 : FC S t g u3 := F3.mono (fun a k z => yP_c z) (fun a k z => yJ_c z) (fun a k z => yW_c z)
      have FM4 : FMx h p4 := G4.mono (fun a k z => zP_m z) (fun a k z => zJ_m z) (fun _ _ z => z)
      refine ⟨u3, p4, k + 1, scl q1 (Or.inr rfl), sm (o_pos (by (first | (simp (maxSteps := 4000000) (disch := omega) only [n_0, n_1, n_2, n_3, n_4, n_5, n_6, n_7, n_8, n_9, n_10, n_11, n_12, n_13, n_14, n_15, n_16, n_18, n_20, n_24, n_31, n_32, n_34, n_40, n_41, n_44, n_45, n_47, n_48, n_57, n_58, n_59, n_61, n_63, n_64, n_65, n_68, n_90, n_91, n_93, n_95, n_97, n_100, n_122, n_123, n_125, n_128, n_144, n_200, n_255, n_256, n_300, n_400, n_600, n_1536, n_3980, n_4000, n_4001, n_4300, n_65536, l_0, l_1, l_2, l_3, l_4, l_10, l_48, l_63, l_255, l_300, nI_ltI, nI_leI, nI_eq, nI_clamp, nI_add, pk_sub, pk_mul, nI_ne1, ne1_nI, nI_pge, nI_nlt0, nI_l, lN_i, lN_add, lN_mul, lN_sub, pk_lLT, pk_lLE, pk_lEQ, lg_lt, lg_ge, lg_eq0, lg_le, lg_gt, lg_ltn, lg_gen, lg_eq0n, lg_len, lg_gtn, Nat.zero_le, Nat.not_lt_zero, not_false_eq_true, not_true_eq_false, true_and, and_true]; done) | (simp (maxSteps := 4000000) (disch := omega) only [n_0, n_1, n_2, n_3, n_4, n_5, n_6, n_7, n_8, n_9, n_10, n_11, n_12, n_13, n_14, n_15, n_16, n_18, n_20, n_24, n_31, n_32, n_34, n_40, n_41, n_44, n_45, n_47, n_48, n_57, n_58, n_59, n_61, n_63, n_64, n_65, n_68, n_90, n_91, n_93, n_95, n_97, n_100, n_122, n_123, n_125, n_128, n_144, n_200, n_255, n_256, n_300, n_400, n_600, n_1536, n_3980, n_4000, n_4001, n_4300, n_65536, l_0, l_1, l_2, l_3, l_4, l_10, l_48, l_63, l_255, l_300, nI_ltI, nI_leI, nI_eq, nI_clamp, nI_add, pk_sub, pk_mul, nI_ne1, ne1_nI, nI_pge, nI_nlt0, nI_l, lN_i, lN_add, lN_mul, lN_sub, pk_lLT, pk_lLE, pk_lEQ, lg_lt, lg_ge, lg_eq0, lg_le, lg_gt, lg_ltn, lg_gen, lg_eq0n, lg_len, lg_gtn, Nat.zero_le, Nat.not_lt_zero, not_false_eq_true, not_true_eq_false, true_and, and_true]; omega) | omega)) ?_), ST4, B4.addSD ?_ hes, ?_, FM4.ly Lh, FC3, FM4⟩
      · unfold b_m_structBody_195
        refine o_bind q2 ?_
        rw [n20, n_1, nI_add, ep4]
      · -- the struct
        refine ⟨f, z, Af so o aS f, Mf so o mS f, so, o, Pf so o zS aS, fun k => (hi p4 1281 (128 * ns + k)).toNatClampNeg, fun k => (hi p4 1282 (128 * ns + k)).toNatClampNeg, ?_, ?_, fun i hi' => ?_, fun k hk' => ?_, fun k hk' => ?_, ⟨f0, hf, by omega, cz, am, ?_, by omega⟩⟩
        · rw [ua _ _ (by omega), ua _ _ (by omega), ua _ _ (by omega), ua _ _ (by omega), w2.at (show ¬ lfP (dS S ns) _ (dS S ns) 3 by unfold lfP; omega), w2.at (show ¬ lfP (dS S ns) _ (dS S ns) 6 by unfold lfP; omega), w2.at (show ¬ lfP (dS S ns) _ (dS S ns) 7 by unfold lfP; omega), y2.at (show ¬ loP (dS S ns) 0 (dS S ns) 3 by unfold loP; omega)]
          exact ⟨e3, y3, y4, w3⟩
        · rw [ph 1273 ns (by decide) (by decide), ph 1275 ns (by decide) (by decide), ph 1280 ns (by decide) (by decide)]
          exact ⟨e73, p4z, M.2.1, mm1⟩
        · have uf : ∀ k, hi u3 (dS S ns + 2 + i) k = hi u1 (dS S ns + 2 + i) k := fun k => by rw [ua _ _ (by omega), w2.at (by unfold lfP; omega)]
          have ug : ∀ k, k ≠ 6 → hi u3 (dS S ns + 2 + i) k = hi g (dS S ns + 2 + i) k := fun k hk' => by rw [uf, y2.at (by unfold loP; omega)]
          obtain ⟨nq, ⟨b5, b7⟩, -⟩ := BS i hi'
          have m3 := M.2.2.1 i hi'
          have zs := Zf_s OP Q hi'
          have zm := Zf_mono OP Q (f - (i + 1)) (i + 1) (by omega)
          rw [show i + 1 + (f - (i + 1)) = f by omega] at zm
          refine ⟨?_, ?_, ?_, ?_⟩
          · rw [ug 3 (by decide), ug 4 (by decide), ug 5 (by decide), ug 7 (by decide), uf 6]
            exact ⟨(ff i hi').1, (ff i hi').2, b5, y5 i (Nat.zero_le i) hi', b7⟩
          · rw [ph 1277 _ (by decide) (by decide), ph 1278 _ (by decide) (by decide), ph 1279 _ (by decide) (by decide)]
            exact m3
          · have jj : ∀ k, hj u3 (dS S ns + 2 + i) k = hj g (dS S ns + 2 + i) k := fun k => by rw [q4.hj (by omega), w2.lg id, y2.lg id]
            rw [ph 1276 _ (by decide) (by decide), jj, jj]
            exact nq.cg (fun k => F3.at (by unfold yP dT dU; omega)) (fun k => F3.lg (by unfold yJ; omega)) (fun k => F3.lg (by unfold yJ; omega))
          · unfold fz at zs
            rcases Q i hi' with ⟨r1, r2⟩ | ⟨r1, r2⟩
            · rw [if_pos r1] at zs
              exact Or.inl ⟨r1, r2, by omega⟩
            · rw [if_neg (by omega)] at zs
              have ob := (OP (o i) r2).2.2
              exact Or.inr ⟨r1, r2, zS (o i), by rw [ph4 _ (by omega)]; exact (OM (o i) r2).1.1, by omega, by omega⟩
        · obtain ⟨j, i, r1, r2, r3⟩ := Mf_at _ _ hk'
          obtain ⟨c1, c2⟩ := w4 j (Nat.zero_le j) r1 i r2
          obtain ⟨c3, c4'⟩ := mm2 j r1 i r2
          obtain ⟨c5, c6⟩ := lf_ok OP Q r1 r2
          have zs := Zf_s OP Q r1
          have zm := Zf_mono OP Q (f - (j + 1)) (j + 1) (by omega)
          rw [show j + 1 + (f - (j + 1)) = f by omega] at zm
          have bb := bO_le (lfv so o lS j i)
          show (hi u3 (dS S ns + 2 + 12) k = nI (hi p4 1281 (128 * ns + k)).toNatClampNeg ∧ hi u3 (dS S ns + 3 + 12) k = nI (hi p4 1282 (128 * ns + k)).toNatClampNeg) ∧ (hi p4 1281 (128 * ns + k) = nI (hi p4 1281 (128 * ns + k)).toNatClampNeg ∧ hi p4 1282 (128 * ns + k) = nI (hi p4 1282 (128 * ns + k)).toNatClampNeg) ∧ (hi p4 1281 (128 * ns + k)).toNatClampNeg < 11 ∧ (hi p4 1282 (128 * ns + k)).toNatClampNeg + bO (hi p4 1281 (128 * ns + k)).toNatClampNeg ≤ z
          rw [ph 1281 _ (by decide) (by decide), ph 1282 _ (by decide) (by decide), r3, c3, c4', nI_clamp (by omega), nI_clamp (by omega), ua _ _ (by omega), ua _ _ (by omega)]
          exact ⟨⟨c1, c2⟩, ⟨rfl, rfl⟩, c5, by omega⟩
        · obtain ⟨j, i, r1, r2, r3⟩ := Mf_at _ _ (show k < Mf so o mS f by omega)
          obtain ⟨c3, c4'⟩ := mm2 j r1 i r2
          obtain ⟨c5, c6⟩ := lf_ok OP Q r1 r2
          have zs := Zf_s OP Q r1
          have zm := Zf_mono OP Q (f - (j + 1)) (j + 1) (by omega)
          rw [show j + 1 + (f - (j + 1)) = f by omega] at zm
          have bb := bO_le (lfv so o lS j i)
          show (hi p4 1282 (128 * ns + k)).toNatClampNeg + bO (hi p4 1281 (128 * ns + k)).toNatClampNeg ≤ (hi p4 1282 (128 * ns + (k + 1))).toNatClampNeg
          rw [ph 1281 _ (by decide) (by decide), ph 1282 _ (by decide) (by decide), ph 1282 (128 * ns + (k + 1)) (by decide) (by decide), r3, c3, c4', nI_clamp (by omega), nI_clamp (by omega)]
          by_cases ci : i + 1 < ct so o mS j
          · obtain ⟨c7, c8⟩ := mm2 j r1 (i + 1) ci
            obtain ⟨c9, c10⟩ := lf_ok OP Q r1 ci
            have bb2 := bO_le (lfv so o lS j (i + 1))
            rw [show Mf so o mS j + i + 1 = Mf so o mS j + (i + 1) by omega, c8, nI_clamp (by omega)]
            unfold pv lfv
            rcases Q j r1 with ⟨s1, s2⟩ | ⟨s1, s2⟩
            · unfold ct at ci
              rw [if_pos s1] at ci
              omega
            · have e : ¬ so j = 0 := by omega
              unfold ct at ci
              rw [if_neg e] at ci
              have := (OP (o j) s2).2.1 i ci
              rw [if_neg e, if_neg e, if_neg e]
              omega
          · have mj : Mf so o mS (j + 1) = Mf so o mS j + ct so o mS j := rfl
            have jn : j + 1 < f := by
              rcases Nat.lt_or_ge (j + 1) f with w | w
              · exact w
              · exfalso
                have : j + 1 = f := by omega
                rw [this] at mj
                omega
            have f1 := fa_ok OP Q jn
            obtain ⟨c7, c8⟩ := mm2 (j + 1) jn 0 (by omega)
            obtain ⟨c9, c10⟩ := lf_ok OP Q jn (show 0 < ct so o mS (j + 1) by omega)
            have zs2 := Zf_s OP Q jn
            have zm2 := Zf_mono OP Q (f - (j + 1 + 1)) (j + 1 + 1) (by omega)
            rw [show j + 1 + 1 + (f - (j + 1 + 1)) = f by omega] at zm2
            have bb2 := bO_le (lfv so o lS (j + 1) 0)
            rw [show Mf so o mS j + i + 1 = Mf so o mS (j + 1) + 0 by omega, c8, nI_clamp (by omega)]
            omega
        · have a := fa_ok OP Q (show 0 < f by omega)
          have mm := Mf_mono (so := so) (o := o) (mS := mS) (f - 1) 1
          rw [show 1 + (f - 1) = f by omega] at mm
          have : Mf so o mS 1 = 0 + ct so o mS 0 := rfl
          omega
      · obtain ⟨n1, n2, n3, n4, n5, n6, n7, n8, n9, n10⟩ := N
        have gt : ∀ b k, (b = S ∨ b = S + 1 ∨ b = S + 195 ∨ b = S + 517 ∨ (b = t ∧ k = 3)) → hi u3 b k = hi g b k := fun b k hb => by
          rw [q4.at (by unfold tP; omega), w2.at (by unfold lfP; omega), y2.at (by unfold loP; omega)]
        have pm : ∀ k, k ≠ 13 → k ≠ 20 → hi p4 1262 k = hi h 1262 k := fun k k1 k2 => by
          rw [ep4, hi_nk k2, q5.at (fun z => k1 z.2), ep1, hi_hsi_ne (by decide)]
        refine ⟨?_, ?_, ?_, ?_, ?_, ?_, ?_, ?_, ?_, ?_⟩
        · rw [gt _ _ (by simp)]; exact n1
        · rw [pm 16 (by decide) (by decide)]; exact n2
        · rw [gt _ _ (by simp)]; exact n3
        · rw [gt _ _ (by simp)]; exact n4
        · rw [gt _ _ (by simp)]; exact n5
        · rw [ep4, hi_at]
        · rw [pm 31 (by decide) (by decide)]; exact n7
        · rw [pm 41 (by decide) (by decide)]; exact n8
        · rw [gt _ _ (by simp)]; exact n9
        · rw [pm 46 (by decide) (by decide)]; exact n10
    · refine Or.inr ⟨u3, _, scl q1 (Or.inl rfl), sm (o_pos (by (first | (simp (maxSteps := 4000000) (disch := omega) only [n_0, n_1, n_2, n_3, n_4, n_5, n_6, n_7, n_8, n_9, n_10, n_11, n_12, n_13, n_14, n_15, n_16, n_18, n_20, n_24, n_31, n_32, n_34, n_40, n_41, n_44, n_45, n_47, n_48, n_57, n_58, n_59, n_61, n_63, n_64, n_65, n_68, n_90, n_91, n_93, n_95, n_97, n_100, n_122, n_123, n_125, n_128, n_144, n_200, n_255, n_256, n_300, n_400, n_600, n_1536, n_3980, n_4000, n_4001, n_4300, n_65536, l_0, l_1, l_2, l_3, l_4, l_10, l_48, l_63, l_255, l_300, nI_ltI, nI_leI, nI_eq, nI_clamp, nI_add, pk_sub, pk_mul, nI_ne1, ne1_nI, nI_pge, nI_nlt0, nI_l, lN_i, lN_add, lN_mul, lN_sub, pk_lLT, pk_lLE, pk_lEQ, lg_lt, lg_ge, lg_eq0, lg_le, lg_gt, lg_ltn, lg_gen, lg_eq0n, lg_len, lg_gtn, Nat.zero_le, Nat.not_lt_zero, not_false_eq_true, not_true_eq_false, true_and, and_true]; done) | (simp (maxSteps := 4000000) (disch := omega) only [n_0, n_1, n_2, n_3, n_4, n_5, n_6, n_7, n_8, n_9, n_10, n_11, n_12, n_13, n_14, n_15, n_16, n_18, n_20, n_24, n_31, n_32, n_34, n_40, n_41, n_44, n_45, n_47, n_48, n_57, n_58, n_59, n_61, n_63, n_64, n_65, n_68, n_90, n_91, n_93, n_95, n_97, n_100, n_122, n_123, n_125, n_128, n_144, n_200, n_255, n_256, n_300, n_400, n_600, n_1536, n_3980, n_4000, n_4001, n_4300, n_65536, l_0, l_1, l_2, l_3, l_4, l_10, l_48, l_63, l_255, l_300, nI_ltI, nI_leI, nI_eq, nI_clamp, nI_add, pk_sub, pk_mul, nI_ne1, ne1_nI, nI_pge, nI_nlt0, nI_l, lN_i, lN_add, lN_mul, lN_sub, pk_lLT, pk_lLE, pk_lEQ, lg_lt, lg_ge, lg_eq0, lg_le, lg_gt, lg_ltn, lg_gen, lg_eq0n, lg_len, lg_gtn, Nat.zero_le, Nat.not_lt_zero, not_false_eq_true, not_true_eq_false, true_and, and_true]; omega) | omega)) ?_), q3.up (x := 20) (w := hi p3 1262 20 + 1) (by decide), ?_, ?_⟩
      · unfold b_m_structBody_195
        exact o_bind q2 rfl
      · exact FC.trans (F2.mono (fun a k z => yP_c z) (fun a k z => yJ_c z) (fun a k z => yW_c z)) (FC.tFq q4)
      · exact FRX.si (FRX.trans (G1.mono (fun a k z => zP_m z) (fun a k z => zJ_m z) (fun _ _ z => z)) (FMx.q14 q5)) (by simp [nM])
  · obtain ⟨u3, p3, s1, s2, s3, s4, s5, s6⟩ := ST1.fl (x := 8) (by rw [u8]; decide) (by decide)
    refine Or.inr ⟨u3, hsi p3 1262 20 (hi p3 1262 20 + 1), ?_, sm (o_neg (by (first | (simp (maxSteps := 4000000) (disch := omega) only [n_0, n_1, n_2, n_3, n_4, n_5, n_6, n_7, n_8, n_9, n_10, n_11, n_12, n_13, n_14, n_15, n_16, n_18, n_20, n_24, n_31, n_32, n_34, n_40, n_41, n_44, n_45, n_47, n_48, n_57, n_58, n_59, n_61, n_63, n_64, n_65, n_68, n_90, n_91, n_93, n_95, n_97, n_100, n_122, n_123, n_125, n_128, n_144, n_200, n_255, n_256, n_300, n_400, n_600, n_1536, n_3980, n_4000, n_4001, n_4300, n_65536, l_0, l_1, l_2, l_3, l_4, l_10, l_48, l_63, l_255, l_300, nI_ltI, nI_leI, nI_eq, nI_clamp, nI_add, pk_sub, pk_mul, nI_ne1, ne1_nI, nI_pge, nI_nlt0, nI_l, lN_i, lN_add, lN_mul, lN_sub, pk_lLT, pk_lLE, pk_lEQ, lg_lt, lg_ge, lg_eq0, lg_le, lg_gt, lg_ltn, lg_gen, lg_eq0n, lg_len, lg_gtn, Nat.zero_le, Nat.not_lt_zero, not_false_eq_true, not_true_eq_false, true_and, and_true]; done) | (simp (maxSteps := 4000000) (disch := omega) only [n_0, n_1, n_2, n_3, n_4, n_5, n_6, n_7, n_8, n_9, n_10, n_11, n_12, n_13, n_14, n_15, n_16, n_18, n_20, n_24, n_31, n_32, n_34, n_40, n_41, n_44, n_45, n_47, n_48, n_57, n_58, n_59, n_61, n_63, n_64, n_65, n_68, n_90, n_91, n_93, n_95, n_97, n_100, n_122, n_123, n_125, n_128, n_144, n_200, n_255, n_256, n_300, n_400, n_600, n_1536, n_3980, n_4000, n_4001, n_4300, n_65536, l_0, l_1, l_2, l_3, l_4, l_10, l_48, l_63, l_255, l_300, nI_ltI, nI_leI, nI_eq, nI_clamp, nI_add, pk_sub, pk_mul, nI_ne1, ne1_nI, nI_pge, nI_nlt0, nI_l, lN_i, lN_add, lN_mul, lN_sub, pk_lLT, pk_lLE, pk_lEQ, lg_lt, lg_ge, lg_eq0, lg_le, lg_gt, lg_ltn, lg_gen, lg_eq0n, lg_len, lg_gtn, Nat.zero_le, Nat.not_lt_zero, not_false_eq_true, not_true_eq_false, true_and, and_true]; omega) | omega)) (o_bind s2 (nf_sb195 s6))), s3.up (by decide), ?_, ?_⟩
    · unfold b_p_readStruct_67 f_p_layOut
      refine o_pos P.tk (o_bind rfl (o_bind y1 (o_pos d1' ?_)))
      rw [y3]
      exact o_neg (by (first | (simp (maxSteps := 4000000) (disch := omega) only [n_0, n_1, n_2, n_3, n_4, n_5, n_6, n_7, n_8, n_9, n_10, n_11, n_12, n_13, n_14, n_15, n_16, n_18, n_20, n_24, n_31, n_32, n_34, n_40, n_41, n_44, n_45, n_47, n_48, n_57, n_58, n_59, n_61, n_63, n_64, n_65, n_68, n_90, n_91, n_93, n_95, n_97, n_100, n_122, n_123, n_125, n_128, n_144, n_200, n_255, n_256, n_300, n_400, n_600, n_1536, n_3980, n_4000, n_4001, n_4300, n_65536, l_0, l_1, l_2, l_3, l_4, l_10, l_48, l_63, l_255, l_300, nI_ltI, nI_leI, nI_eq, nI_clamp, nI_add, pk_sub, pk_mul, nI_ne1, ne1_nI, nI_pge, nI_nlt0, nI_l, lN_i, lN_add, lN_mul, lN_sub, pk_lLT, pk_lLE, pk_lEQ, lg_lt, lg_ge, lg_eq0, lg_le, lg_gt, lg_ltn, lg_gen, lg_eq0n, lg_len, lg_gtn, Nat.zero_le, Nat.not_lt_zero, not_false_eq_true, not_true_eq_false, true_and, and_true]; done) | (simp (maxSteps := 4000000) (disch := omega) only [n_0, n_1, n_2, n_3, n_4, n_5, n_6, n_7, n_8, n_9, n_10, n_11, n_12, n_13, n_14, n_15, n_16, n_18, n_20, n_24, n_31, n_32, n_34, n_40, n_41, n_44, n_45, n_47, n_48, n_57, n_58, n_59, n_61, n_63, n_64, n_65, n_68, n_90, n_91, n_93, n_95, n_97, n_100, n_122, n_123, n_125, n_128, n_144, n_200, n_255, n_256, n_300, n_400, n_600, n_1536, n_3980, n_4000, n_4001, n_4300, n_65536, l_0, l_1, l_2, l_3, l_4, l_10, l_48, l_63, l_255, l_300, nI_ltI, nI_leI, nI_eq, nI_clamp, nI_add, pk_sub, pk_mul, nI_ne1, ne1_nI, nI_pge, nI_nlt0, nI_l, lN_i, lN_add, lN_mul, lN_sub, pk_lLT, pk_lLE, pk_lEQ, lg_lt, lg_ge, lg_eq0, lg_le, lg_gt, lg_ltn, lg_gen, lg_eq0n, lg_len, lg_gtn, Nat.zero_le, Nat.not_lt_zero, not_false_eq_true, not_true_eq_false, true_and, and_true]; omega) | omega)) (o_pos ST1.1.tk (o_bind s1 (o_pos (Or.inl rfl) rfl)))
    · exact FC.trans (F1.mono (fun a k z => yP_c z) (fun a k z => yJ_c z) (fun a k z => yW_c z)) (FC.tFq s4)
    · exact FRX.si (FRX.trans (G1.mono (fun a k z => zP_m z) (fun a k z => zJ_m z) (fun _ _ z => z)) (FMx.q14 s5)) (by simp [nM])
end Se
