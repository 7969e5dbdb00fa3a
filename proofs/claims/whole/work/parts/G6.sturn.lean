/-! The parsers: fields of a struct, one after the other -/

/-- overall frames -/
def FC (S t : Nat) (g u : XH) : Prop := FRX (vP (hk g) S t) (vJ S t) (vW S t) g u
def FMx (h p : XH) : Prop := FRX nM nJ nW h p
/-- both in a struct's body, behind f fields -/
def SB (T : Nat → Nat) (n c S t nd ns nt nu na es et eu lo k f : Nat) (so o zS aS mS : Nat → Nat) (lS pS : Nat → Nat → Nat) (g h : XH) : Prop := ST T n c g h t S k ∧ BG T n c S t nd ns f nt 0 nu 0 na es et eu lo g h ∧ CN S t nd ns nt nu na es et eu g h ∧ LY h ∧ (OLP ns zS aS mS lS pS ∧ OLC S ns zS aS mS lS pS g ∧ OLM ns zS aS mS lS pS h) ∧ FO so o ns f ∧ SM ns f so o zS aS mS lS pS h ∧ (hi g (dS S ns) 3 = nI f ∧ hi g (dS S ns) 6 = 0 ∧ hi g (dS S ns) 7 = 1 ∧ hi g (dS S ns) 11 = 0) ∧ hi h 1273 ns = nI f ∧ es = ns + 1
section Sb
variable {so o zS aS mS : Nat → Nat} {lS pS : Nat → Nat → Nat} {T : Nat → Nat} {n c S t nd ns fs nt ft nu fu na es et eu lo k f : Nat} {g h u p v : XH}
theorem FC.refl : FC S t g g := FRX.refl
theorem FC.trans (A : FC S t g u) (B : FC S t u v) : FC S t g v := by
  unfold FC at *
  rw [A.1.2.2.1] at B
  exact FRX.trans A B
theorem FC.tFq (A : FRM (tF t) g u) : FC S t g u := A.x (fun a k z => by unfold tF at z; exact Or.inl (by omega)) (fun k => Or.inl rfl)
theorem FC.tPq (A : FRM (tP t) g u) : FC S t g u := A.x (fun a k z => by unfold tP at z; exact Or.inl (by omega)) (fun k => Or.inl rfl)
theorem FMx.q13 (A : FRM m13 h p) : FMx h p := A.x (fun a k z => by unfold m13 at z; unfold nM; omega) (fun k => Or.inl rfl)
theorem FMx.q14 (A : FRM m14 h p) : FMx h p := A.x (fun a k z => by unfold m14 at z; unfold nM; omega) (fun k => Or.inl rfl)
theorem FMx.ly (A : FMx h p) (L : LY h) : LY p := L.frx A fun _ _ _ _ z => z
theorem bSP_y {KK : Nat → Nat} {a k : Nat} (hn' : ns < 12) (z : bSP S t ns f a k) : yP KK S t ns f nt 0 nu 0 a k := by
  unfold bSP dS at z
  unfold yP dS dT dU
  rcases z with z | z | z
  · exact Or.inl z.1
  · exact Or.inr (Or.inr ⟨Or.inl (by omega), by omega⟩)
  · exact Or.inr (Or.inr ⟨Or.inl (by omega), by omega⟩)
theorem bSJ_y {a k : Nat} (hn' : ns < 12) (z : bSJ S ns f a k) : yJ S t ns f nt 0 nu 0 es et eu a k := by
  unfold bSJ dS at z
  unfold yJ dS
  omega
theorem bSM_z {a k : Nat} (z : bSM ns f a k) : zP nd ns f nt 0 nu 0 na a k := by
  rcases z with ⟨e, h1, h2⟩ | ⟨h1, e⟩ | ⟨h1, h2, h3⟩ | ⟨h1, h2⟩
  · exact Or.inl ⟨e, by omega⟩
  · exact Or.inr (Or.inr (Or.inl ⟨h1, by omega⟩))
  · exact Or.inr (Or.inr (Or.inr (Or.inl ⟨h1, h2, h3⟩)))
  · exact Or.inr (Or.inr (Or.inr (Or.inr (Or.inl ⟨h1, h2⟩))))
theorem sJ_z {a k : Nat} (z : sJ a k) : zJ nt 0 a k := Or.inl z
theorem OLC.fr {P J W : Nat → Nat → Prop} (A : OLC S ns zS aS mS lS pS g) (F : FRX P J W g u) (w : ∀ a k, S + 3 ≤ a → a < dS S ns → ¬ P a k) : OLC S ns zS aS mS lS pS u := by
  intro s hs
  have e : ∀ a k, dS S s ≤ a → a ≤ dS S s + 15 → hi u a k = hi g a k := fun a k h1 h2 => F.at (w a k (by unfold dS at h1; omega) (by unfold dS at *; omega))
  rw [e _ _ (by omega) (by omega), e _ _ (by omega) (by omega), e _ _ (by omega) (by omega)]
  exact ⟨(A s hs).1, fun k hk' => by rw [e _ _ (by omega) (by omega), e _ _ (by omega) (by omega)]; exact (A s hs).2 k hk'⟩
theorem OLM.fr {P J W : Nat → Nat → Prop} (A : OLM ns zS aS mS lS pS h) (O : OLP ns zS aS mS lS pS) (F : FRX P J W h p) (w : ∀ a k, ((a = 1274 ∨ a = 1275 ∨ a = 1280) ∧ k < ns) ∨ ((a = 1281 ∨ a = 1282) ∧ k < 128 * ns) → ¬ P a k) : OLM ns zS aS mS lS pS p := by
  intro s hs
  have := (O s hs).2.2
  rw [F.at (w 1274 s (by omega)), F.at (w 1275 s (by omega)), F.at (w 1280 s (by omega))]
  exact ⟨(A s hs).1, fun k hk' => by rw [F.at (w 1281 _ (by omega)), F.at (w 1282 _ (by omega))]; exact (A s hs).2 k hk'⟩
theorem BG.addS (A : BG T n c S t nd ns f nt ft nu fu na es et eu lo g h) (q : SQ c ns g h (dS S ns + 2 + f) (12 * ns + f)) (hf : f < 12) (he : es = ns + 1) : BG T n c S t nd ns (f + 1) nt ft nu fu na es et eu lo g h := by
  obtain ⟨M, K, D, SS, SC', TT, TC, UU, UC, E, I, ⟨l1, l2, l3, l4, l5, l6, l7, l8, l9, l10, l11, l12, l13, l14⟩⟩ := A
  refine ⟨M, K, D, SS, fun j hj' => ?_, TT, TC, UU, UC, E, I, ⟨l1, l2, l3, l4, l5, l6, l7, l8, l9, l10, l11, Or.inr ⟨by omega, he⟩, l13, l14⟩⟩
  by_cases cj : j = f
  · rw [cj]; exact q
  · exact SC' j (by omega)
/-- one field of a struct -/
theorem structTurn (A : SB T n c S t nd ns nt nu na es et eu lo k f so o zS aS mS lS pS g h) (hf : f ≤ 12) : (∃ u p k' so' o' x u1, f_p_newField t (dS S ns) g = some (x, u1) ∧ (t < hz u1 ∧ hk u1 t = 7) ∧ f_p_readStructField t (dS S ns) x u1 = some (1, u) ∧ (∀ K, s_m_structBody_35 K (nI ns) 1 h = b_m_structBody_131 K (nI ns) p) ∧ SB T n c S t nd ns nt nu na es et eu lo k' (f + 1) so' o' zS aS mS lS pS u p ∧ f < 12 ∧ FC S t g u ∧ FMx h p) ∨ (∃ u p x u1, f_p_newField t (dS S ns) g = some (x, u1) ∧ (t < hz u1 ∧ hk u1 t = 7) ∧ f_p_readStructField t (dS S ns) x u1 = some (0, u) ∧ (∀ K, s_m_structBody_35 K (nI ns) 1 h = b_m_structBody_131 K (nI ns) p) ∧ FLT u p t ∧ FC S t g u ∧ FMx h p) := by
  obtain ⟨ST0, B, N, Lh, ⟨OP, OC, OM⟩, Q, M, ⟨e3, e6, e7, e11⟩, e73, hes⟩ := A
  have B' := B
  obtain ⟨BM, BK, BD, -, BS, -, -, -, -, -, -, ⟨l1, l2, l3, l4, l5, l6, l7, l8, l9, l10, -⟩⟩ := B'
  have ST0' := ST0
  obtain ⟨P, K, kc', a5, a6, m13', m14'⟩ := ST0'
  have c4 := K.2.2.2.1
  have t17 := P.2.1
  have S1 := P.2.2.2.1
  have L := ST0.scq
  have n12 : ns < 12 := by omega
  have D := L.ddS (s := ns) n12
  have dr : S + 3 ≤ dS S ns ∧ dS S ns + 16 ≤ S + 195 := by unfold dS; omega
  have r76 : 1276 < hz h ∧ hk h 1276 = 100 := ⟨Lh.lt (by decide), Lh.k1276⟩
  have mt : ∀ {hh : XH}, hi hh 1262 14 = 0 → hi hh 1262 13 = nI k → f_m_take hh = some ((), hsi hh 1262 13 (nI (k + 1))) := fun q1 q2 => e_m_take q1 q2
  have e12 : (12 : Int32) * nI ns = nI (12 * ns) := by rw [n_12, pk_mul]
  -- the model's turn, given its five calls
  have sm : ∀ {K : Int32 → Int32 → XH → Option (Unit × XH)} {X : Option (Unit × XH)} {p1 p2 p3 p4 p5 : XH}, f_m_fresh 1276 (nI (12 * ns)) (nI f) (nI 12) h = some ((), p1) → f_m_take p1 = some ((), p2) → f_m_sign 58 p2 = some ((), p3) → f_m_structType (nI ns) (nI (12 * ns + f)) p3 = some ((), p4) → f_m_sign 59 p4 = some ((), p5) → (if ¬ (hi p5 1262 14) = 0 then (b_m_structBody_131 K (nI ns) p5) else (if 0 ≤ nI (12 * ns + f) ∧ nI (12 * ns + f) < nI 144 then (if 0 ≤ nI ns ∧ nI ns < nI 12 then (b_m_structBody_131 K (nI ns) (hsi (hsi p5 1276 (12 * ns + f) (hi p1 1262 13)) 1273 ns ((hi p5 1273 ns) + 1))) else none) else none)) = X → s_m_structBody_35 K (nI ns) 1 h = X := by
    intro K X p1 p2 p3 p4 p5 q1 q2 q3 q4 q5 q6
    unfold s_m_structBody_35
    rw [nI_clamp (show ns < 2 ^ 31 by omega), e73, e12, nI_add, nI_clamp (show 12 * ns + f < 2 ^ 31 by omega)]
    exact o_neg one0 (o_neg (not_not_intro m14') (o_pos (by (first | (simp (maxSteps := 4000000) (disch := omega) only [n_0, n_1, n_2, n_3, n_4, n_5, n_6, n_7, n_8, n_9, n_10, n_11, n_12, n_13, n_14, n_15, n_16, n_18, n_20, n_24, n_31, n_32, n_34, n_40, n_41, n_44, n_45, n_47, n_48, n_57, n_58, n_59, n_61, n_63, n_64, n_65, n_68, n_90, n_91, n_93, n_95, n_97, n_100, n_122, n_123, n_125, n_128, n_144, n_200, n_255, n_256, n_300, n_400, n_600, n_1536, n_3980, n_4000, n_4001, n_4300, n_65536, l_0, l_1, l_2, l_3, l_4, l_10, l_48, l_63, l_255, l_300, nI_ltI, nI_leI, nI_eq, nI_clamp, nI_add, pk_sub, pk_mul, nI_ne1, ne1_nI, nI_pge, nI_nlt0, nI_l, lN_i, lN_add, lN_mul, lN_sub, pk_lLT, pk_lLE, pk_lEQ, lg_lt, lg_ge, lg_eq0, lg_le, lg_gt, lg_ltn, lg_gen, lg_eq0n, lg_len, lg_gtn, Nat.zero_le, Nat.not_lt_zero, not_false_eq_true, not_true_eq_false, true_and, and_true]; done) | (simp (maxSteps := 4000000) (disch := omega) only [n_0, n_1, n_2, n_3, n_4, n_5, n_6, n_7, n_8, n_9, n_10, n_11, n_12, n_13, n_14, n_15, n_16, n_18, n_20, n_24, n_31, n_32, n_34, n_40, n_41, n_44, n_45, n_47, n_48, n_57, n_58, n_59, n_61, n_63, n_64, n_65, n_68, n_90, n_91, n_93, n_95, n_97, n_100, n_122, n_123, n_125, n_128, n_144, n_200, n_255, n_256, n_300, n_400, n_600, n_1536, n_3980, n_4000, n_4001, n_4300, n_65536, l_0, l_1, l_2, l_3, l_4, l_10, l_48, l_63, l_255, l_300, nI_ltI, nI_leI, nI_eq, nI_clamp, nI_add, pk_sub, pk_mul, nI_ne1, ne1_nI, nI_pge, nI_nlt0, nI_l, lN_i, lN_add, lN_mul, lN_sub, pk_lLT, pk_lLE, pk_lEQ, lg_lt, lg_ge, lg_eq0, lg_le, lg_gt, lg_ltn, lg_gen, lg_eq0n, lg_len, lg_gtn, Nat.zero_le, Nat.not_lt_zero, not_false_eq_true, not_true_eq_false, true_and, and_true]; omega) | omega)) (o_bind q1 (o_bind q2 (o_bind q3 (o_bind q4 (o_bind q5 q6)))))))
  rcases newField2 (R := 1276) (b := 12 * ns) ST0 BM D (by omega) (by omega) e3 hf (fun j hj' => (BS j hj').1) r76 (by rw [Lh.n1276]; omega) (by rw [Lh.n1276]; decide) with ⟨u1, w1, w2, w3, w4, w5, w6, w7, w8, w9, w10, w11⟩ | ⟨u, p, w1, w2, w3, w4, w5⟩
  · -- the name is read
    have nfb : FRX (bSP S t ns f) (bSJ S ns f) nW g u1 := w6.mono (fun a k z => by unfold nfP at z; unfold bSP; omega) (fun a k z => by unfold nfJ at z; unfold bSJ; omega) (fun _ _ z => z)
    have tk1 := mt m14' m13'
    rcases exp2 (x := 58) w5 (by decide) with ⟨u2, p2, x1, x2, x3, x4, x5⟩ | ⟨u2, p2, x1, x2, x3, x4, x5⟩
    · have F2 : FRX (bSP S t ns f) (bSJ S ns f) nW g u2 := nfb.trans (x4.x (fun a k z => by unfold tP at z; unfold bSP; omega) (fun k => Or.inl rfl))
      have G1 : FRX (bSM ns f) sJ nW h (hsi h 1262 13 (nI (k + 1))) := FRX.refl.si (by simp [bSM])
      have G2 : FRX (bSM ns f) sJ nW h p2 := G1.trans (x5.x (fun a k z => by unfold m13 at z; unfold bSM; omega) (fun k => rfl))
      have B2 : BG T n c S t nd ns f nt 0 nu 0 na es et eu lo u2 p2 := B.fr P.1 t17 (F2.mono (fun a k z => bSP_y n12 z) (fun a k z => bSJ_y n12 z) (fun _ _ z => z.elim)) (G2.mono (fun a k z => bSM_z z) (fun a k z => sJ_z z) (fun _ _ z => z))
      have N2 : CN S t nd ns nt nu na es et eu u2 p2 := N.fr F2 G2 ⟨by unfold bSP; omega, by unfold bSP; omega, by unfold bSP; omega, by unfold bSP; omega, by unfold bSP; omega⟩ ⟨by simp [bSM], by simp [bSM], by simp [bSM], by simp [bSM], by simp [bSM]⟩
      have M2 : SM ns f so o zS aS mS lS pS p2 := M.cg (fun a k z => by
        rw [x5.at (by unfold m13; omega), hi_hsi_ne (by omega)])
      have OM2 : OLM ns zS aS mS lS pS p2 := OM.fr OP G2 (fun a k z => by unfold bSM; omega)
      rcases structType2 x3 B2 N2 OP OM2 Q M2 hes w3 with ⟨u3, p3, so', o', y1, y2, y3, y4, y5, y6, y7, y8, y9⟩ | ⟨u3, p3, y1, y2, y3, y4, y5⟩
      · have F3 : FRX (bSP S t ns f) (bSJ S ns f) nW g u3 := F2.trans (y4.mono (fun a k z => by unfold sfP at z; unfold bSP; omega) (fun a k z => Or.inl z) (fun _ _ z => z))
        have G3 : FRX (bSM ns f) sJ nW h p3 := G2.trans (y5.mono (fun a k z => by unfold stM at z; unfold bSM; omega) (fun a k z => z) (fun _ _ z => z))
        rcases exp2 (x := 59) y3 (by decide) with ⟨u4, p4, z1, z2, z3, z4, z5⟩ | ⟨u4, p4, z1, z2, z3, z4, z5⟩
        · refine Or.inl ?_
          have F4 : FRX (bSP S t ns f) (bSJ S ns f) nW g u4 := F3.trans (z4.x (fun a k z => by unfold tP at z; unfold bSP; omega) (fun k => Or.inl rfl))
          have G4 : FRX (bSM ns f) sJ nW h p4 := G3.trans (z5.x (fun a k z => by unfold m13 at z; unfold bSM; omega) (fun k => rfl))
          obtain ⟨p5, e5⟩ : ∃ p5, p5 = hsi (hsi p4 1276 (12 * ns + f) (nI k)) 1273 ns (nI (f + 1)) := ⟨_, rfl⟩
          have G5 : FRX (bSM ns f) sJ nW h p5 := by
            rw [e5]
            exact (G4.si (by simp [bSM])).si (by simp [bSM])
          have G45 : FRX xM nJ nW p4 p5 := by
            rw [e5]
            exact (FRX.refl.si (by simp [xM])).si (by simp [xM])
          have B5 : BG T n c S t nd ns f nt 0 nu 0 na es et eu lo u4 p5 := B.fr P.1 t17 (F4.mono (fun a k z => bSP_y n12 z) (fun a k z => bSJ_y n12 z) (fun _ _ z => z.elim)) (G5.mono (fun a k z => bSM_z z) (fun a k z => sJ_z z) (fun _ _ z => z))
          have N5 : CN S t nd ns nt nu na es et eu u4 p5 := N.fr F4 G5 ⟨by unfold bSP; omega, by unfold bSP; omega, by unfold bSP; omega, by unfold bSP; omega, by unfold bSP; omega⟩ ⟨by simp [bSM], by simp [bSM], by simp [bSM], by simp [bSM], by simp [bSM]⟩
          have M5 : SM ns (f + 1) so' o' zS aS mS lS pS p5 := y6.cg (fun a k z => by
            rw [e5, hi_hsi_ne (by omega), hi_hsi_ne (by omega), z5.at (by unfold m13; omega)])
          have OM5 : OLM ns zS aS mS lS pS p5 := OM.fr OP G5 (fun a k z => by unfold bSM; omega)
          have OC5 : OLC S ns zS aS mS lS pS u4 := OC.fr F4 (fun a k h1 h2 => by unfold bSP; omega)
          have ST5 : ST T n c u4 p5 t S (k + 1 + 1 + 1 + 1) := z3.con FRX.refl G45
          have a0k : ∀ k, k = 6 ∨ k = 7 ∨ k = 11 → hi u4 (dS S ns) k = hi g (dS S ns) k := fun k hk' => F4.at (by unfold bSP; omega)
          have c3 : hi u4 (dS S ns) 3 = nI (f + 1) := by
            rw [z4.at (by unfold tP; omega), y4.at (by unfold sfP; omega), x4.at (by unfold tP; omega)]; exact w7
          have cf : ∀ k, k = 5 ∨ k = 7 → hi u4 (dS S ns + 2 + f) k = hi u1 (dS S ns + 2 + f) k := fun k hk' => by
            rw [z4.at (by unfold tP; omega), y4.at (by unfold sfP; omega), x4.at (by unfold tP; omega)]
          have c34 : ∀ k, hi u4 (dS S ns + 2 + f) k = hi u3 (dS S ns + 2 + f) k := fun k => z4.at (by unfold tP; omega)
          have jf : ∀ k, hj u4 (dS S ns + 2 + f) k = hj u1 (dS S ns + 2 + f) k := fun k => by
            rw [z4.hj (by omega), y4.lg (by unfold sJ; omega), x4.hj (by omega)]
          have g8 : hi u4 8 k = hi g 8 k := F4.at (by unfold bSP; omega)
          have SQ5 : SQ c ns u4 p5 (dS S ns + 2 + f) (12 * ns + f) := by
            refine ⟨⟨k, kc', ?_, ?_, ?_, ?_⟩, ⟨?_, ?_⟩, so' f, o' f, ?_, ?_, (M5.2.2.1 f (by omega)).1, (M5.2.2.1 f (by omega)).2.1, y7 f (by omega)⟩
            · rw [e5, hi_hsi_ne (by decide), hi_at]
            · rw [g8]; exact w4
            · rw [jf, w9]; exact (F4.lg (by unfold bSJ; omega)).symm
            · rw [jf, w10]; exact (F4.lg (by unfold bSJ; omega)).symm
            · rw [cf 5 (by decide)]; exact w8.2.2.2.1
            · rw [cf 7 (by decide)]; exact w8.2.2.2.2
            · rw [c34]; exact y8
            · rw [c34]; exact y9
          have FC4 : FC S t g u4 := F4.mono (fun a k z => yP_c (bSP_y (nt := nt) (nu := nu) n12 z)) (fun a k z => yJ_c (bSJ_y (t := t) (nt := nt) (nu := nu) (es := es) (et := et) (eu := eu) n12 z)) (fun _ _ z => z.elim)
          have FM5 : FMx h p5 := G5.mono (fun a k z => zP_m (bSM_z (nd := nd) (nt := nt) (nu := nu) (na := na) z)) (fun a k z => Or.inl z) (fun _ _ z => z)
          refine ⟨u4, p5, k + 1 + 1 + 1 + 1, so', o', some (dS S ns + 2 + f), u1, w1, w5.1.tk, ?_, fun K => ?_, ⟨ST5, B5.addS SQ5 w3 hes, N5, FM5.ly Lh, ⟨OP, OC5, OM5⟩, y7, M5, ⟨c3, by rw [a0k 6 (by decide)]; exact e6, by rw [a0k 7 (by decide)]; exact e7, by rw [a0k 11 (by decide)]; exact e11⟩, by rw [e5, hi_at], hes⟩, w3, FC4, FM5⟩
          · unfold f_p_readStructField
            exact o_elim (o_pos w5.1.tk (o_bind x1 (o_neg one0 (o_pos x3.1.tk (o_bind y1 (o_neg one0 (o_pos y3.1.tk (o_bind z1 (o_neg one0 rfl)))))))))
          · refine sm w2 tk1 x2 y2 z2 (o_neg (not_not_intro z3.2.2.2.2.2.2) (o_pos (by (first | (simp (maxSteps := 4000000) (disch := omega) only [n_0, n_1, n_2, n_3, n_4, n_5, n_6, n_7, n_8, n_9, n_10, n_11, n_12, n_13, n_14, n_15, n_16, n_18, n_20, n_24, n_31, n_32, n_34, n_40, n_41, n_44, n_45, n_47, n_48, n_57, n_58, n_59, n_61, n_63, n_64, n_65, n_68, n_90, n_91, n_93, n_95, n_97, n_100, n_122, n_123, n_125, n_128, n_144, n_200, n_255, n_256, n_300, n_400, n_600, n_1536, n_3980, n_4000, n_4001, n_4300, n_65536, l_0, l_1, l_2, l_3, l_4, l_10, l_48, l_63, l_255, l_300, nI_ltI, nI_leI, nI_eq, nI_clamp, nI_add, pk_sub, pk_mul, nI_ne1, ne1_nI, nI_pge, nI_nlt0, nI_l, lN_i, lN_add, lN_mul, lN_sub, pk_lLT, pk_lLE, pk_lEQ, lg_lt, lg_ge, lg_eq0, lg_le, lg_gt, lg_ltn, lg_gen, lg_eq0n, lg_len, lg_gtn, Nat.zero_le, Nat.not_lt_zero, not_false_eq_true, not_true_eq_false, true_and, and_true]; done) | (simp (maxSteps := 4000000) (disch := omega) only [n_0, n_1, n_2, n_3, n_4, n_5, n_6, n_7, n_8, n_9, n_10, n_11, n_12, n_13, n_14, n_15, n_16, n_18, n_20, n_24, n_31, n_32, n_34, n_40, n_41, n_44, n_45, n_47, n_48, n_57, n_58, n_59, n_61, n_63, n_64, n_65, n_68, n_90, n_91, n_93, n_95, n_97, n_100, n_122, n_123, n_125, n_128, n_144, n_200, n_255, n_256, n_300, n_400, n_600, n_1536, n_3980, n_4000, n_4001, n_4300, n_65536, l_0, l_1, l_2, l_3, l_4, l_10, l_48, l_63, l_255, l_300, nI_ltI, nI_leI, nI_eq, nI_clamp, nI_add, pk_sub, pk_mul, nI_ne1, ne1_nI, nI_pge, nI_nlt0, nI_l, lN_i, lN_add, lN_mul, lN_sub, pk_lLT, pk_lLE, pk_lEQ, lg_lt, lg_ge, lg_eq0, lg_le, lg_gt, lg_ltn, lg_gen, lg_eq0n, lg_len, lg_gtn, Nat.zero_le, Nat.not_lt_zero, not_false_eq_true, not_true_eq_false, true_and, and_true]; omega) | omega)) (o_pos (by (first | (simp (maxSteps := 4000000) (disch := omega) only [n_0, n_1, n_2, n_3, n_4, n_5, n_6, n_7, n_8, n_9, n_10, n_11, n_12, n_13, n_14, n_15, n_16, n_18, n_20, n_24, n_31, n_32, n_34, n_40, n_41, n_44, n_45, n_47, n_48, n_57, n_58, n_59, n_61, n_63, n_64, n_65, n_68, n_90, n_91, n_93, n_95, n_97, n_100, n_122, n_123, n_125, n_128, n_144, n_200, n_255, n_256, n_300, n_400, n_600, n_1536, n_3980, n_4000, n_4001, n_4300, n_65536, l_0, l_1, l_2, l_3, l_4, l_10, l_48, l_63, l_255, l_300, nI_ltI, nI_leI, nI_eq, nI_clamp, nI_add, pk_sub, pk_mul, nI_ne1, ne1_nI, nI_pge, nI_nlt0, nI_l, lN_i, lN_add, lN_mul, lN_sub, pk_lLT, pk_lLE, pk_lEQ, lg_lt, lg_ge, lg_eq0, lg_le, lg_gt, lg_ltn, lg_gen, lg_eq0n, lg_len, lg_gtn, Nat.zero_le, Nat.not_lt_zero, not_false_eq_true, not_true_eq_false, true_and, and_true]; done) | (simp (maxSteps := 4000000) (disch := omega) only [n_0, n_1, n_2, n_3, n_4, n_5, n_6, n_7, n_8, n_9, n_10, n_11, n_12, n_13, n_14, n_15, n_16, n_18, n_20, n_24, n_31, n_32, n_34, n_40, n_41, n_44, n_45, n_47, n_48, n_57, n_58, n_59, n_61, n_63, n_64, n_65, n_68, n_90, n_91, n_93, n_95, n_97, n_100, n_122, n_123, n_125, n_128, n_144, n_200, n_255, n_256, n_300, n_400, n_600, n_1536, n_3980, n_4000, n_4001, n_4300, n_65536, l_0, l_1, l_2, l_3, l_4, l_10, l_48, l_63, l_255, l_300, nI_ltI, nI_leI, nI_eq, nI_clamp, nI_add, pk_sub, pk_mul, nI_ne1, ne1_nI, nI_pge, nI_nlt0, nI_l, lN_i, lN_add, lN_mul, lN_sub, pk_lLT, pk_lLE, pk_lEQ, lg_lt, lg_ge, lg_eq0, lg_le, lg_gt, lg_ltn, lg_gen, lg_eq0n, lg_len, lg_gtn, Nat.zero_le, Nat.not_lt_zero, not_false_eq_true, not_true_eq_false, true_and, and_true]; omega) | omega)) ?_)))
            have q73 : hi p4 1273 ns = nI f := by
              rw [z5.at (by simp [m13]), y5.at (by simp [stM]), x5.at (by simp [m13]), hi_hsi_ne (by decide)]; exact e73
            rw [m13', q73, n_1, nI_add, e5]
        · refine Or.inr ⟨u4, p4, some (dS S ns + 2 + f), u1, w1, w5.1.tk, ?_, fun K => sm w2 tk1 x2 y2 z2 (o_pos z3.2.2 rfl), z3, ?_, ?_⟩
          · unfold f_p_readStructField
            exact o_elim (o_pos w5.1.tk (o_bind x1 (o_neg one0 (o_pos x3.1.tk (o_bind y1 (o_neg one0 (o_pos y3.1.tk (o_bind z1 (o_pos rfl rfl)))))))))
          · exact FC.trans (F3.mono (fun a k z => yP_c (bSP_y (nt := nt) (nu := nu) n12 z)) (fun a k z => yJ_c (bSJ_y (t := t) (nt := nt) (nu := nu) (es := es) (et := et) (eu := eu) n12 z)) (fun _ _ z => z.elim)) (FC.tFq z4)
          · exact FRX.trans (G3.mono (fun a k z => zP_m (bSM_z (nd := nd) (nt := nt) (nu := nu) (na := na) z)) (fun a k z => Or.inl z) (fun _ _ z => z)) (FMx.q14 z5)
      · have f3 := y3.2.2
        refine Or.inr ⟨u3, p3, some (dS S ns + 2 + f), u1, w1, w5.1.tk, ?_, fun K => sm w2 tk1 x2 y2 (nf_sign f3) (o_pos f3 rfl), y3, ?_, ?_⟩
        · unfold f_p_readStructField
          exact o_elim (o_pos w5.1.tk (o_bind x1 (o_neg one0 (o_pos x3.1.tk (o_bind y1 (o_pos rfl rfl))))))
        · exact FC.trans (F2.mono (fun a k z => yP_c (bSP_y (nt := nt) (nu := nu) n12 z)) (fun a k z => yJ_c (bSJ_y (t := t) (nt := nt) (nu := nu) (es := es) (et := et) (eu := eu) n12 z)) (fun _ _ z => z.elim)) (FC.tFq y4)
        · exact FRX.trans (G2.mono (fun a k z => zP_m (bSM_z (nd := nd) (nt := nt) (nu := nu) (na := na) z)) (fun a k z => Or.inl z) (fun _ _ z => z)) (FMx.q14 y5)
    · have f3 := x3.2.2
      refine Or.inr ⟨u2, p2, some (dS S ns + 2 + f), u1, w1, w5.1.tk, ?_, fun K => sm w2 tk1 x2 (nf_structType f3) (nf_sign f3) (o_pos f3 rfl), x3, ?_, ?_⟩
      · unfold f_p_readStructField
        exact o_elim (o_pos w5.1.tk (o_bind x1 (o_pos rfl rfl)))
      · exact FC.trans (nfb.mono (fun a k z => yP_c (bSP_y (nt := nt) (nu := nu) n12 z)) (fun a k z => yJ_c (bSJ_y (t := t) (nt := nt) (nu := nu) (es := es) (et := et) (eu := eu) n12 z)) (fun _ _ z => z.elim)) (FC.tFq x4)
      · exact FRX.trans (FRX.refl.si (by simp [nM])) (FMx.q14 x5)
  · have f3 := w3.2.2
    refine Or.inr ⟨u, p, none, u, w1, ?_, ?_, fun K => sm w2 (e_m_takeF f3) (nf_sign f3) (nf_structType f3) (nf_sign f3) (o_pos f3 rfl), w3, FC.tFq w4, FMx.q14 w5⟩
    · rw [w4.1.1, w4.1.2.2.1]; exact P.tk
    · unfold f_p_readStructField
      exact o_elimn rfl
end Sb
