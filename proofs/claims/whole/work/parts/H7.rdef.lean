/-! The parsers: a definition whole -/

section Rd
variable {T : Nat → Nat} {n c t S k nd ns nt nu na es et eu lo : Nat} {g h u p : XH}
theorem OUT.map {rc rc' : Option (Int32 × XH)} {rm rm' : Option (Unit × XH)} (A : OUT T n c S t nd ns nt nu na es et eu lo u p rc rm) (F : FC S t g u) (G : FMx h p) (hc : ∀ x v, rc = some (x, v) → (x = 0 ∨ x = 1) → rc' = some (x, v)) (hm : ∀ q, rm = some ((), q) → rm' = some ((), q)) : OUT T n c S t nd ns nt nu na es et eu lo g h rc' rm' := by
  rcases A with ⟨u', p', k', a1, a2, a3, a4, a5, a6, a7, a8⟩ | ⟨u', p', a1, a2, a3, a4, a5⟩
  · exact Or.inl ⟨u', p', k', hc _ _ a1 (Or.inr rfl), hm _ a2, a3, a4, a5, a6, F.trans a7, FRX.trans G a8⟩
  · exact Or.inr ⟨u', p', hc _ _ a1 (Or.inl rfl), hm _ a2, a3, F.trans a4, FRX.trans G a5⟩
theorem readDef_S (A : ST T n c g h t S k) (B : BG T n c S t nd ns 0 nt 0 nu 0 na ns nt nu 0 g h) (N : CN S t nd ns nt nu na ns nt nu g h) (Lh : LY h) (q : hi g 8 k = 6) : ∃ ns' nt' nu' na', OUT T n c S t (nd + 1) ns' nt' nu' na' ns' nt' nu' 0 g h (f_p_readDefinition t g) (f_m_define 11 h) := by
  have A' := A
  obtain ⟨P, K, kc', a5, a6, m13', m14'⟩ := A'
  obtain ⟨L, t17, -, hS, -⟩ := P
  have nq : ¬ (hi g 8 k = 0 ∨ hi g 8 k = 1) := by rw [q]; decide
  obtain ⟨u, u1, u2, u3⟩ := e_p_adv A nq
  obtain ⟨p, ep⟩ : ∃ p, p = hsi h 1262 13 (nI (k + 1)) := ⟨_, rfl⟩
  rw [← ep] at u2
  have G3 : FRM m13 h p := by rw [ep]; exact FRM.refl.si (by simp [m13])
  have B1 := B.pos L t17 u3 (m13_c G3)
  have N1 := N.pos hS t17 u3 G3
  have Lp : LY p := (FMx.q13 G3).ly Lh
  have l := B.2.2.2.2.2.2.2.2.2.2.2
  have scu := SC.of u2.1.1 hS
  have S9u : S < hz u ∧ hk u S = 9 := ⟨by have := scu.1; omega, scu.2.2.1⟩
  have hg : hr u S 0 = some (S + 1) := by have := scu.2.2.2; first | exact this.1 | exact this.2.1 | exact this.2.2.1
  have cw : ∀ x v r2 v2, f_p_newDefinition t (S + 1) u = some (x, v) → f_p_readStruct t x v = some (r2, v2) → (r2 = 0 ∨ r2 = 1) → (t < hz v ∧ hk v t = 7) → f_p_readDefinition t g = some (r2, v2) := by
    intro x v r2 v2 e1 e2 e3 e4
    have : b_p_readDefinition_29 t 6 g = some (r2, v2) := by
      unfold b_p_readDefinition_29
      exact o_pos A.1.tk (o_bind u1 (o_neg (not_not_intro rfl) (o_pos u2.1.tk (o_bind u2.1.2.2.2.2.2.2.1 (o_pos S9u (o_bind hg (o_bind e1 (o_pos e4 (o_bind e2 (o_pos e3 rfl))))))))))
    unfold f_p_readDefinition
    rw [a6, q]
    exact o_pos A.1.tk (o_pos (show (6 : Int32) = 6 from rfl) (this))
  have cm : ∀ {X : Option (Unit × XH)}, dM 11 p = X → f_m_define 11 h = X := by
    intro X r
    unfold f_m_define
    exact o_bind (e_m_take m14' m13') (by rw [← ep]; exact r)
  have ec : hi p 1262 20 = nI ns := by have := N1.2.2.2.2.2; first | exact this.1 | exact this.2.1 | exact this.2.2.1
  have p13 : hi p 1262 13 = nI (k + 1) := u2.2.2.2.2.2.1
  rcases newDef_c (a := S + 1) (M := 12) (F := 12) (LN := 128) (e := ns) (ad := dS S ns) u2 B1 N1 scu.gS N1.2.2.1 (by omega) (by omega) rfl (by omega) (by unfold dS; omega) (by unfold dS; omega) with ⟨v, w1, ce, w2, w3, w4, w5, w6, w8, w9, w10, w11, w12, w13⟩ | ⟨v, p2, w1, w2, w3, w4, w5⟩
  · obtain ⟨y1, y2, y3, y4, y5, y6⟩ := def2 (M := 0) (F := 0) (LN := 0) u2 B1 N1 Lp (Or.inl ⟨rfl, rfl, rfl, ce, rfl, rfl, rfl, rfl⟩) w2 w5 w6 w9 w10 w11 w12 w13
    have r := struct2 y1 y2 y3 y4 rfl w8
    refine ⟨_, _, _, _, r.map ((FC.tPq u3).trans y5) (FRX.trans (FMx.q13 G3) y6) (fun x v' e1 e2 => cw _ _ _ _ w1 e1 e2 y1.1.tk) (fun qq e1 => cm (dM_go p13 w3 w4 (o_neg (not_not_intro rfl) (o_pos (by rw [ec]; exact show ¬ nI ns = nI 12 by (first | (simp (maxSteps := 4000000) (disch := omega) only [n_0, n_1, n_2, n_3, n_4, n_5, n_6, n_7, n_8, n_9, n_10, n_11, n_12, n_13, n_14, n_15, n_16, n_18, n_20, n_24, n_31, n_32, n_34, n_40, n_41, n_44, n_45, n_47, n_48, n_57, n_58, n_59, n_61, n_63, n_64, n_65, n_68, n_90, n_91, n_93, n_95, n_97, n_100, n_122, n_123, n_125, n_128, n_144, n_200, n_255, n_256, n_300, n_400, n_600, n_1536, n_3980, n_4000, n_4001, n_4300, n_65536, l_0, l_1, l_2, l_3, l_4, l_10, l_48, l_63, l_255, l_300, nI_ltI, nI_leI, nI_eq, nI_clamp, nI_add, pk_sub, pk_mul, nI_ne1, ne1_nI, nI_pge, nI_nlt0, nI_l, lN_i, lN_add, lN_mul, lN_sub, pk_lLT, pk_lLE, pk_lEQ, lg_lt, lg_ge, lg_eq0, lg_le, lg_gt, lg_ltn, lg_gen, lg_eq0n, lg_len, lg_gtn, Nat.zero_le, Nat.not_lt_zero, not_false_eq_true, not_true_eq_false, true_and, and_true]; done) | (simp (maxSteps := 4000000) (disch := omega) only [n_0, n_1, n_2, n_3, n_4, n_5, n_6, n_7, n_8, n_9, n_10, n_11, n_12, n_13, n_14, n_15, n_16, n_18, n_20, n_24, n_31, n_32, n_34, n_40, n_41, n_44, n_45, n_47, n_48, n_57, n_58, n_59, n_61, n_63, n_64, n_65, n_68, n_90, n_91, n_93, n_95, n_97, n_100, n_122, n_123, n_125, n_128, n_144, n_200, n_255, n_256, n_300, n_400, n_600, n_1536, n_3980, n_4000, n_4001, n_4300, n_65536, l_0, l_1, l_2, l_3, l_4, l_10, l_48, l_63, l_255, l_300, nI_ltI, nI_leI, nI_eq, nI_clamp, nI_add, pk_sub, pk_mul, nI_ne1, ne1_nI, nI_pge, nI_nlt0, nI_l, lN_i, lN_add, lN_mul, lN_sub, pk_lLT, pk_lLE, pk_lEQ, lg_lt, lg_ge, lg_eq0, lg_le, lg_gt, lg_ltn, lg_gen, lg_eq0n, lg_len, lg_gtn, Nat.zero_le, Nat.not_lt_zero, not_false_eq_true, not_true_eq_false, true_and, and_true]; omega) | omega)) (e_m_define_85 (by omega) u2.2.2.2.2.2.2 p13 N1.2.1 (Or.inl ⟨rfl, rfl, ec⟩) (Eq.trans (congrArg (Option.bind (f_m_sign 123 (dQ p nd (k + 1) 2 (nI ns)))) (funext fun r5 => if_neg (not_not_intro rfl))) e1))))))⟩
  · have e4 : t < hz v ∧ hk v t = 7 := ⟨by rw [w3.1.1]; exact u2.1.tk.1, by rw [w3.1.2.2.1]; exact u2.1.tk.2⟩
    have e2 : f_p_readStruct t none v = some (0, v) := by
      unfold f_p_readStruct
      exact o_elimn rfl
    refine ⟨ns, nt, nu, na, Or.inr ⟨v, p2, cw _ _ _ _ w1 e2 (Or.inl rfl) e4, cm ?_, w2, (FC.tPq u3).trans (FC.tFq w3), FRX.trans (FMx.q13 G3) (FMx.q14 w4)⟩⟩
    rcases w5 with ⟨x1, x2⟩ | ⟨d, x0, x1, x2, x3⟩ | ⟨x0, x1, x2, x3⟩
    · exact dM_mis x1 x2
    · exact dM_dup (by omega) p13 x1 x2 x3
    · exact dM_go p13 x1 x2 (o_neg (not_not_intro rfl) (o_neg (not_not_intro (by rw [ec, x0]; rfl)) (by unfold b_m_define_79; exact o_bind x3 rfl)))
theorem readDef_T (A : ST T n c g h t S k) (B : BG T n c S t nd ns 0 nt 0 nu 0 na ns nt nu 0 g h) (N : CN S t nd ns nt nu na ns nt nu g h) (Lh : LY h) (q : hi g 8 k = 7) : ∃ ns' nt' nu' na', OUT T n c S t (nd + 1) ns' nt' nu' na' ns' nt' nu' 0 g h (f_p_readDefinition t g) (f_m_define 12 h) := by
  have A' := A
  obtain ⟨P, K, kc', a5, a6, m13', m14'⟩ := A'
  obtain ⟨L, t17, -, hS, -⟩ := P
  have nq : ¬ (hi g 8 k = 0 ∨ hi g 8 k = 1) := by rw [q]; decide
  obtain ⟨u, u1, u2, u3⟩ := e_p_adv A nq
  obtain ⟨p, ep⟩ : ∃ p, p = hsi h 1262 13 (nI (k + 1)) := ⟨_, rfl⟩
  rw [← ep] at u2
  have G3 : FRM m13 h p := by rw [ep]; exact FRM.refl.si (by simp [m13])
  have B1 := B.pos L t17 u3 (m13_c G3)
  have N1 := N.pos hS t17 u3 G3
  have Lp : LY p := (FMx.q13 G3).ly Lh
  have l := B.2.2.2.2.2.2.2.2.2.2.2
  have scu := SC.of u2.1.1 hS
  have S9u : S < hz u ∧ hk u S = 9 := ⟨by have := scu.1; omega, scu.2.2.1⟩
  have hg : hr u S 1 = some (S + 195) := by have := scu.2.2.2; first | exact this.1 | exact this.2.1 | exact this.2.2.1
  have cw : ∀ x v r2 v2, f_p_newDefinition t (S + 195) u = some (x, v) → f_p_readTable t x v = some (r2, v2) → (r2 = 0 ∨ r2 = 1) → (t < hz v ∧ hk v t = 7) → f_p_readDefinition t g = some (r2, v2) := by
    intro x v r2 v2 e1 e2 e3 e4
    have : b_p_readDefinition_29 t 7 g = some (r2, v2) := by
      unfold b_p_readDefinition_29
      exact o_pos A.1.tk (o_bind u1 (o_pos (by decide) (o_neg (not_not_intro rfl) (o_pos u2.1.tk (o_bind u2.1.2.2.2.2.2.2.1 (o_pos S9u (o_bind hg (o_bind e1 (o_pos e4 (o_bind e2 (o_pos e3 rfl)))))))))))
    unfold f_p_readDefinition
    rw [a6, q]
    exact o_pos A.1.tk (o_neg (show ¬ (7 : Int32) = 6 by decide) (o_pos (show (7 : Int32) = 7 from rfl) (this)))
  have cm : ∀ {X : Option (Unit × XH)}, dM 12 p = X → f_m_define 12 h = X := by
    intro X r
    unfold f_m_define
    exact o_bind (e_m_take m14' m13') (by rw [← ep]; exact r)
  have ec : hi p 1262 31 = nI nt := by have := N1.2.2.2.2.2; first | exact this.1 | exact this.2.1 | exact this.2.2.1
  have p13 : hi p 1262 13 = nI (k + 1) := u2.2.2.2.2.2.1
  rcases newDef_c (a := S + 195) (M := 16) (F := 16) (LN := 0) (e := nt) (ad := dT S nt) u2 B1 N1 scu.gT N1.2.2.2.1 (by omega) (by omega) rfl (by omega) (by unfold dT; omega) (by unfold dT; omega) with ⟨v, w1, ce, w2, w3, w4, w5, w6, w8, w9, w10, w11, w12, w13⟩ | ⟨v, p2, w1, w2, w3, w4, w5⟩
  · obtain ⟨y1, y2, y3, y4, y5, y6⟩ := def2 (M := 0) (F := 0) (LN := 0) u2 B1 N1 Lp (Or.inr (Or.inl ⟨rfl, rfl, rfl, ce, rfl, rfl, rfl, rfl⟩)) w2 w5 w6 w9 w10 w11 w12 w13
    obtain ⟨na', r⟩ := table2 y1 y2 y3 y4 rfl w8.1
    refine ⟨_, _, _, _, r.map ((FC.tPq u3).trans y5) (FRX.trans (FMx.q13 G3) y6) (fun x v' e1 e2 => cw _ _ _ _ w1 e1 e2 y1.1.tk) (fun qq e1 => cm (dM_go p13 w3 w4 (o_pos (by decide) (o_neg (not_not_intro rfl) (o_pos (by rw [ec]; exact show ¬ nI nt = nI 16 by (first | (simp (maxSteps := 4000000) (disch := omega) only [n_0, n_1, n_2, n_3, n_4, n_5, n_6, n_7, n_8, n_9, n_10, n_11, n_12, n_13, n_14, n_15, n_16, n_18, n_20, n_24, n_31, n_32, n_34, n_40, n_41, n_44, n_45, n_47, n_48, n_57, n_58, n_59, n_61, n_63, n_64, n_65, n_68, n_90, n_91, n_93, n_95, n_97, n_100, n_122, n_123, n_125, n_128, n_144, n_200, n_255, n_256, n_300, n_400, n_600, n_1536, n_3980, n_4000, n_4001, n_4300, n_65536, l_0, l_1, l_2, l_3, l_4, l_10, l_48, l_63, l_255, l_300, nI_ltI, nI_leI, nI_eq, nI_clamp, nI_add, pk_sub, pk_mul, nI_ne1, ne1_nI, nI_pge, nI_nlt0, nI_l, lN_i, lN_add, lN_mul, lN_sub, pk_lLT, pk_lLE, pk_lEQ, lg_lt, lg_ge, lg_eq0, lg_le, lg_gt, lg_ltn, lg_gen, lg_eq0n, lg_len, lg_gtn, Nat.zero_le, Nat.not_lt_zero, not_false_eq_true, not_true_eq_false, true_and, and_true]; done) | (simp (maxSteps := 4000000) (disch := omega) only [n_0, n_1, n_2, n_3, n_4, n_5, n_6, n_7, n_8, n_9, n_10, n_11, n_12, n_13, n_14, n_15, n_16, n_18, n_20, n_24, n_31, n_32, n_34, n_40, n_41, n_44, n_45, n_47, n_48, n_57, n_58, n_59, n_61, n_63, n_64, n_65, n_68, n_90, n_91, n_93, n_95, n_97, n_100, n_122, n_123, n_125, n_128, n_144, n_200, n_255, n_256, n_300, n_400, n_600, n_1536, n_3980, n_4000, n_4001, n_4300, n_65536, l_0, l_1, l_2, l_3, l_4, l_10, l_48, l_63, l_255, l_300, nI_ltI, nI_leI, nI_eq, nI_clamp, nI_add, pk_sub, pk_mul, nI_ne1, ne1_nI, nI_pge, nI_nlt0, nI_l, lN_i, lN_add, lN_mul, lN_sub, pk_lLT, pk_lLE, pk_lEQ, lg_lt, lg_ge, lg_eq0, lg_le, lg_gt, lg_ltn, lg_gen, lg_eq0n, lg_len, lg_gtn, Nat.zero_le, Nat.not_lt_zero, not_false_eq_true, not_true_eq_false, true_and, and_true]; omega) | omega)) (e_m_define_85 (by omega) u2.2.2.2.2.2.2 p13 N1.2.1 (Or.inr (Or.inl ⟨rfl, rfl, ec⟩)) (Eq.trans (congrArg (Option.bind (f_m_sign 123 (dQ p nd (k + 1) 3 (nI nt)))) (funext fun r5 => (if_pos (show ¬ (12 : Int32) = 11 by decide)).trans (if_neg (not_not_intro rfl)))) e1)))))))⟩
  · have e4 : t < hz v ∧ hk v t = 7 := ⟨by rw [w3.1.1]; exact u2.1.tk.1, by rw [w3.1.2.2.1]; exact u2.1.tk.2⟩
    have e2 : f_p_readTable t none v = some (0, v) := by
      unfold f_p_readTable
      exact o_elimn rfl
    refine ⟨ns, nt, nu, na, Or.inr ⟨v, p2, cw _ _ _ _ w1 e2 (Or.inl rfl) e4, cm ?_, w2, (FC.tPq u3).trans (FC.tFq w3), FRX.trans (FMx.q13 G3) (FMx.q14 w4)⟩⟩
    rcases w5 with ⟨x1, x2⟩ | ⟨d, x0, x1, x2, x3⟩ | ⟨x0, x1, x2, x3⟩
    · exact dM_mis x1 x2
    · exact dM_dup (by omega) p13 x1 x2 x3
    · exact dM_go p13 x1 x2 (o_pos (by decide) (o_neg (not_not_intro rfl) (o_neg (not_not_intro (by rw [ec, x0]; rfl)) (by unfold b_m_define_79; exact o_bind x3 rfl))))
theorem readDef_U (A : ST T n c g h t S k) (B : BG T n c S t nd ns 0 nt 0 nu 0 na ns nt nu 0 g h) (N : CN S t nd ns nt nu na ns nt nu g h) (Lh : LY h) (q : hi g 8 k = 8) : ∃ ns' nt' nu' na', OUT T n c S t (nd + 1) ns' nt' nu' na' ns' nt' nu' 0 g h (f_p_readDefinition t g) (f_m_define 13 h) := by
  have A' := A
  obtain ⟨P, K, kc', a5, a6, m13', m14'⟩ := A'
  obtain ⟨L, t17, -, hS, -⟩ := P
  have nq : ¬ (hi g 8 k = 0 ∨ hi g 8 k = 1) := by rw [q]; decide
  obtain ⟨u, u1, u2, u3⟩ := e_p_adv A nq
  obtain ⟨p, ep⟩ : ∃ p, p = hsi h 1262 13 (nI (k + 1)) := ⟨_, rfl⟩
  rw [← ep] at u2
  have G3 : FRM m13 h p := by rw [ep]; exact FRM.refl.si (by simp [m13])
  have B1 := B.pos L t17 u3 (m13_c G3)
  have N1 := N.pos hS t17 u3 G3
  have Lp : LY p := (FMx.q13 G3).ly Lh
  have l := B.2.2.2.2.2.2.2.2.2.2.2
  have scu := SC.of u2.1.1 hS
  have S9u : S < hz u ∧ hk u S = 9 := ⟨by have := scu.1; omega, scu.2.2.1⟩
  have hg : hr u S 2 = some (S + 517) := by have := scu.2.2.2; first | exact this.1 | exact this.2.1 | exact this.2.2.1
  have cw : ∀ x v r2 v2, f_p_newDefinition t (S + 517) u = some (x, v) → f_p_readUnion t x v = some (r2, v2) → (r2 = 0 ∨ r2 = 1) → (t < hz v ∧ hk v t = 7) → f_p_readDefinition t g = some (r2, v2) := by
    intro x v r2 v2 e1 e2 e3 e4
    have : b_p_readDefinition_29 t 8 g = some (r2, v2) := by
      unfold b_p_readDefinition_29
      exact o_pos A.1.tk (o_bind u1 (o_pos (by decide) (o_pos (by decide) (o_pos u2.1.tk (o_bind u2.1.2.2.2.2.2.2.1 (o_pos S9u (o_bind hg (o_bind e1 (o_pos e4 (o_bind e2 (o_pos e3 rfl)))))))))))
    unfold f_p_readDefinition
    rw [a6, q]
    exact o_pos A.1.tk (o_neg (show ¬ (8 : Int32) = 6 by decide) (o_neg (show ¬ (8 : Int32) = 7 by decide) (o_pos (show (8 : Int32) = 8 from rfl) (this))))
  have cm : ∀ {X : Option (Unit × XH)}, dM 13 p = X → f_m_define 13 h = X := by
    intro X r
    unfold f_m_define
    exact o_bind (e_m_take m14' m13') (by rw [← ep]; exact r)
  have ec : hi p 1262 41 = nI nu := by have := N1.2.2.2.2.2; first | exact this.1 | exact this.2.1 | exact this.2.2.1
  have p13 : hi p 1262 13 = nI (k + 1) := u2.2.2.2.2.2.1
  rcases newDef_c (a := S + 517) (M := 8) (F := 8) (LN := 0) (e := nu) (ad := dU S nu) u2 B1 N1 scu.gU N1.2.2.2.2.1 (by omega) (by omega) rfl (by omega) (by unfold dU; omega) (by unfold dU; omega) with ⟨v, w1, ce, w2, w3, w4, w5, w6, w8, w9, w10, w11, w12, w13⟩ | ⟨v, p2, w1, w2, w3, w4, w5⟩
  · obtain ⟨y1, y2, y3, y4, y5, y6⟩ := def2 (M := 0) (F := 0) (LN := 0) u2 B1 N1 Lp (Or.inr (Or.inr ⟨rfl, rfl, rfl, ce, rfl, rfl, rfl, rfl⟩)) w2 w5 w6 w9 w10 w11 w12 w13
    obtain ⟨na', r⟩ := union2 y1 y2 y3 y4 rfl w8.1
    refine ⟨_, _, _, _, r.map ((FC.tPq u3).trans y5) (FRX.trans (FMx.q13 G3) y6) (fun x v' e1 e2 => cw _ _ _ _ w1 e1 e2 y1.1.tk) (fun qq e1 => cm (dM_go p13 w3 w4 (o_pos (by decide) (o_pos (by decide) (o_pos (by rw [ec]; exact show ¬ nI nu = nI 8 by (first | (simp (maxSteps := 4000000) (disch := omega) only [n_0, n_1, n_2, n_3, n_4, n_5, n_6, n_7, n_8, n_9, n_10, n_11, n_12, n_13, n_14, n_15, n_16, n_18, n_20, n_24, n_31, n_32, n_34, n_40, n_41, n_44, n_45, n_47, n_48, n_57, n_58, n_59, n_61, n_63, n_64, n_65, n_68, n_90, n_91, n_93, n_95, n_97, n_100, n_122, n_123, n_125, n_128, n_144, n_200, n_255, n_256, n_300, n_400, n_600, n_1536, n_3980, n_4000, n_4001, n_4300, n_65536, l_0, l_1, l_2, l_3, l_4, l_10, l_48, l_63, l_255, l_300, nI_ltI, nI_leI, nI_eq, nI_clamp, nI_add, pk_sub, pk_mul, nI_ne1, ne1_nI, nI_pge, nI_nlt0, nI_l, lN_i, lN_add, lN_mul, lN_sub, pk_lLT, pk_lLE, pk_lEQ, lg_lt, lg_ge, lg_eq0, lg_le, lg_gt, lg_ltn, lg_gen, lg_eq0n, lg_len, lg_gtn, Nat.zero_le, Nat.not_lt_zero, not_false_eq_true, not_true_eq_false, true_and, and_true]; done) | (simp (maxSteps := 4000000) (disch := omega) only [n_0, n_1, n_2, n_3, n_4, n_5, n_6, n_7, n_8, n_9, n_10, n_11, n_12, n_13, n_14, n_15, n_16, n_18, n_20, n_24, n_31, n_32, n_34, n_40, n_41, n_44, n_45, n_47, n_48, n_57, n_58, n_59, n_61, n_63, n_64, n_65, n_68, n_90, n_91, n_93, n_95, n_97, n_100, n_122, n_123, n_125, n_128, n_144, n_200, n_255, n_256, n_300, n_400, n_600, n_1536, n_3980, n_4000, n_4001, n_4300, n_65536, l_0, l_1, l_2, l_3, l_4, l_10, l_48, l_63, l_255, l_300, nI_ltI, nI_leI, nI_eq, nI_clamp, nI_add, pk_sub, pk_mul, nI_ne1, ne1_nI, nI_pge, nI_nlt0, nI_l, lN_i, lN_add, lN_mul, lN_sub, pk_lLT, pk_lLE, pk_lEQ, lg_lt, lg_ge, lg_eq0, lg_le, lg_gt, lg_ltn, lg_gen, lg_eq0n, lg_len, lg_gtn, Nat.zero_le, Nat.not_lt_zero, not_false_eq_true, not_true_eq_false, true_and, and_true]; omega) | omega)) (e_m_define_85 (by omega) u2.2.2.2.2.2.2 p13 N1.2.1 (Or.inr (Or.inr ⟨rfl, rfl, ec⟩)) (Eq.trans (congrArg (Option.bind (f_m_sign 123 (dQ p nd (k + 1) 4 (nI nu)))) (funext fun r5 => (if_pos (show ¬ (13 : Int32) = 11 by decide)).trans (if_pos (show ¬ (13 : Int32) = 12 by decide)))) e1)))))))⟩
  · have e4 : t < hz v ∧ hk v t = 7 := ⟨by rw [w3.1.1]; exact u2.1.tk.1, by rw [w3.1.2.2.1]; exact u2.1.tk.2⟩
    have e2 : f_p_readUnion t none v = some (0, v) := by
      unfold f_p_readUnion
      exact o_elimn rfl
    refine ⟨ns, nt, nu, na, Or.inr ⟨v, p2, cw _ _ _ _ w1 e2 (Or.inl rfl) e4, cm ?_, w2, (FC.tPq u3).trans (FC.tFq w3), FRX.trans (FMx.q13 G3) (FMx.q14 w4)⟩⟩
    rcases w5 with ⟨x1, x2⟩ | ⟨d, x0, x1, x2, x3⟩ | ⟨x0, x1, x2, x3⟩
    · exact dM_mis x1 x2
    · exact dM_dup (by omega) p13 x1 x2 x3
    · exact dM_go p13 x1 x2 (o_pos (by decide) (o_pos (by decide) (o_neg (not_not_intro (by rw [ec, x0]; rfl)) (by unfold b_m_define_79; exact o_bind x3 rfl))))
end Rd
