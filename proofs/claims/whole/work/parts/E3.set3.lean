/-! Calls: set, all cases -/

section SetA
variable {h g : XH} {S : Nat} {sg : SGT} {sd : Nat → Int64}
theorem op_set {x : Int32} (H : RX h) (hm : hz h < 900000) : TH h (f_t_set x) (f_m_set x) (fun v w => v = w) [(1, 1), (3, 2), (0, 3), (2, 4)] := by
  obtain ⟨S, sg, sd, H⟩ := H
  have L := H.1
  have hS := H.sS
  obtain ⟨mv, v6, w1, w2, w3⟩ := H.2.2.2.1
  have hm1 : hz (hsi h 5 1 0) < 1000000 := by rw [hz_hsi]; omega
  have F0 : FRM (fun a k => a = 5 ∧ k = 1) h (hsi h 5 1 0) := FRM.refl.si ⟨rfl, rfl⟩
  have L0 : LY (hsi h 5 1 0) := by rw [F0.ly]; exact L
  have o10 : hi (hsi h 5 1 0) 1244 10 = hi h 1244 10 := F0.at (by simp)
  rcases H.op with ⟨o1, o2⟩ | ⟨t0, -, -, -, -, -, o1, o2⟩
  · refine vec_thw H hm w2 (j := 1) (k := 1) (by decide) ?_ (fun g Q q5 => ⟨0, ?_⟩)
    · unfold f_t_set
      exact o_bind (e_w_takeAll L w1) (o_bind (e_u_isOpen0 (by rw [o10]; exact o1)) (o_neg (not_not_intro rfl) (o_pos hm1 rfl)))
    · unfold f_m_set
      exact o_neg (by rw [Q.2.2 67 (by decide) (by decide) (by decide)]; exact not_not_intro o2) rfl
  · obtain ⟨n, tc, b1, b2, b3, b4, b5⟩ := H.2.2.2.2.2.2.2.1
    rcases b5 with ⟨q, -⟩ | ⟨t, lo, ht, e7, e10, e67, e11, e68, lon, fl, sl⟩
    · exact absurd q o1
    obtain ⟨C0, M0, W, NN⟩ := H.hs e7
    have sc : SC (hsi h 5 1 0) S := by rw [F0.sc]; exact H.sc rfl
    have C : CS (hsi h 5 1 0) S sg sd := C0.cg W sc (fun a h1 h2 => hi_hsi_ne (by omega)) (fun a h1 h2 => rfl)
    have M : MS (hsi h 5 1 0) sg sd := M0.cg (fun a h1 h2 => hi_hsi_ne (by omega)) rfl ⟨by rw [hi_hsi_ne (by decide)], by rw [hi_hsi_ne (by decide)], by rw [hi_hsi_ne (by decide)], by rw [hi_hsi_ne (by decide)]⟩
    have b3' : RBt (hsi h 5 1 0) n tc sg := b3.c (Or.inr rfl)
    have s1 : S < hz (hsi h 5 1 0) := by have := sc.1; omega
    have k9 : hk (hsi h 5 1 0) S = 9 := sc.2.2.1
    have ut1 : S + 195 < hz (hsi h 5 1 0) := by have := sc.1; omega
    have ut2 : hk (hsi h 5 1 0) (S + 195) = 4 := sc.gT.2.2.2.1
    have r4 : hr (hsi h 5 1 0) 0 4 = some S := H.2.1.1
    have w0 := W.1
    have wt := (W.2.2.1 t ht).1
    have D := C.1.ddT (Nat.lt_of_lt_of_le ht W.1.2.1)
    have d1 : dT S t < hz (hsi h 5 1 0) := by have := D.1; omega
    have ms : ∀ g, MSm h g → MSm (hsi h 5 1 0) g := fun g Q => ⟨fun a h1 h2 => by rw [hi_hsi_ne (by omega)]; exact Q.1 a h1 h2, Q.2.1, fun k h1 h2 h3 => by rw [hi_hsi_ne (by decide)]; exact Q.2.2 k h1 h2 h3⟩
    have sm : ∀ g, MSm (hsi h 5 1 0) g → MSm h g := fun g Q => ⟨fun a h1 h2 => by rw [Q.1 a h1 h2, hi_hsi_ne (by omega)], Q.2.1, fun k h1 h2 h3 => by rw [Q.2.2 k h1 h2 h3, hi_hsi_ne (by decide)]⟩
    -- both beginnings
    have cl : ∀ X : Option (Sum Int32 Nat × XH), (Option.bind (f_t_fieldOf (some (dT S t)) x (hsi h 5 1 0)) fun r30 => (Option.elim (r30.1) (if hz r30.2 < 1000000 then (some (Sum.inr 3, hthr r30.2)) else none) fun b34 => (Option.bind (f_u_isSet x r30.2) fun r36 => (if ¬ r36.1 = 0 then (b_t_set_86 r36.2) else (Option.bind (f_t_suits b34 (nI mv) r36.2) fun r40 => (if ¬ r40.1 = 0 then (if b34 < hz r40.2 ∧ hk r40.2 b34 = 3 then (if ¬ (hi r40.2 b34 3) = 0 then (b_t_set_130 x (some b34) r40.2) else (Option.bind (f_w_at 5 0 r40.2) fun r46 => (if b34 < hz r46.2 ∧ hk r46.2 b34 = 3 then (if ¬ (lg_cmp r46.1 (hj r46.2 b34 8)) = 0 then (b_t_set_130 x (some b34) r46.2) else (Option.bind (f_u_markSet x r46.2) fun r51 => (some (Sum.inl 0, r51.2)))) else none))) else none) else (b_t_set_86 r40.2))))))) = X → f_t_set x h = X := by
      intro X q
      unfold f_t_set
      refine o_bind (e_w_takeAll L w1) (o_bind (e_u_isOpen1 (by rw [o10]; exact o1)) (o_pos one0 (o_bind r4 (o_pos ⟨s1, k9⟩ (o_bind sc.2.2.2.2.1 (o_pos ⟨ut1, ut2⟩ ?_))))))
      dsimp only
      rw [o10, e10]
      exact o_bind (C.atT W ht) q
    have ml : ∀ g, MSm h g → hi g 1262 55 = nI mv → ∀ X : Option (Int32 × XH), (Option.bind (f_m_fieldOf 0 (nI t) x (hsi (hsi g 1262 0 0) 1262 55 0)) fun r46 => (if ¬ r46.1 = (-1) then (if 0 ≤ x ∧ x < nI 16 then (if ¬ (hi r46.2 1306 (Int32.toNatClampNeg x)) = 0 then (b_m_set_71 r46.2) else (Option.bind (f_m_fits r46.1 (nI mv) r46.2) fun r52 => (if ¬ r52.1 = 0 then (if 0 ≤ r46.1 ∧ r46.1 < nI 256 then (if ¬ (hi r52.2 1286 (Int32.toNatClampNeg r46.1)) = 0 then (b_m_set_116 x r46.1 (hi r52.2 1286 (Int32.toNatClampNeg r46.1)) r52.2) else (if ¬ (lg_cmp (hj r52.2 1298 (Int32.toNatClampNeg 0)) (hj r52.2 1291 (Int32.toNatClampNeg r46.1))) = 0 then (b_m_set_116 x r46.1 (hi r52.2 1286 (Int32.toNatClampNeg r46.1)) r52.2) else (if 0 ≤ x ∧ x < nI 16 then (some (0, (hsi r52.2 1306 (Int32.toNatClampNeg x) (vp_nar .boolean 1)))) else none))) else none) else (b_m_set_71 r52.2)))) else none) else (some (0, (hsi r46.2 1262 0 2))))) = X → f_m_set x g = X := by
      intro g Q q5 X q
      have q67 : hi g 1262 67 = nI t := by rw [Q.2.2 67 (by decide) (by decide) (by decide)]; exact e67
      unfold f_m_set
      rw [q5, q67]
      exact o_pos (nI_n1 (by omega)) q
    have Q2 : ∀ g, MSm h g → MSm h (hsi (hsi g 1262 0 0) 1262 55 0) := fun g Q => (Q.si (Or.inl rfl)).si (Or.inr (Or.inr rfl))
    have e7' : ∀ g, MSm h g → hi g 1262 7 = 1 := fun g Q => by rw [Q.2.2 7 (by decide) (by decide) (by decide)]; exact e7
    have nof : (x < 0 ∨ nI (sg 10 t) ≤ x) → TH h (f_t_set x) (f_m_set x) (fun v w => v = w) [(1, 1), (3, 2), (0, 3), (2, 4)] := by
      intro out
      refine vec_thw H hm w2 (j := 3) (k := 2) (by decide) ?_ (fun g Q q5 => ⟨0, ?_⟩)
      · refine cl _ (o_bind (v := (none, hsi h 5 1 0)) ?_ (o_elimn (o_pos hm1 rfl)))
        unfold f_t_fieldOf b_t_fieldOf_13
        exact o_elim (o_pos ⟨d1, D.2.2.2.2.1⟩ (o_bind (e_d_fieldAtN D (C.2.2.2.1 t ht).1.1 wt out) rfl))
      · refine ml g Q q5 _ ?_
        rcases e_m_fieldOf0 ((ms _ (Q2 g Q)).ms M) W (e7' _ (Q2 g Q)) ht x with ⟨-, z⟩ | ⟨f, hf, ef, z⟩
        · exact o_bind z (o_neg (not_not_intro rfl) rfl)
        · exfalso
          subst ef
          rcases out with q | q
          · exact nI_pos (show f < 2 ^ 31 by omega) q
          · rw [nI_leI (by omega) (by omega)] at q
            omega
    rcases x32 x (sg 10 t) (by omega) with q | q | ⟨f, hf, ef⟩
    · exact nof (Or.inl q)
    · exact nof (Or.inr q)
    subst ef
    have f16 : f < 16 := by omega
    obtain ⟨i, ei⟩ : ∃ i, i = 16 * t + f := ⟨_, rfl⟩
    have i256 : i < 256 := by rw [ei]; exact W.i256 ht hf
    obtain ⟨⟨f1, f2⟩, i3, i4, i5, i6, i7, i8⟩ := C.fi W ht hf
    rw [← ei] at i3 i4 i5 i6 i7 i8
    have cf : (nI f).toNatClampNeg = f := nI_clamp (by omega)
    have ci : (nI i).toNatClampNeg = i := nI_clamp (by omega)
    have cF : f_t_fieldOf (some (dT S t)) (nI f) (hsi h 5 1 0) = some (some (dT S t + 2 + f), hsi h 5 1 0) := by
      unfold f_t_fieldOf b_t_fieldOf_13
      exact o_elim (o_pos ⟨d1, D.2.2.2.2.1⟩ (o_bind (C.fT W ht hf) rfl))
    have mF : ∀ g, MSm h g → f_m_fieldOf 0 (nI t) (nI f) g = some (nI i, g) := by
      intro g Q
      rcases e_m_fieldOf0 ((ms _ Q).ms M) W (e7' _ Q) ht (nI f) with ⟨q, -⟩ | ⟨f', hf', ef, z⟩
      · exfalso
        rcases q with q | q
        · exact nI_pos (show f < 2 ^ 31 by omega) q
        · rw [nI_leI (by omega) (by omega)] at q
          omega
      · rw [nI_eq (by omega) (by omega)] at ef
        rw [ei, ef]
        rw [← ef] at z
        rw [← ef]
        exact z
    have mfi : ∀ g, MSm h g → MFi g i sg sd := fun g Q => by rw [ei]; exact ((ms _ Q).ms M).fi ht hf
    -- the beginnings, with the field
    have cl1 : ∀ X : Option (Sum Int32 Nat × XH), (if ¬ hi h 1306 f = 0 then (b_t_set_86 (hsi h 5 1 0)) else (Option.bind (f_t_suits (dT S t + 2 + f) (nI mv) (hsi h 5 1 0)) fun r40 => (if ¬ r40.1 = 0 then (if dT S t + 2 + f < hz r40.2 ∧ hk r40.2 (dT S t + 2 + f) = 3 then (if ¬ (hi r40.2 (dT S t + 2 + f) 3) = 0 then (b_t_set_130 (nI f) (some (dT S t + 2 + f)) r40.2) else (Option.bind (f_w_at 5 0 r40.2) fun r46 => (if dT S t + 2 + f < hz r46.2 ∧ hk r46.2 (dT S t + 2 + f) = 3 then (if ¬ (lg_cmp r46.1 (hj r46.2 (dT S t + 2 + f) 8)) = 0 then (b_t_set_130 (nI f) (some (dT S t + 2 + f)) r46.2) else (Option.bind (f_u_markSet (nI f) r46.2) fun r51 => (some (Sum.inl 0, r51.2)))) else none))) else none) else (b_t_set_86 r40.2)))) = X → f_t_set (nI f) h = X := by
      intro X q
      refine cl _ (o_bind cF (o_elim ?_))
      have eS : hi (hsi h 5 1 0) 1252 f = hi h 1306 f := by rw [hi_hsi_ne (by decide)]; exact (fl f f16).1
      by_cases c : hi h 1306 f = 0
      · rw [if_neg (not_not_intro c)] at q
        refine o_bind (v := (0, hsi h 5 1 0)) ?_ (o_neg (not_not_intro rfl) q)
        unfold f_u_isSet
        rw [cf, eS]
        exact o_neg (by (first | (simp (maxSteps := 4000000) (disch := omega) only [n_0, n_1, n_2, n_3, n_4, n_5, n_6, n_7, n_8, n_9, n_10, n_11, n_12, n_13, n_14, n_15, n_16, n_18, n_20, n_24, n_31, n_32, n_34, n_40, n_41, n_44, n_45, n_47, n_48, n_57, n_58, n_59, n_61, n_63, n_64, n_65, n_68, n_90, n_91, n_93, n_95, n_97, n_100, n_122, n_123, n_125, n_128, n_144, n_200, n_255, n_256, n_300, n_400, n_600, n_1536, n_3980, n_4000, n_4001, n_4300, n_65536, l_0, l_1, l_2, l_3, l_4, l_10, l_48, l_63, l_255, l_300, nI_ltI, nI_leI, nI_eq, nI_clamp, nI_add, pk_sub, pk_mul, nI_ne1, ne1_nI, nI_pge, nI_nlt0, nI_l, lN_i, lN_add, lN_mul, lN_sub, pk_lLT, pk_lLE, pk_lEQ, lg_lt, lg_ge, lg_eq0, lg_le, lg_gt, lg_ltn, lg_gen, lg_eq0n, lg_len, lg_gtn, Nat.zero_le, Nat.not_lt_zero, not_false_eq_true, not_true_eq_false, true_and, and_true]; done) | (simp (maxSteps := 4000000) (disch := omega) only [n_0, n_1, n_2, n_3, n_4, n_5, n_6, n_7, n_8, n_9, n_10, n_11, n_12, n_13, n_14, n_15, n_16, n_18, n_20, n_24, n_31, n_32, n_34, n_40, n_41, n_44, n_45, n_47, n_48, n_57, n_58, n_59, n_61, n_63, n_64, n_65, n_68, n_90, n_91, n_93, n_95, n_97, n_100, n_122, n_123, n_125, n_128, n_144, n_200, n_255, n_256, n_300, n_400, n_600, n_1536, n_3980, n_4000, n_4001, n_4300, n_65536, l_0, l_1, l_2, l_3, l_4, l_10, l_48, l_63, l_255, l_300, nI_ltI, nI_leI, nI_eq, nI_clamp, nI_add, pk_sub, pk_mul, nI_ne1, ne1_nI, nI_pge, nI_nlt0, nI_l, lN_i, lN_add, lN_mul, lN_sub, pk_lLT, pk_lLE, pk_lEQ, lg_lt, lg_ge, lg_eq0, lg_le, lg_gt, lg_ltn, lg_gen, lg_eq0n, lg_len, lg_gtn, Nat.zero_le, Nat.not_lt_zero, not_false_eq_true, not_true_eq_false, true_and, and_true]; omega) | omega)) (o_neg (by (first | (simp (maxSteps := 4000000) (disch := omega) only [n_0, n_1, n_2, n_3, n_4, n_5, n_6, n_7, n_8, n_9, n_10, n_11, n_12, n_13, n_14, n_15, n_16, n_18, n_20, n_24, n_31, n_32, n_34, n_40, n_41, n_44, n_45, n_47, n_48, n_57, n_58, n_59, n_61, n_63, n_64, n_65, n_68, n_90, n_91, n_93, n_95, n_97, n_100, n_122, n_123, n_125, n_128, n_144, n_200, n_255, n_256, n_300, n_400, n_600, n_1536, n_3980, n_4000, n_4001, n_4300, n_65536, l_0, l_1, l_2, l_3, l_4, l_10, l_48, l_63, l_255, l_300, nI_ltI, nI_leI, nI_eq, nI_clamp, nI_add, pk_sub, pk_mul, nI_ne1, ne1_nI, nI_pge, nI_nlt0, nI_l, lN_i, lN_add, lN_mul, lN_sub, pk_lLT, pk_lLE, pk_lEQ, lg_lt, lg_ge, lg_eq0, lg_le, lg_gt, lg_ltn, lg_gen, lg_eq0n, lg_len, lg_gtn, Nat.zero_le, Nat.not_lt_zero, not_false_eq_true, not_true_eq_false, true_and, and_true]; done) | (simp (maxSteps := 4000000) (disch := omega) only [n_0, n_1, n_2, n_3, n_4, n_5, n_6, n_7, n_8, n_9, n_10, n_11, n_12, n_13, n_14, n_15, n_16, n_18, n_20, n_24, n_31, n_32, n_34, n_40, n_41, n_44, n_45, n_47, n_48, n_57, n_58, n_59, n_61, n_63, n_64, n_65, n_68, n_90, n_91, n_93, n_95, n_97, n_100, n_122, n_123, n_125, n_128, n_144, n_200, n_255, n_256, n_300, n_400, n_600, n_1536, n_3980, n_4000, n_4001, n_4300, n_65536, l_0, l_1, l_2, l_3, l_4, l_10, l_48, l_63, l_255, l_300, nI_ltI, nI_leI, nI_eq, nI_clamp, nI_add, pk_sub, pk_mul, nI_ne1, ne1_nI, nI_pge, nI_nlt0, nI_l, lN_i, lN_add, lN_mul, lN_sub, pk_lLT, pk_lLE, pk_lEQ, lg_lt, lg_ge, lg_eq0, lg_le, lg_gt, lg_ltn, lg_gen, lg_eq0n, lg_len, lg_gtn, Nat.zero_le, Nat.not_lt_zero, not_false_eq_true, not_true_eq_false, true_and, and_true]; omega) | omega)) (o_pos c rfl))
      · rw [if_pos c] at q
        refine o_bind (v := (1, hsi h 5 1 0)) ?_ (o_pos one0 q)
        unfold f_u_isSet
        rw [cf, eS]
        exact o_neg (by (first | (simp (maxSteps := 4000000) (disch := omega) only [n_0, n_1, n_2, n_3, n_4, n_5, n_6, n_7, n_8, n_9, n_10, n_11, n_12, n_13, n_14, n_15, n_16, n_18, n_20, n_24, n_31, n_32, n_34, n_40, n_41, n_44, n_45, n_47, n_48, n_57, n_58, n_59, n_61, n_63, n_64, n_65, n_68, n_90, n_91, n_93, n_95, n_97, n_100, n_122, n_123, n_125, n_128, n_144, n_200, n_255, n_256, n_300, n_400, n_600, n_1536, n_3980, n_4000, n_4001, n_4300, n_65536, l_0, l_1, l_2, l_3, l_4, l_10, l_48, l_63, l_255, l_300, nI_ltI, nI_leI, nI_eq, nI_clamp, nI_add, pk_sub, pk_mul, nI_ne1, ne1_nI, nI_pge, nI_nlt0, nI_l, lN_i, lN_add, lN_mul, lN_sub, pk_lLT, pk_lLE, pk_lEQ, lg_lt, lg_ge, lg_eq0, lg_le, lg_gt, lg_ltn, lg_gen, lg_eq0n, lg_len, lg_gtn, Nat.zero_le, Nat.not_lt_zero, not_false_eq_true, not_true_eq_false, true_and, and_true]; done) | (simp (maxSteps := 4000000) (disch := omega) only [n_0, n_1, n_2, n_3, n_4, n_5, n_6, n_7, n_8, n_9, n_10, n_11, n_12, n_13, n_14, n_15, n_16, n_18, n_20, n_24, n_31, n_32, n_34, n_40, n_41, n_44, n_45, n_47, n_48, n_57, n_58, n_59, n_61, n_63, n_64, n_65, n_68, n_90, n_91, n_93, n_95, n_97, n_100, n_122, n_123, n_125, n_128, n_144, n_200, n_255, n_256, n_300, n_400, n_600, n_1536, n_3980, n_4000, n_4001, n_4300, n_65536, l_0, l_1, l_2, l_3, l_4, l_10, l_48, l_63, l_255, l_300, nI_ltI, nI_leI, nI_eq, nI_clamp, nI_add, pk_sub, pk_mul, nI_ne1, ne1_nI, nI_pge, nI_nlt0, nI_l, lN_i, lN_add, lN_mul, lN_sub, pk_lLT, pk_lLE, pk_lEQ, lg_lt, lg_ge, lg_eq0, lg_le, lg_gt, lg_ltn, lg_gen, lg_eq0n, lg_len, lg_gtn, Nat.zero_le, Nat.not_lt_zero, not_false_eq_true, not_true_eq_false, true_and, and_true]; omega) | omega)) (o_neg (by (first | (simp (maxSteps := 4000000) (disch := omega) only [n_0, n_1, n_2, n_3, n_4, n_5, n_6, n_7, n_8, n_9, n_10, n_11, n_12, n_13, n_14, n_15, n_16, n_18, n_20, n_24, n_31, n_32, n_34, n_40, n_41, n_44, n_45, n_47, n_48, n_57, n_58, n_59, n_61, n_63, n_64, n_65, n_68, n_90, n_91, n_93, n_95, n_97, n_100, n_122, n_123, n_125, n_128, n_144, n_200, n_255, n_256, n_300, n_400, n_600, n_1536, n_3980, n_4000, n_4001, n_4300, n_65536, l_0, l_1, l_2, l_3, l_4, l_10, l_48, l_63, l_255, l_300, nI_ltI, nI_leI, nI_eq, nI_clamp, nI_add, pk_sub, pk_mul, nI_ne1, ne1_nI, nI_pge, nI_nlt0, nI_l, lN_i, lN_add, lN_mul, lN_sub, pk_lLT, pk_lLE, pk_lEQ, lg_lt, lg_ge, lg_eq0, lg_le, lg_gt, lg_ltn, lg_gen, lg_eq0n, lg_len, lg_gtn, Nat.zero_le, Nat.not_lt_zero, not_false_eq_true, not_true_eq_false, true_and, and_true]; done) | (simp (maxSteps := 4000000) (disch := omega) only [n_0, n_1, n_2, n_3, n_4, n_5, n_6, n_7, n_8, n_9, n_10, n_11, n_12, n_13, n_14, n_15, n_16, n_18, n_20, n_24, n_31, n_32, n_34, n_40, n_41, n_44, n_45, n_47, n_48, n_57, n_58, n_59, n_61, n_63, n_64, n_65, n_68, n_90, n_91, n_93, n_95, n_97, n_100, n_122, n_123, n_125, n_128, n_144, n_200, n_255, n_256, n_300, n_400, n_600, n_1536, n_3980, n_4000, n_4001, n_4300, n_65536, l_0, l_1, l_2, l_3, l_4, l_10, l_48, l_63, l_255, l_300, nI_ltI, nI_leI, nI_eq, nI_clamp, nI_add, pk_sub, pk_mul, nI_ne1, ne1_nI, nI_pge, nI_nlt0, nI_l, lN_i, lN_add, lN_mul, lN_sub, pk_lLT, pk_lLE, pk_lEQ, lg_lt, lg_ge, lg_eq0, lg_le, lg_gt, lg_ltn, lg_gen, lg_eq0n, lg_len, lg_gtn, Nat.zero_le, Nat.not_lt_zero, not_false_eq_true, not_true_eq_false, true_and, and_true]; omega) | omega)) (o_neg c rfl))
    have ml1 : ∀ g, MSm h g → hi g 1262 55 = nI mv → ∀ X : Option (Int32 × XH), (if ¬ hi h 1306 f = 0 then (b_m_set_71 (hsi (hsi g 1262 0 0) 1262 55 0)) else (Option.bind (f_m_fits (nI i) (nI mv) (hsi (hsi g 1262 0 0) 1262 55 0)) fun r52 => (if ¬ r52.1 = 0 then (if ¬ (hi r52.2 1286 i) = 0 then (b_m_set_116 (nI f) (nI i) (hi r52.2 1286 i) r52.2) else (if ¬ (lg_cmp (hj r52.2 1298 0) (hj r52.2 1291 i)) = 0 then (b_m_set_116 (nI f) (nI i) (hi r52.2 1286 i) r52.2) else (some (0, (hsi r52.2 1306 f (vp_nar .boolean 1)))))) else (b_m_set_71 r52.2)))) = X → f_m_set (nI f) g = X := by
      intro g Q q5 X q
      refine ml g Q q5 _ (o_bind (mF _ (Q2 g Q)) (o_pos (nI_n1 (by omega)) (o_pos (by (first | (simp (maxSteps := 4000000) (disch := omega) only [n_0, n_1, n_2, n_3, n_4, n_5, n_6, n_7, n_8, n_9, n_10, n_11, n_12, n_13, n_14, n_15, n_16, n_18, n_20, n_24, n_31, n_32, n_34, n_40, n_41, n_44, n_45, n_47, n_48, n_57, n_58, n_59, n_61, n_63, n_64, n_65, n_68, n_90, n_91, n_93, n_95, n_97, n_100, n_122, n_123, n_125, n_128, n_144, n_200, n_255, n_256, n_300, n_400, n_600, n_1536, n_3980, n_4000, n_4001, n_4300, n_65536, l_0, l_1, l_2, l_3, l_4, l_10, l_48, l_63, l_255, l_300, nI_ltI, nI_leI, nI_eq, nI_clamp, nI_add, pk_sub, pk_mul, nI_ne1, ne1_nI, nI_pge, nI_nlt0, nI_l, lN_i, lN_add, lN_mul, lN_sub, pk_lLT, pk_lLE, pk_lEQ, lg_lt, lg_ge, lg_eq0, lg_le, lg_gt, lg_ltn, lg_gen, lg_eq0n, lg_len, lg_gtn, Nat.zero_le, Nat.not_lt_zero, not_false_eq_true, not_true_eq_false, true_and, and_true]; done) | (simp (maxSteps := 4000000) (disch := omega) only [n_0, n_1, n_2, n_3, n_4, n_5, n_6, n_7, n_8, n_9, n_10, n_11, n_12, n_13, n_14, n_15, n_16, n_18, n_20, n_24, n_31, n_32, n_34, n_40, n_41, n_44, n_45, n_47, n_48, n_57, n_58, n_59, n_61, n_63, n_64, n_65, n_68, n_90, n_91, n_93, n_95, n_97, n_100, n_122, n_123, n_125, n_128, n_144, n_200, n_255, n_256, n_300, n_400, n_600, n_1536, n_3980, n_4000, n_4001, n_4300, n_65536, l_0, l_1, l_2, l_3, l_4, l_10, l_48, l_63, l_255, l_300, nI_ltI, nI_leI, nI_eq, nI_clamp, nI_add, pk_sub, pk_mul, nI_ne1, ne1_nI, nI_pge, nI_nlt0, nI_l, lN_i, lN_add, lN_mul, lN_sub, pk_lLT, pk_lLE, pk_lEQ, lg_lt, lg_ge, lg_eq0, lg_le, lg_gt, lg_ltn, lg_gen, lg_eq0n, lg_len, lg_gtn, Nat.zero_le, Nat.not_lt_zero, not_false_eq_true, not_true_eq_false, true_and, and_true]; omega) | omega)) ?_)))
      dsimp only
      rw [cf, ci, cz, (Q2 g Q).1 1306 (by decide) (by decide), ← q]
      by_cases c : hi h 1306 f = 0
      · rw [if_neg (not_not_intro c), if_neg (not_not_intro c)]
        congr 1
        funext r52
        by_cases c2 : r52.1 = 0
        · rw [if_neg (not_not_intro c2), if_neg (not_not_intro c2)]
        · rw [if_pos c2, if_pos c2]
          refine o_pos (by (first | (simp (maxSteps := 4000000) (disch := omega) only [n_0, n_1, n_2, n_3, n_4, n_5, n_6, n_7, n_8, n_9, n_10, n_11, n_12, n_13, n_14, n_15, n_16, n_18, n_20, n_24, n_31, n_32, n_34, n_40, n_41, n_44, n_45, n_47, n_48, n_57, n_58, n_59, n_61, n_63, n_64, n_65, n_68, n_90, n_91, n_93, n_95, n_97, n_100, n_122, n_123, n_125, n_128, n_144, n_200, n_255, n_256, n_300, n_400, n_600, n_1536, n_3980, n_4000, n_4001, n_4300, n_65536, l_0, l_1, l_2, l_3, l_4, l_10, l_48, l_63, l_255, l_300, nI_ltI, nI_leI, nI_eq, nI_clamp, nI_add, pk_sub, pk_mul, nI_ne1, ne1_nI, nI_pge, nI_nlt0, nI_l, lN_i, lN_add, lN_mul, lN_sub, pk_lLT, pk_lLE, pk_lEQ, lg_lt, lg_ge, lg_eq0, lg_le, lg_gt, lg_ltn, lg_gen, lg_eq0n, lg_len, lg_gtn, Nat.zero_le, Nat.not_lt_zero, not_false_eq_true, not_true_eq_false, true_and, and_true]; done) | (simp (maxSteps := 4000000) (disch := omega) only [n_0, n_1, n_2, n_3, n_4, n_5, n_6, n_7, n_8, n_9, n_10, n_11, n_12, n_13, n_14, n_15, n_16, n_18, n_20, n_24, n_31, n_32, n_34, n_40, n_41, n_44, n_45, n_47, n_48, n_57, n_58, n_59, n_61, n_63, n_64, n_65, n_68, n_90, n_91, n_93, n_95, n_97, n_100, n_122, n_123, n_125, n_128, n_144, n_200, n_255, n_256, n_300, n_400, n_600, n_1536, n_3980, n_4000, n_4001, n_4300, n_65536, l_0, l_1, l_2, l_3, l_4, l_10, l_48, l_63, l_255, l_300, nI_ltI, nI_leI, nI_eq, nI_clamp, nI_add, pk_sub, pk_mul, nI_ne1, ne1_nI, nI_pge, nI_nlt0, nI_l, lN_i, lN_add, lN_mul, lN_sub, pk_lLT, pk_lLE, pk_lEQ, lg_lt, lg_ge, lg_eq0, lg_le, lg_gt, lg_ltn, lg_gen, lg_eq0n, lg_len, lg_gtn, Nat.zero_le, Nat.not_lt_zero, not_false_eq_true, not_true_eq_false, true_and, and_true]; omega) | omega)) ?_
          by_cases c3 : hi r52.2 1286 i = 0
          · rw [if_neg (not_not_intro c3), if_neg (not_not_intro c3)]
            by_cases c4 : lg_cmp (hj r52.2 1298 0) (hj r52.2 1291 i) = 0
            · rw [if_neg (not_not_intro c4), if_neg (not_not_intro c4)]
              exact o_pos (by (first | (simp (maxSteps := 4000000) (disch := omega) only [n_0, n_1, n_2, n_3, n_4, n_5, n_6, n_7, n_8, n_9, n_10, n_11, n_12, n_13, n_14, n_15, n_16, n_18, n_20, n_24, n_31, n_32, n_34, n_40, n_41, n_44, n_45, n_47, n_48, n_57, n_58, n_59, n_61, n_63, n_64, n_65, n_68, n_90, n_91, n_93, n_95, n_97, n_100, n_122, n_123, n_125, n_128, n_144, n_200, n_255, n_256, n_300, n_400, n_600, n_1536, n_3980, n_4000, n_4001, n_4300, n_65536, l_0, l_1, l_2, l_3, l_4, l_10, l_48, l_63, l_255, l_300, nI_ltI, nI_leI, nI_eq, nI_clamp, nI_add, pk_sub, pk_mul, nI_ne1, ne1_nI, nI_pge, nI_nlt0, nI_l, lN_i, lN_add, lN_mul, lN_sub, pk_lLT, pk_lLE, pk_lEQ, lg_lt, lg_ge, lg_eq0, lg_le, lg_gt, lg_ltn, lg_gen, lg_eq0n, lg_len, lg_gtn, Nat.zero_le, Nat.not_lt_zero, not_false_eq_true, not_true_eq_false, true_and, and_true]; done) | (simp (maxSteps := 4000000) (disch := omega) only [n_0, n_1, n_2, n_3, n_4, n_5, n_6, n_7, n_8, n_9, n_10, n_11, n_12, n_13, n_14, n_15, n_16, n_18, n_20, n_24, n_31, n_32, n_34, n_40, n_41, n_44, n_45, n_47, n_48, n_57, n_58, n_59, n_61, n_63, n_64, n_65, n_68, n_90, n_91, n_93, n_95, n_97, n_100, n_122, n_123, n_125, n_128, n_144, n_200, n_255, n_256, n_300, n_400, n_600, n_1536, n_3980, n_4000, n_4001, n_4300, n_65536, l_0, l_1, l_2, l_3, l_4, l_10, l_48, l_63, l_255, l_300, nI_ltI, nI_leI, nI_eq, nI_clamp, nI_add, pk_sub, pk_mul, nI_ne1, ne1_nI, nI_pge, nI_nlt0, nI_l, lN_i, lN_add, lN_mul, lN_sub, pk_lLT, pk_lLE, pk_lEQ, lg_lt, lg_ge, lg_eq0, lg_le, lg_gt, lg_ltn, lg_gen, lg_eq0n, lg_len, lg_gtn, Nat.zero_le, Nat.not_lt_zero, not_false_eq_true, not_true_eq_false, true_and, and_true]; omega) | omega)) rfl
            · rw [if_pos c4, if_pos c4]
          · rw [if_pos c3, if_pos c3]
      · rw [if_pos c, if_pos c]
    by_cases cs : hi h 1306 f = 0
    · obtain ⟨r, r01, sC, sM, sG⟩ := suits2 L0 r4 C M W b3' v6 w3 ht hf
      rw [← ei] at sM sG
      rcases r01 with q | q
      · subst q
        refine vec_thw H hm w2 (j := 0) (k := 3) (by decide) ?_ (fun g Q q5 => ⟨0, ?_⟩)
        · refine cl1 _ (o_neg (not_not_intro cs) (o_bind sC (o_neg (not_not_intro rfl) ?_)))
          unfold b_t_set_86
          exact o_pos hm1 rfl
        · exact ml1 g Q q5 _ (o_neg (not_not_intro cs) (o_bind (sM _ (ms _ (Q2 g Q))) (o_neg (not_not_intro rfl) rfl)))
      · subst q
        obtain ⟨sg0, sg2, sg4, sgR⟩ := sG rfl
        -- by the sort: put, or nothing to put
        have put : (sg 12 i = 0 → ¬ hj h 6 0 = sd i) → ((∃ u, b_t_set_130 (nI f) (some (dT S t + 2 + f)) (hsi h 5 1 0) = some (Sum.inl 1, u) ∧ ∀ p0, OW u p0 → MSm (hsi h 5 1 0) p0 ∧ hi p0 1262 55 = hi h 1262 55 ∧ ∃ p, b_m_set_116 (nI f) (nI i) (nI (sg 12 i)) (hsi (hsi p0 1262 0 0) 1262 55 0) = some (1, p) ∧ hi p 1262 0 = 0 ∧ RX p ∧ RM h p) ∨ (b_t_set_130 (nI f) (some (dT S t + 2 + f)) (hsi h 5 1 0) = some (Sum.inr 2, hthr (hsi h 5 1 0)) ∧ ∀ g, MSm (hsi h 5 1 0) g → b_m_set_116 (nI f) (nI i) (nI (sg 12 i)) g = some (0, hsi g 1262 0 4))) → TH h (f_t_set (nI f)) (f_m_set (nI f)) (fun v w => v = w) [(1, 1), (3, 2), (0, 3), (2, 4)] := by
          intro nd res
          have s5 : sg 12 i ≤ 5 := by rw [ei]; rcases W.fk ht hf with k | ⟨-, -, ⟨e, -⟩ | ⟨e, -⟩ | ⟨e, -⟩ | ⟨e, -⟩⟩ | k <;> omega
          have cl2 : ∀ X, b_t_set_130 (nI f) (some (dT S t + 2 + f)) (hsi h 5 1 0) = X → f_t_set (nI f) h = X := by
            intro X q
            refine cl1 _ (o_neg (not_not_intro cs) (o_bind sC (o_pos one0 (o_pos ⟨f1, f2⟩ ?_))))
            dsimp only
            rw [i3]
            by_cases c0 : sg 12 i = 0
            · refine o_neg (by rw [c0]; exact not_not_intro rfl) (o_bind (e_w_at L0 (k := 0) (by decide)) (o_pos ⟨f1, f2⟩ ?_))
              dsimp only
              rw [i8]
              exact o_pos (by rw [lg_eq0]; exact nd c0) q
            · exact o_pos (show ¬ nI (sg 12 i) = nI 0 by (first | (simp (maxSteps := 4000000) (disch := omega) only [n_0, n_1, n_2, n_3, n_4, n_5, n_6, n_7, n_8, n_9, n_10, n_11, n_12, n_13, n_14, n_15, n_16, n_18, n_20, n_24, n_31, n_32, n_34, n_40, n_41, n_44, n_45, n_47, n_48, n_57, n_58, n_59, n_61, n_63, n_64, n_65, n_68, n_90, n_91, n_93, n_95, n_97, n_100, n_122, n_123, n_125, n_128, n_144, n_200, n_255, n_256, n_300, n_400, n_600, n_1536, n_3980, n_4000, n_4001, n_4300, n_65536, l_0, l_1, l_2, l_3, l_4, l_10, l_48, l_63, l_255, l_300, nI_ltI, nI_leI, nI_eq, nI_clamp, nI_add, pk_sub, pk_mul, nI_ne1, ne1_nI, nI_pge, nI_nlt0, nI_l, lN_i, lN_add, lN_mul, lN_sub, pk_lLT, pk_lLE, pk_lEQ, lg_lt, lg_ge, lg_eq0, lg_le, lg_gt, lg_ltn, lg_gen, lg_eq0n, lg_len, lg_gtn, Nat.zero_le, Nat.not_lt_zero, not_false_eq_true, not_true_eq_false, true_and, and_true]; done) | (simp (maxSteps := 4000000) (disch := omega) only [n_0, n_1, n_2, n_3, n_4, n_5, n_6, n_7, n_8, n_9, n_10, n_11, n_12, n_13, n_14, n_15, n_16, n_18, n_20, n_24, n_31, n_32, n_34, n_40, n_41, n_44, n_45, n_47, n_48, n_57, n_58, n_59, n_61, n_63, n_64, n_65, n_68, n_90, n_91, n_93, n_95, n_97, n_100, n_122, n_123, n_125, n_128, n_144, n_200, n_255, n_256, n_300, n_400, n_600, n_1536, n_3980, n_4000, n_4001, n_4300, n_65536, l_0, l_1, l_2, l_3, l_4, l_10, l_48, l_63, l_255, l_300, nI_ltI, nI_leI, nI_eq, nI_clamp, nI_add, pk_sub, pk_mul, nI_ne1, ne1_nI, nI_pge, nI_nlt0, nI_l, lN_i, lN_add, lN_mul, lN_sub, pk_lLT, pk_lLE, pk_lEQ, lg_lt, lg_ge, lg_eq0, lg_le, lg_gt, lg_ltn, lg_gen, lg_eq0n, lg_len, lg_gtn, Nat.zero_le, Nat.not_lt_zero, not_false_eq_true, not_true_eq_false, true_and, and_true]; omega) | omega)) q
          have ml2 : ∀ g, MSm h g → hi g 1262 55 = nI mv → ∀ X, b_m_set_116 (nI f) (nI i) (nI (sg 12 i)) (hsi (hsi g 1262 0 0) 1262 55 0) = X → f_m_set (nI f) g = X := by
            intro g Q q5 X q
            obtain ⟨m2, m3, m4, m5, m6, m7⟩ := mfi _ (Q2 g Q)
            refine ml1 g Q q5 _ (o_neg (not_not_intro cs) (o_bind (sM _ (ms _ (Q2 g Q))) (o_pos one0 ?_)))
            dsimp only
            rw [m2]
            by_cases c0 : sg 12 i = 0
            · refine o_neg (by rw [c0]; exact not_not_intro rfl) ?_
              rw [m7, (Q2 g Q).2.1 1298 (by decide), ← w3 0 (by have := sg0 c0; omega)]
              exact o_pos (by rw [lg_eq0]; exact nd c0) q
            · exact o_pos (show ¬ nI (sg 12 i) = nI 0 by (first | (simp (maxSteps := 4000000) (disch := omega) only [n_0, n_1, n_2, n_3, n_4, n_5, n_6, n_7, n_8, n_9, n_10, n_11, n_12, n_13, n_14, n_15, n_16, n_18, n_20, n_24, n_31, n_32, n_34, n_40, n_41, n_44, n_45, n_47, n_48, n_57, n_58, n_59, n_61, n_63, n_64, n_65, n_68, n_90, n_91, n_93, n_95, n_97, n_100, n_122, n_123, n_125, n_128, n_144, n_200, n_255, n_256, n_300, n_400, n_600, n_1536, n_3980, n_4000, n_4001, n_4300, n_65536, l_0, l_1, l_2, l_3, l_4, l_10, l_48, l_63, l_255, l_300, nI_ltI, nI_leI, nI_eq, nI_clamp, nI_add, pk_sub, pk_mul, nI_ne1, ne1_nI, nI_pge, nI_nlt0, nI_l, lN_i, lN_add, lN_mul, lN_sub, pk_lLT, pk_lLE, pk_lEQ, lg_lt, lg_ge, lg_eq0, lg_le, lg_gt, lg_ltn, lg_gen, lg_eq0n, lg_len, lg_gtn, Nat.zero_le, Nat.not_lt_zero, not_false_eq_true, not_true_eq_false, true_and, and_true]; done) | (simp (maxSteps := 4000000) (disch := omega) only [n_0, n_1, n_2, n_3, n_4, n_5, n_6, n_7, n_8, n_9, n_10, n_11, n_12, n_13, n_14, n_15, n_16, n_18, n_20, n_24, n_31, n_32, n_34, n_40, n_41, n_44, n_45, n_47, n_48, n_57, n_58, n_59, n_61, n_63, n_64, n_65, n_68, n_90, n_91, n_93, n_95, n_97, n_100, n_122, n_123, n_125, n_128, n_144, n_200, n_255, n_256, n_300, n_400, n_600, n_1536, n_3980, n_4000, n_4001, n_4300, n_65536, l_0, l_1, l_2, l_3, l_4, l_10, l_48, l_63, l_255, l_300, nI_ltI, nI_leI, nI_eq, nI_clamp, nI_add, pk_sub, pk_mul, nI_ne1, ne1_nI, nI_pge, nI_nlt0, nI_l, lN_i, lN_add, lN_mul, lN_sub, pk_lLT, pk_lLE, pk_lEQ, lg_lt, lg_ge, lg_eq0, lg_le, lg_gt, lg_ltn, lg_gen, lg_eq0n, lg_len, lg_gtn, Nat.zero_le, Nat.not_lt_zero, not_false_eq_true, not_true_eq_false, true_and, and_true]; omega) | omega)) q
          rcases res with ⟨u, z1, z2⟩ | ⟨z1, z2⟩
          · refine Or.inl ⟨_, u, cl2 _ z1, fun p0 O => ?_⟩
            obtain ⟨Q, y0, p, y1, y2, y3, y4⟩ := z2 p0 O
            exact ⟨_, p, ml2 p0 (sm _ Q) (by rw [y0]; exact w2) _ y1, rfl, y2, y3, y4⟩
          · exact vec_thw H hm w2 (j := 2) (k := 4) (by decide) (cl2 _ z1) (fun g Q q5 => ⟨0, ml2 g Q q5 _ (z2 _ (ms _ (Q2 g Q)))⟩)
        have wk := W.fk ht hf
        rw [← ei] at wk
        -- a reference of one value
        have refr : ∀ so, (so = 1 ∨ so = 3 ∨ so = 5) → sg 12 i = so → (oK sg so (sg 13 i) ∨ so = 4 ∨ so = 5) → TH h (f_t_set (nI f)) (f_m_set (nI f)) (fun v w => v = w) [(1, 1), (3, 2), (0, 3), (2, 4)] := by
          intro so hso es ok
          obtain ⟨mv1, tt, st, t1, t2, t3, t4, t5⟩ := sgR (by omega)
          have z4 : zO sg so (sg 13 i) = 4 := by unfold zO; rw [if_neg (by omega), if_neg (by omega)]
          have a4 : aO sg so (sg 13 i) = 4 := by unfold aO; rw [if_neg (by omega), if_neg (by omega)]
          have tc3 := b3.1
          obtain ⟨N, hN⟩ : ∃ N, N = rU (n + zO sg so (sg 13 i)) (aO sg so (sg 13 i)) := ⟨_, rfl⟩
          have nN : n + 4 ≤ N := by rw [hN, z4, a4]; exact (rU_f (by omega)).1
          refine put (fun z => by omega) ?_
          rw [es]
          refine set_put (EB := fun j => v8 (lN (N - st)) j) H hm C M W b1 b2 b3 b4 ht hf f16 ei e7 e10 e67 e11 e68 lon fl sl es rfl rfl (by omega) ok hN ?_ ?_
          · intro c4 u Fu zu
            have Lu : LY u := by rw [Fu.ly]; exact L0
            rw [z4]
            exact e_u_contentR (h := u) (S := S) (s := N) (so := so) (i := 0) (tt := tt) (st := st) Lu (by omega) (by decide) (by rw [Fu.hj (by decide)]; exact t2) (by rw [Fu.at (by simp [uP])]; exact t4) (by omega) (by omega) (by omega)
          · intro c4 g0 g Q Fg e
            rw [z4] at e ⊢
            obtain ⟨g2, y1, G1, y2, y3, y4⟩ := e_m_ref (t := tt) (st := st) e (by rw [Fg.at (by simp [mW]), Q.1 1303 (by decide) (by decide)]; exact t5) (by omega) (by omega) (by omega)
            rw [show N - 4 + 4 = N by omega] at y2 y4
            refine ⟨g2, ?_, G1, y2, y3, y4⟩
            refine o_pos (show ¬ nI so = nI 0 by (first | (simp (maxSteps := 4000000) (disch := omega) only [n_0, n_1, n_2, n_3, n_4, n_5, n_6, n_7, n_8, n_9, n_10, n_11, n_12, n_13, n_14, n_15, n_16, n_18, n_20, n_24, n_31, n_32, n_34, n_40, n_41, n_44, n_45, n_47, n_48, n_57, n_58, n_59, n_61, n_63, n_64, n_65, n_68, n_90, n_91, n_93, n_95, n_97, n_100, n_122, n_123, n_125, n_128, n_144, n_200, n_255, n_256, n_300, n_400, n_600, n_1536, n_3980, n_4000, n_4001, n_4300, n_65536, l_0, l_1, l_2, l_3, l_4, l_10, l_48, l_63, l_255, l_300, nI_ltI, nI_leI, nI_eq, nI_clamp, nI_add, pk_sub, pk_mul, nI_ne1, ne1_nI, nI_pge, nI_nlt0, nI_l, lN_i, lN_add, lN_mul, lN_sub, pk_lLT, pk_lLE, pk_lEQ, lg_lt, lg_ge, lg_eq0, lg_le, lg_gt, lg_ltn, lg_gen, lg_eq0n, lg_len, lg_gtn, Nat.zero_le, Nat.not_lt_zero, not_false_eq_true, not_true_eq_false, true_and, and_true]; done) | (simp (maxSteps := 4000000) (disch := omega) only [n_0, n_1, n_2, n_3, n_4, n_5, n_6, n_7, n_8, n_9, n_10, n_11, n_12, n_13, n_14, n_15, n_16, n_18, n_20, n_24, n_31, n_32, n_34, n_40, n_41, n_44, n_45, n_47, n_48, n_57, n_58, n_59, n_61, n_63, n_64, n_65, n_68, n_90, n_91, n_93, n_95, n_97, n_100, n_122, n_123, n_125, n_128, n_144, n_200, n_255, n_256, n_300, n_400, n_600, n_1536, n_3980, n_4000, n_4001, n_4300, n_65536, l_0, l_1, l_2, l_3, l_4, l_10, l_48, l_63, l_255, l_300, nI_ltI, nI_leI, nI_eq, nI_clamp, nI_add, pk_sub, pk_mul, nI_ne1, ne1_nI, nI_pge, nI_nlt0, nI_l, lN_i, lN_add, lN_mul, lN_sub, pk_lLT, pk_lLE, pk_lEQ, lg_lt, lg_ge, lg_eq0, lg_le, lg_gt, lg_ltn, lg_gen, lg_eq0n, lg_len, lg_gtn, Nat.zero_le, Nat.not_lt_zero, not_false_eq_true, not_true_eq_false, true_and, and_true]; omega) | omega)) (o_pos (show ¬ nI so = nI 2 by (first | (simp (maxSteps := 4000000) (disch := omega) only [n_0, n_1, n_2, n_3, n_4, n_5, n_6, n_7, n_8, n_9, n_10, n_11, n_12, n_13, n_14, n_15, n_16, n_18, n_20, n_24, n_31, n_32, n_34, n_40, n_41, n_44, n_45, n_47, n_48, n_57, n_58, n_59, n_61, n_63, n_64, n_65, n_68, n_90, n_91, n_93, n_95, n_97, n_100, n_122, n_123, n_125, n_128, n_144, n_200, n_255, n_256, n_300, n_400, n_600, n_1536, n_3980, n_4000, n_4001, n_4300, n_65536, l_0, l_1, l_2, l_3, l_4, l_10, l_48, l_63, l_255, l_300, nI_ltI, nI_leI, nI_eq, nI_clamp, nI_add, pk_sub, pk_mul, nI_ne1, ne1_nI, nI_pge, nI_nlt0, nI_l, lN_i, lN_add, lN_mul, lN_sub, pk_lLT, pk_lLE, pk_lEQ, lg_lt, lg_ge, lg_eq0, lg_le, lg_gt, lg_ltn, lg_gen, lg_eq0n, lg_len, lg_gtn, Nat.zero_le, Nat.not_lt_zero, not_false_eq_true, not_true_eq_false, true_and, and_true]; done) | (simp (maxSteps := 4000000) (disch := omega) only [n_0, n_1, n_2, n_3, n_4, n_5, n_6, n_7, n_8, n_9, n_10, n_11, n_12, n_13, n_14, n_15, n_16, n_18, n_20, n_24, n_31, n_32, n_34, n_40, n_41, n_44, n_45, n_47, n_48, n_57, n_58, n_59, n_61, n_63, n_64, n_65, n_68, n_90, n_91, n_93, n_95, n_97, n_100, n_122, n_123, n_125, n_128, n_144, n_200, n_255, n_256, n_300, n_400, n_600, n_1536, n_3980, n_4000, n_4001, n_4300, n_65536, l_0, l_1, l_2, l_3, l_4, l_10, l_48, l_63, l_255, l_300, nI_ltI, nI_leI, nI_eq, nI_clamp, nI_add, pk_sub, pk_mul, nI_ne1, ne1_nI, nI_pge, nI_nlt0, nI_l, lN_i, lN_add, lN_mul, lN_sub, pk_lLT, pk_lLE, pk_lEQ, lg_lt, lg_ge, lg_eq0, lg_le, lg_gt, lg_ltn, lg_gen, lg_eq0n, lg_len, lg_gtn, Nat.zero_le, Nat.not_lt_zero, not_false_eq_true, not_true_eq_false, true_and, and_true]; omega) | omega)) (o_pos (show ¬ nI so = nI 4 by (first | (simp (maxSteps := 4000000) (disch := omega) only [n_0, n_1, n_2, n_3, n_4, n_5, n_6, n_7, n_8, n_9, n_10, n_11, n_12, n_13, n_14, n_15, n_16, n_18, n_20, n_24, n_31, n_32, n_34, n_40, n_41, n_44, n_45, n_47, n_48, n_57, n_58, n_59, n_61, n_63, n_64, n_65, n_68, n_90, n_91, n_93, n_95, n_97, n_100, n_122, n_123, n_125, n_128, n_144, n_200, n_255, n_256, n_300, n_400, n_600, n_1536, n_3980, n_4000, n_4001, n_4300, n_65536, l_0, l_1, l_2, l_3, l_4, l_10, l_48, l_63, l_255, l_300, nI_ltI, nI_leI, nI_eq, nI_clamp, nI_add, pk_sub, pk_mul, nI_ne1, ne1_nI, nI_pge, nI_nlt0, nI_l, lN_i, lN_add, lN_mul, lN_sub, pk_lLT, pk_lLE, pk_lEQ, lg_lt, lg_ge, lg_eq0, lg_le, lg_gt, lg_ltn, lg_gen, lg_eq0n, lg_len, lg_gtn, Nat.zero_le, Nat.not_lt_zero, not_false_eq_true, not_true_eq_false, true_and, and_true]; done) | (simp (maxSteps := 4000000) (disch := omega) only [n_0, n_1, n_2, n_3, n_4, n_5, n_6, n_7, n_8, n_9, n_10, n_11, n_12, n_13, n_14, n_15, n_16, n_18, n_20, n_24, n_31, n_32, n_34, n_40, n_41, n_44, n_45, n_47, n_48, n_57, n_58, n_59, n_61, n_63, n_64, n_65, n_68, n_90, n_91, n_93, n_95, n_97, n_100, n_122, n_123, n_125, n_128, n_144, n_200, n_255, n_256, n_300, n_400, n_600, n_1536, n_3980, n_4000, n_4001, n_4300, n_65536, l_0, l_1, l_2, l_3, l_4, l_10, l_48, l_63, l_255, l_300, nI_ltI, nI_leI, nI_eq, nI_clamp, nI_add, pk_sub, pk_mul, nI_ne1, ne1_nI, nI_pge, nI_nlt0, nI_l, lN_i, lN_add, lN_mul, lN_sub, pk_lLT, pk_lLE, pk_lEQ, lg_lt, lg_ge, lg_eq0, lg_le, lg_gt, lg_ltn, lg_gen, lg_eq0n, lg_len, lg_gtn, Nat.zero_le, Nat.not_lt_zero, not_false_eq_true, not_true_eq_false, true_and, and_true]; omega) | omega)) ?_))
            unfold b_m_set_321
            rw [cz, Fg.hj (by decide), Q.2.1 1298 (by decide), show hj (hsi h 5 1 0) 1298 0 = lN tt from (w3 0 (by omega)).symm.trans t2, lN_i]
            exact o_pos (by decide) (o_bind y1 rfl)
        rcases wk with ⟨e4, eo⟩ | ⟨n4, n5, ok⟩ | ⟨es, -, ok⟩
        · obtain ⟨mv2, tt, st, t1, t2, t3, t4, t5⟩ := sg4 e4
          rw [F0.at (by simp)] at t4 t5
          refine put (fun z => by omega) ?_
          rw [e4]
          exact set_uni H hm C M W b1 b2 b3 b4 ht hf f16 ei e7 e10 e67 e11 e68 lon fl sl e4 rfl rfl (w3 0 (by omega)) (w3 1 (by omega)) t1 t2 t3 t4 t5
        · have okk := ok
          rcases ok with ⟨es, eo⟩ | ⟨es, eo⟩ | ⟨es, eo⟩ | ⟨es, eo⟩
          · have mv1 := sg0 es
            by_cases cd : hj h 6 0 = sd i
            · -- what stands in anyway
              obtain ⟨u, hu⟩ : ∃ u, u = hsi (hsi h 5 1 0) 1252 f (vp_nar .boolean 1) := ⟨_, rfl⟩
              have FC : FRM (fun a k => (a = 5 ∧ k = 1) ∨ a = 1252) h u := by rw [hu]; exact (FRM.refl.si (by omega)).si (by omega)
              refine Or.inl ⟨0, u, ?_, fun p0 O => ?_⟩
              · refine cl1 _ (o_neg (not_not_intro cs) (o_bind sC (o_pos one0 (o_pos ⟨f1, f2⟩ ?_))))
                dsimp only
                rw [i3, es]
                refine o_neg (not_not_intro rfl) (o_bind (e_w_at L0 (k := 0) (by decide)) (o_pos ⟨f1, f2⟩ ?_))
                dsimp only
                rw [i8]
                refine o_neg (by rw [lg_eq0]; exact not_not_intro cd) (o_bind (e_u_markSet f16) ?_)
                rw [hu]
              · have Q : MSm h p0 := (FC.ow O).msm (fun a k => by omega)
                have q5 : hi p0 1262 55 = nI mv := by rw [(FC.ow O).at (by omega)]; exact w2
                obtain ⟨p, hp⟩ : ∃ p, p = hsi (hsi (hsi p0 1262 0 0) 1262 55 0) 1306 f (vp_nar .boolean 1) := ⟨_, rfl⟩
                have mo : f_m_set (nI f) p0 = some (0, p) := by
                  obtain ⟨m2, m3, m4, m5, m6, m7⟩ := mfi _ (Q2 p0 Q)
                  refine ml1 p0 Q q5 _ (o_neg (not_not_intro cs) (o_bind (sM _ (ms _ (Q2 p0 Q))) (o_pos one0 ?_)))
                  dsimp only
                  rw [m2, es]
                  refine o_neg (not_not_intro rfl) ?_
                  rw [m7, (Q2 p0 Q).2.1 1298 (by decide), ← w3 0 (by omega)]
                  refine o_neg (by rw [lg_eq0]; exact not_not_intro cd) ?_
                  rw [hp]
                have GM : FRM (fun a k => a = 1306 ∨ (a = 1262 ∧ (k = 0 ∨ k = 55))) p0 p := by rw [hp]; exact ((FRM.refl.si (by omega)).si (by omega)).si (by omega)
                have FA : FRM sP h p := ((FC.ow O).mono (fun a k => by unfold sP; omega)).trans (GM.mono (fun a k => by unfold sP; omega))
                have FA2 : FRM (fun a k => ((a = 5 ∧ k = 1) ∨ a = 1252) ∨ (a = 1306 ∨ (a = 1262 ∧ (k = 0 ∨ k = 55)))) h p := ((FC.ow O).mono (fun a k q => Or.inl q)).trans (GM.mono (fun a k q => Or.inr q))
                obtain ⟨ga, gm, g1, g2, g3, g4, g5⟩ := b2
                have fin := set_fin (p := p) (N := n) (f := f) H b1 b3 b4 ht e7 e10 e67 e11 e68 lon fl FA ⟨Nat.le_refl n, b1.1⟩ (by rw [FA2.at (by omega)]; exact b1.2.1) (by rw [FA2.at (by omega)]; exact b1.2.2.1) (fun k hk' => by rw [FA2.at (by omega), FA2.cbq (by omega)]; exact b1.2.2.2 k hk') (fun k h1 h2 => FA2.cbq (by omega)) ⟨ga, gm, g1, by rw [FA2.at (by omega)]; exact g2, by rw [FA2.at (by omega)]; exact g3, g4, fun q => g5 e7⟩ (fun j hj' => ⟨fun q => ?_, fun q => ?_⟩) (fun s hs => ?_) (by rw [GM.at (by omega), O.hiq, hu, hi_hsi_ne (by decide), hi_at]) (by rw [hp, hi_hsi_ne (by decide), hi_at]) (FA2.at (by omega)) (FA2.at (by omega))
                · exact ⟨0, p, mo, rfl, by rw [hp, hi_hsi_ne (by decide), hi_nk (by decide), hi_at], ⟨S, sg, sd, fin.1⟩, fin.2⟩
                · subst q
                  exact ⟨by rw [GM.at (by omega), O.hiq, hu, hi_at]; rfl, by rw [hp, hi_at]; rfl⟩
                · exact ⟨by rw [GM.at (by omega), O.hiq, hu, hi_nk q, hi_hsi_ne (by decide)], by rw [hp, hi_nk q, hi_hsi_ne (by decide), hi_hsi_ne (by decide), (FC.ow O).at (by omega)]⟩
                · obtain ⟨v, v1, v2, v3⟩ := sl s hs
                  exact ⟨v, by rw [FA2.at (by omega)]; exact v1, by rw [FA2.at (by omega)]; exact v2, v3⟩
            · obtain ⟨N, hN⟩ : ∃ N, N = rU (n + zO sg 0 (sg 13 i)) (aO sg 0 (sg 13 i)) := ⟨_, rfl⟩
              have z0 : zO sg 0 (sg 13 i) = bO (sg 13 i) := rfl
              have bb := bO_le (sg 13 i)
              have nN : n + bO (sg 13 i) ≤ N := by rw [hN]; exact (rU_f (by show bO (sg 13 i) = 1 ∨ bO (sg 13 i) = 2 ∨ bO (sg 13 i) = 4 ∨ bO (sg 13 i) = 8; omega)).1
              refine put (fun _ => cd) ?_
              rw [es]
              refine set_put (EB := fun j => v8 (hj h 6 0) j) H hm C M W b1 b2 b3 b4 ht hf f16 ei e7 e10 e67 e11 e68 lon fl sl es rfl rfl (by decide) (Or.inl (Or.inl ⟨rfl, eo⟩)) hN ?_ ?_
              · intro c4 u Fu zu
                have Lu : LY u := by rw [Fu.ly]; exact L0
                rw [z0]
                have := e_u_content0 (h := u) (S := S) (p := 4000 - N) (o := sg 13 i) (i := 0) Lu eo (by decide) (by omega)
                rw [Fu.hj (by decide)] at this
                exact this
              · intro c4 g0 g Q Fg e
                rw [z0] at e ⊢
                obtain ⟨g2, y1, G1, y2, y3, y4⟩ := e_m_aheadk (v := hj h 6 0) (k := bO (sg 13 i)) e (by omega) (by omega)
                rw [show N - bO (sg 13 i) + bO (sg 13 i) = N by omega] at y2
                refine ⟨g2, o_neg (not_not_intro rfl) ?_, G1, y2, y3, y4⟩
                rw [Fg.hj (by decide), Q.2.1 1298 (by decide)]
                rw [w3 0 (by omega)] at y1
                exact o_bind y1 rfl
          · exact refr 1 (Or.inl rfl) es (Or.inl (Or.inr (Or.inl ⟨rfl, eo⟩)))
          · have mv7 := sg2 es
            have ws := (W.2.1 _ eo).1
            obtain ⟨N, hN⟩ : ∃ N, N = rU (n + zO sg 2 (sg 13 i)) (aO sg 2 (sg 13 i)) := ⟨_, rfl⟩
            have z0 : zO sg 2 (sg 13 i) = sg 2 (sg 13 i) := rfl
            have nN : n + sg 2 (sg 13 i) ≤ N := by rw [hN]; exact (rU_f (by show sg 3 (sg 13 i) = 1 ∨ sg 3 (sg 13 i) = 2 ∨ sg 3 (sg 13 i) = 4 ∨ sg 3 (sg 13 i) = 8; omega)).1
            refine put (fun z => by omega) ?_
            rw [es]
            refine set_put (EB := fun j => sB sg (sg 13 i) (fun l => hj h 6 (0 * sg 7 (sg 13 i) + l)) j (sg 7 (sg 13 i))) H hm C M W b1 b2 b3 b4 ht hf f16 ei e7 e10 e67 e11 e68 lon fl sl es rfl rfl (by decide) (Or.inl (Or.inr (Or.inr (Or.inl ⟨rfl, eo⟩)))) hN ?_ ?_
            · intro c4 u Fu zu
              have Lu : LY u := by rw [Fu.ly]; exact L0
              have scu : SC u S := by rw [Fu.sc]; exact sc
              have Cu : CS u S sg sd := C.cg W scu (fun a h1 h2 => Fu.row (fun k => by unfold uP; omega)) (fun a h1 h2 => Fu.hj (by omega))
              rw [z0] at zu ⊢
              have := e_u_content2 (h := u) (p := 4000 - N) (i := 0) Lu Cu W hS.1 eo (by omega) (by omega) zu
              rw [Fu.hj (by decide)] at this
              exact this
            · intro c4 g0 g Q Fg e
              rw [z0] at e ⊢
              have Mg0 := Q.ms M
              have Mg : MS g sg sd := Mg0.cg (fun a h1 h2 => Fg.row (fun k => by unfold mW; omega)) (Fg.hj (by decide)) ⟨Fg.at (by simp [mW]), Fg.at (by simp [mW]), Fg.at (by simp [mW]), Fg.at (by simp [mW])⟩
              obtain ⟨g2, y1, G1, y2, y3, y4⟩ := e_m_struct (b := 0) Mg W eo (by omega) e (by omega)
              rw [show N - sg 2 (sg 13 i) + sg 2 (sg 13 i) = N by omega] at y2
              refine ⟨g2, o_pos (by decide) (o_neg (not_not_intro rfl) (o_bind y1 rfl)), G1, y2, y3, fun j hj' => ?_⟩
              have := y4 (sg 2 (sg 13 i) - 1 - j) (by omega)
              rw [show sg 2 (sg 13 i) - 1 - (sg 2 (sg 13 i) - 1 - j) = j by omega] at this
              rw [this]
              congr 1
              exact sB_cg _ _ (fun l hl => by rw [Nat.zero_mul, Fg.hj (by decide), Q.2.1 1298 (by decide), Nat.zero_add]; exact (w3 l (by omega)).symm)
          · exact refr 3 (Or.inr (Or.inl rfl)) es (Or.inl (Or.inr (Or.inr (Or.inr ⟨rfl, eo⟩))))
        · exact refr 5 (Or.inr (Or.inr rfl)) es (Or.inr (Or.inr rfl))
    · refine vec_thw H hm w2 (j := 0) (k := 3) (by decide) ?_ (fun g Q q5 => ⟨0, ?_⟩)
      · refine cl1 _ (o_pos cs ?_)
        unfold b_t_set_86
        exact o_pos hm1 rfl
      · exact ml1 g Q q5 _ (o_pos cs rfl)
end SetA
