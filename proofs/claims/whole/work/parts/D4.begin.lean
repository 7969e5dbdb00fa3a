/-! Calls: begin, and a thing looked for -/

section Beg
variable {h g : XH} {S : Nat} {sg : SGT} {sd : Nat → Int64}
theorem OW.hiq {u g : XH} (W : OW u g) (a : Nat) : hi g a = hi u a := by rcases W with q | ⟨w, q⟩ <;> subst q <;> rfl
theorem OW.thi {u g : XH} (W : OW (hthr u) g) {a : Nat} (ha : a < hz u) : hi g a = hi u a := by rw [W.hiq, hthr_hi ha]
theorem TH.no {α β : Type} {c : XH → Option (Sum α Nat × XH)} {m : XH → Option (β × XH)} {eq : α → β → Prop} {ks : List (Nat × Nat)} {hc : XH} {j k : Nat} (H : RA h S sg sd) (hm : hz h < 900000) (F : FRM cP h hc) (hjk : (j, k) ∈ ks) (z1 : c h = some (Sum.inr j, hthr hc)) (z2 : ∀ g1, OW (hthr hc) g1 → (∀ a, a < 1317 → hi g1 a = hi hc a) → ∃ w g2, m g1 = some (w, g2) ∧ FRM cP g1 g2 ∧ hi g2 1262 0 = nI k ∧ (FX cP h g2 → RT g2 ∧ RV g2)) : TH h c m eq ks := by
  refine Or.inr ⟨j, k, _, hjk, z1, fun g1 W => ?_⟩
  obtain ⟨w, g2, y1, y2, y3, y4⟩ := z2 g1 W (fun a ha => W.thi (by rw [F.1.1]; exact Nat.lt_of_lt_of_le ha H.1.1))
  have X := F.fxt H.1 hm W y2
  exact ⟨w, g2, y1, y3, ⟨S, sg, sd, H.kept X (y4 X).1 (y4 X).2⟩, X.2.2.2.2⟩
theorem FX.tv (X : FX cP h g) (H : RA h S sg sd) (e1 : hi g 1 1 = hi h 1 1) (e2 : hi g 1262 2 = hi h 1262 2) (e3 : hi g 5 1 = hi h 5 1) (e4 : hi g 1262 55 = hi h 1262 55) : RT g ∧ RV g :=
  ⟨H.2.2.1.cg e1 e2 (X.row (by omega) (fun k => by unfold cP; omega)) (X.row (by omega) (fun k => by unfold cP; omega)), H.2.2.2.1.cg e3 e4 (X.2.2.2.1 _ (by omega)) (X.2.2.2.1 _ (by omega))⟩
theorem FX.tv0 (X : FX cP h g) (H : RA h S sg sd) (e1 : hi g 1 1 = hi h 1 1) (e2 : hi g 1262 2 = hi h 1262 2) (e3 : hi g 5 1 = 0) (e4 : hi g 1262 55 = 0) : RT g ∧ RV g :=
  ⟨H.2.2.1.cg e1 e2 (X.row (by omega) (fun k => by unfold cP; omega)) (X.row (by omega) (fun k => by unfold cP; omega)), RV.zero e3 e4⟩

theorem uo_l2 : ∀ (r j fuel : Nat) (g0 : XH), j + r = 32 → r < fuel → (∀ s, s < j → hi g0 1253 s = 0) → ∃ g, b_u_open_39 fuel (nI j) g0 = some ((), g) ∧ FRM (fun a _ => a = 1253) g0 g ∧ ∀ s, s < 32 → hi g 1253 s = 0 := by
  intro r
  induction r with
  | zero =>
    intro j fuel g0 e hf q
    obtain ⟨f, rfl, -⟩ := fuel_pos hf
    refine ⟨g0, ?_, FRM.refl, fun s hs => q s (by omega)⟩
    show s_u_open_39 (b_u_open_39 f) _ _ = _
    unfold s_u_open_39
    exact o_pos (show nI 32 ≤ nI j by (first | (simp (maxSteps := 4000000) (disch := omega) only [n_0, n_1, n_2, n_3, n_4, n_5, n_6, n_7, n_8, n_9, n_10, n_11, n_12, n_13, n_14, n_15, n_16, n_18, n_20, n_24, n_31, n_32, n_34, n_40, n_41, n_44, n_45, n_47, n_48, n_57, n_58, n_59, n_61, n_63, n_64, n_65, n_68, n_90, n_91, n_93, n_95, n_97, n_100, n_122, n_123, n_125, n_128, n_144, n_200, n_255, n_256, n_300, n_400, n_600, n_1536, n_3980, n_4000, n_4001, n_4300, n_65536, l_0, l_1, l_2, l_3, l_4, l_10, l_48, l_63, l_255, l_300, nI_ltI, nI_leI, nI_eq, nI_clamp, nI_add, pk_sub, pk_mul, nI_ne1, ne1_nI, nI_pge, nI_nlt0, nI_l, lN_i, lN_add, lN_mul, lN_sub, pk_lLT, pk_lLE, pk_lEQ, lg_lt, lg_ge, lg_eq0, lg_le, lg_gt, lg_ltn, lg_gen, lg_eq0n, lg_len, lg_gtn, Nat.zero_le, Nat.not_lt_zero, not_false_eq_true, not_true_eq_false, true_and, and_true]; done) | (simp (maxSteps := 4000000) (disch := omega) only [n_0, n_1, n_2, n_3, n_4, n_5, n_6, n_7, n_8, n_9, n_10, n_11, n_12, n_13, n_14, n_15, n_16, n_18, n_20, n_24, n_31, n_32, n_34, n_40, n_41, n_44, n_45, n_47, n_48, n_57, n_58, n_59, n_61, n_63, n_64, n_65, n_68, n_90, n_91, n_93, n_95, n_97, n_100, n_122, n_123, n_125, n_128, n_144, n_200, n_255, n_256, n_300, n_400, n_600, n_1536, n_3980, n_4000, n_4001, n_4300, n_65536, l_0, l_1, l_2, l_3, l_4, l_10, l_48, l_63, l_255, l_300, nI_ltI, nI_leI, nI_eq, nI_clamp, nI_add, pk_sub, pk_mul, nI_ne1, ne1_nI, nI_pge, nI_nlt0, nI_l, lN_i, lN_add, lN_mul, lN_sub, pk_lLT, pk_lLE, pk_lEQ, lg_lt, lg_ge, lg_eq0, lg_le, lg_gt, lg_ltn, lg_gen, lg_eq0n, lg_len, lg_gtn, Nat.zero_le, Nat.not_lt_zero, not_false_eq_true, not_true_eq_false, true_and, and_true]; omega) | omega)) rfl
  | succ r ih =>
    intro j fuel g0 e hf q
    obtain ⟨f, rfl, -⟩ := fuel_pos hf
    obtain ⟨g, z1, F, z2⟩ := ih (j + 1) f (hsi g0 1253 j 0) (by omega) (by omega) (fun s hs => by
      by_cases c : s = j
      · rw [c, hi_at]
      · rw [hi_nk c]
        exact q s (by omega))
    refine ⟨g, ?_, (FRM.refl.si (by exact rfl)).trans F, z2⟩
    show s_u_open_39 (b_u_open_39 f) _ _ = _
    unfold s_u_open_39
    refine o_neg (show ¬ nI 32 ≤ nI j by (first | (simp (maxSteps := 4000000) (disch := omega) only [n_0, n_1, n_2, n_3, n_4, n_5, n_6, n_7, n_8, n_9, n_10, n_11, n_12, n_13, n_14, n_15, n_16, n_18, n_20, n_24, n_31, n_32, n_34, n_40, n_41, n_44, n_45, n_47, n_48, n_57, n_58, n_59, n_61, n_63, n_64, n_65, n_68, n_90, n_91, n_93, n_95, n_97, n_100, n_122, n_123, n_125, n_128, n_144, n_200, n_255, n_256, n_300, n_400, n_600, n_1536, n_3980, n_4000, n_4001, n_4300, n_65536, l_0, l_1, l_2, l_3, l_4, l_10, l_48, l_63, l_255, l_300, nI_ltI, nI_leI, nI_eq, nI_clamp, nI_add, pk_sub, pk_mul, nI_ne1, ne1_nI, nI_pge, nI_nlt0, nI_l, lN_i, lN_add, lN_mul, lN_sub, pk_lLT, pk_lLE, pk_lEQ, lg_lt, lg_ge, lg_eq0, lg_le, lg_gt, lg_ltn, lg_gen, lg_eq0n, lg_len, lg_gtn, Nat.zero_le, Nat.not_lt_zero, not_false_eq_true, not_true_eq_false, true_and, and_true]; done) | (simp (maxSteps := 4000000) (disch := omega) only [n_0, n_1, n_2, n_3, n_4, n_5, n_6, n_7, n_8, n_9, n_10, n_11, n_12, n_13, n_14, n_15, n_16, n_18, n_20, n_24, n_31, n_32, n_34, n_40, n_41, n_44, n_45, n_47, n_48, n_57, n_58, n_59, n_61, n_63, n_64, n_65, n_68, n_90, n_91, n_93, n_95, n_97, n_100, n_122, n_123, n_125, n_128, n_144, n_200, n_255, n_256, n_300, n_400, n_600, n_1536, n_3980, n_4000, n_4001, n_4300, n_65536, l_0, l_1, l_2, l_3, l_4, l_10, l_48, l_63, l_255, l_300, nI_ltI, nI_leI, nI_eq, nI_clamp, nI_add, pk_sub, pk_mul, nI_ne1, ne1_nI, nI_pge, nI_nlt0, nI_l, lN_i, lN_add, lN_mul, lN_sub, pk_lLT, pk_lLE, pk_lEQ, lg_lt, lg_ge, lg_eq0, lg_le, lg_gt, lg_ltn, lg_gen, lg_eq0n, lg_len, lg_gtn, Nat.zero_le, Nat.not_lt_zero, not_false_eq_true, not_true_eq_false, true_and, and_true]; omega) | omega)) (o_pos (by (first | (simp (maxSteps := 4000000) (disch := omega) only [n_0, n_1, n_2, n_3, n_4, n_5, n_6, n_7, n_8, n_9, n_10, n_11, n_12, n_13, n_14, n_15, n_16, n_18, n_20, n_24, n_31, n_32, n_34, n_40, n_41, n_44, n_45, n_47, n_48, n_57, n_58, n_59, n_61, n_63, n_64, n_65, n_68, n_90, n_91, n_93, n_95, n_97, n_100, n_122, n_123, n_125, n_128, n_144, n_200, n_255, n_256, n_300, n_400, n_600, n_1536, n_3980, n_4000, n_4001, n_4300, n_65536, l_0, l_1, l_2, l_3, l_4, l_10, l_48, l_63, l_255, l_300, nI_ltI, nI_leI, nI_eq, nI_clamp, nI_add, pk_sub, pk_mul, nI_ne1, ne1_nI, nI_pge, nI_nlt0, nI_l, lN_i, lN_add, lN_mul, lN_sub, pk_lLT, pk_lLE, pk_lEQ, lg_lt, lg_ge, lg_eq0, lg_le, lg_gt, lg_ltn, lg_gen, lg_eq0n, lg_len, lg_gtn, Nat.zero_le, Nat.not_lt_zero, not_false_eq_true, not_true_eq_false, true_and, and_true]; done) | (simp (maxSteps := 4000000) (disch := omega) only [n_0, n_1, n_2, n_3, n_4, n_5, n_6, n_7, n_8, n_9, n_10, n_11, n_12, n_13, n_14, n_15, n_16, n_18, n_20, n_24, n_31, n_32, n_34, n_40, n_41, n_44, n_45, n_47, n_48, n_57, n_58, n_59, n_61, n_63, n_64, n_65, n_68, n_90, n_91, n_93, n_95, n_97, n_100, n_122, n_123, n_125, n_128, n_144, n_200, n_255, n_256, n_300, n_400, n_600, n_1536, n_3980, n_4000, n_4001, n_4300, n_65536, l_0, l_1, l_2, l_3, l_4, l_10, l_48, l_63, l_255, l_300, nI_ltI, nI_leI, nI_eq, nI_clamp, nI_add, pk_sub, pk_mul, nI_ne1, ne1_nI, nI_pge, nI_nlt0, nI_l, lN_i, lN_add, lN_mul, lN_sub, pk_lLT, pk_lLE, pk_lEQ, lg_lt, lg_ge, lg_eq0, lg_le, lg_gt, lg_ltn, lg_gen, lg_eq0n, lg_len, lg_gtn, Nat.zero_le, Nat.not_lt_zero, not_false_eq_true, not_true_eq_false, true_and, and_true]; omega) | omega)) ?_)
    rw [nI_clamp (show j < 2 ^ 31 by omega), n_1, nI_add]
    exact z1
theorem uo_l1 : ∀ (r j fuel : Nat) (g0 : XH), j + r = 16 → r < fuel → (∀ s, s < j → hi g0 1252 s = 0) → ∃ g, b_u_open_15 fuel (nI j) g0 = b_u_open_39 100000 0 g ∧ FRM (fun a _ => a = 1252) g0 g ∧ ∀ s, s < 16 → hi g 1252 s = 0 := by
  intro r
  induction r with
  | zero =>
    intro j fuel g0 e hf q
    obtain ⟨f, rfl, -⟩ := fuel_pos hf
    refine ⟨g0, ?_, FRM.refl, fun s hs => q s (by omega)⟩
    show s_u_open_15 (b_u_open_15 f) _ _ = _
    unfold s_u_open_15
    exact o_pos (show nI 16 ≤ nI j by (first | (simp (maxSteps := 4000000) (disch := omega) only [n_0, n_1, n_2, n_3, n_4, n_5, n_6, n_7, n_8, n_9, n_10, n_11, n_12, n_13, n_14, n_15, n_16, n_18, n_20, n_24, n_31, n_32, n_34, n_40, n_41, n_44, n_45, n_47, n_48, n_57, n_58, n_59, n_61, n_63, n_64, n_65, n_68, n_90, n_91, n_93, n_95, n_97, n_100, n_122, n_123, n_125, n_128, n_144, n_200, n_255, n_256, n_300, n_400, n_600, n_1536, n_3980, n_4000, n_4001, n_4300, n_65536, l_0, l_1, l_2, l_3, l_4, l_10, l_48, l_63, l_255, l_300, nI_ltI, nI_leI, nI_eq, nI_clamp, nI_add, pk_sub, pk_mul, nI_ne1, ne1_nI, nI_pge, nI_nlt0, nI_l, lN_i, lN_add, lN_mul, lN_sub, pk_lLT, pk_lLE, pk_lEQ, lg_lt, lg_ge, lg_eq0, lg_le, lg_gt, lg_ltn, lg_gen, lg_eq0n, lg_len, lg_gtn, Nat.zero_le, Nat.not_lt_zero, not_false_eq_true, not_true_eq_false, true_and, and_true]; done) | (simp (maxSteps := 4000000) (disch := omega) only [n_0, n_1, n_2, n_3, n_4, n_5, n_6, n_7, n_8, n_9, n_10, n_11, n_12, n_13, n_14, n_15, n_16, n_18, n_20, n_24, n_31, n_32, n_34, n_40, n_41, n_44, n_45, n_47, n_48, n_57, n_58, n_59, n_61, n_63, n_64, n_65, n_68, n_90, n_91, n_93, n_95, n_97, n_100, n_122, n_123, n_125, n_128, n_144, n_200, n_255, n_256, n_300, n_400, n_600, n_1536, n_3980, n_4000, n_4001, n_4300, n_65536, l_0, l_1, l_2, l_3, l_4, l_10, l_48, l_63, l_255, l_300, nI_ltI, nI_leI, nI_eq, nI_clamp, nI_add, pk_sub, pk_mul, nI_ne1, ne1_nI, nI_pge, nI_nlt0, nI_l, lN_i, lN_add, lN_mul, lN_sub, pk_lLT, pk_lLE, pk_lEQ, lg_lt, lg_ge, lg_eq0, lg_le, lg_gt, lg_ltn, lg_gen, lg_eq0n, lg_len, lg_gtn, Nat.zero_le, Nat.not_lt_zero, not_false_eq_true, not_true_eq_false, true_and, and_true]; omega) | omega)) rfl
  | succ r ih =>
    intro j fuel g0 e hf q
    obtain ⟨f, rfl, -⟩ := fuel_pos hf
    obtain ⟨g, z1, F, z2⟩ := ih (j + 1) f (hsi g0 1252 j (vp_nar .boolean 0)) (by omega) (by omega) (fun s hs => by
      by_cases c : s = j
      · rw [c, hi_at]; rfl
      · rw [hi_nk c]
        exact q s (by omega))
    refine ⟨g, ?_, (FRM.refl.si (by exact rfl)).trans F, z2⟩
    show s_u_open_15 (b_u_open_15 f) _ _ = _
    unfold s_u_open_15
    refine o_neg (show ¬ nI 16 ≤ nI j by (first | (simp (maxSteps := 4000000) (disch := omega) only [n_0, n_1, n_2, n_3, n_4, n_5, n_6, n_7, n_8, n_9, n_10, n_11, n_12, n_13, n_14, n_15, n_16, n_18, n_20, n_24, n_31, n_32, n_34, n_40, n_41, n_44, n_45, n_47, n_48, n_57, n_58, n_59, n_61, n_63, n_64, n_65, n_68, n_90, n_91, n_93, n_95, n_97, n_100, n_122, n_123, n_125, n_128, n_144, n_200, n_255, n_256, n_300, n_400, n_600, n_1536, n_3980, n_4000, n_4001, n_4300, n_65536, l_0, l_1, l_2, l_3, l_4, l_10, l_48, l_63, l_255, l_300, nI_ltI, nI_leI, nI_eq, nI_clamp, nI_add, pk_sub, pk_mul, nI_ne1, ne1_nI, nI_pge, nI_nlt0, nI_l, lN_i, lN_add, lN_mul, lN_sub, pk_lLT, pk_lLE, pk_lEQ, lg_lt, lg_ge, lg_eq0, lg_le, lg_gt, lg_ltn, lg_gen, lg_eq0n, lg_len, lg_gtn, Nat.zero_le, Nat.not_lt_zero, not_false_eq_true, not_true_eq_false, true_and, and_true]; done) | (simp (maxSteps := 4000000) (disch := omega) only [n_0, n_1, n_2, n_3, n_4, n_5, n_6, n_7, n_8, n_9, n_10, n_11, n_12, n_13, n_14, n_15, n_16, n_18, n_20, n_24, n_31, n_32, n_34, n_40, n_41, n_44, n_45, n_47, n_48, n_57, n_58, n_59, n_61, n_63, n_64, n_65, n_68, n_90, n_91, n_93, n_95, n_97, n_100, n_122, n_123, n_125, n_128, n_144, n_200, n_255, n_256, n_300, n_400, n_600, n_1536, n_3980, n_4000, n_4001, n_4300, n_65536, l_0, l_1, l_2, l_3, l_4, l_10, l_48, l_63, l_255, l_300, nI_ltI, nI_leI, nI_eq, nI_clamp, nI_add, pk_sub, pk_mul, nI_ne1, ne1_nI, nI_pge, nI_nlt0, nI_l, lN_i, lN_add, lN_mul, lN_sub, pk_lLT, pk_lLE, pk_lEQ, lg_lt, lg_ge, lg_eq0, lg_le, lg_gt, lg_ltn, lg_gen, lg_eq0n, lg_len, lg_gtn, Nat.zero_le, Nat.not_lt_zero, not_false_eq_true, not_true_eq_false, true_and, and_true]; omega) | omega)) (o_pos (by (first | (simp (maxSteps := 4000000) (disch := omega) only [n_0, n_1, n_2, n_3, n_4, n_5, n_6, n_7, n_8, n_9, n_10, n_11, n_12, n_13, n_14, n_15, n_16, n_18, n_20, n_24, n_31, n_32, n_34, n_40, n_41, n_44, n_45, n_47, n_48, n_57, n_58, n_59, n_61, n_63, n_64, n_65, n_68, n_90, n_91, n_93, n_95, n_97, n_100, n_122, n_123, n_125, n_128, n_144, n_200, n_255, n_256, n_300, n_400, n_600, n_1536, n_3980, n_4000, n_4001, n_4300, n_65536, l_0, l_1, l_2, l_3, l_4, l_10, l_48, l_63, l_255, l_300, nI_ltI, nI_leI, nI_eq, nI_clamp, nI_add, pk_sub, pk_mul, nI_ne1, ne1_nI, nI_pge, nI_nlt0, nI_l, lN_i, lN_add, lN_mul, lN_sub, pk_lLT, pk_lLE, pk_lEQ, lg_lt, lg_ge, lg_eq0, lg_le, lg_gt, lg_ltn, lg_gen, lg_eq0n, lg_len, lg_gtn, Nat.zero_le, Nat.not_lt_zero, not_false_eq_true, not_true_eq_false, true_and, and_true]; done) | (simp (maxSteps := 4000000) (disch := omega) only [n_0, n_1, n_2, n_3, n_4, n_5, n_6, n_7, n_8, n_9, n_10, n_11, n_12, n_13, n_14, n_15, n_16, n_18, n_20, n_24, n_31, n_32, n_34, n_40, n_41, n_44, n_45, n_47, n_48, n_57, n_58, n_59, n_61, n_63, n_64, n_65, n_68, n_90, n_91, n_93, n_95, n_97, n_100, n_122, n_123, n_125, n_128, n_144, n_200, n_255, n_256, n_300, n_400, n_600, n_1536, n_3980, n_4000, n_4001, n_4300, n_65536, l_0, l_1, l_2, l_3, l_4, l_10, l_48, l_63, l_255, l_300, nI_ltI, nI_leI, nI_eq, nI_clamp, nI_add, pk_sub, pk_mul, nI_ne1, ne1_nI, nI_pge, nI_nlt0, nI_l, lN_i, lN_add, lN_mul, lN_sub, pk_lLT, pk_lLE, pk_lEQ, lg_lt, lg_ge, lg_eq0, lg_le, lg_gt, lg_ltn, lg_gen, lg_eq0n, lg_len, lg_gtn, Nat.zero_le, Nat.not_lt_zero, not_false_eq_true, not_true_eq_false, true_and, and_true]; omega) | omega)) ?_)
    rw [nI_clamp (show j < 2 ^ 31 by omega), n_1, nI_add]
    exact z1
theorem uo_go (g0 : XH) : ∃ g, b_u_open_15 100000 0 g0 = some ((), g) ∧ FRM (fun a _ => a = 1252 ∨ a = 1253) g0 g ∧ (∀ s, s < 16 → hi g 1252 s = 0) ∧ ∀ s, s < 32 → hi g 1253 s = 0 := by
  obtain ⟨g1, z1, F1, z2⟩ := uo_l1 16 0 100000 g0 rfl (by decide) (fun s hs => absurd hs (Nat.not_lt_zero s))
  obtain ⟨g2, y1, F2, y2⟩ := uo_l2 32 0 100000 g1 rfl (by decide) (fun s hs => absurd hs (Nat.not_lt_zero s))
  exact ⟨g2, z1.trans y1, (F1.mono (fun a k q => Or.inl q)).trans (F2.mono (fun a k q => Or.inr q)), fun s hs => by rw [F2.at (by decide)]; exact z2 s hs, y2⟩

theorem mo_l2 : ∀ (r j fuel : Nat) (g0 : XH), j + r = 32 → r < fuel → (∀ s, s < j → hi g0 1307 s = 0) → ∃ g, b_m_begin_73 fuel (nI j) g0 = some ((), g) ∧ FRM (fun a _ => a = 1307) g0 g ∧ ∀ s, s < 32 → hi g 1307 s = 0 := by
  intro r
  induction r with
  | zero =>
    intro j fuel g0 e hf q
    obtain ⟨f, rfl, -⟩ := fuel_pos hf
    refine ⟨g0, ?_, FRM.refl, fun s hs => q s (by omega)⟩
    show s_m_begin_73 (b_m_begin_73 f) _ _ = _
    unfold s_m_begin_73
    exact o_pos (show (32 : Int32) ≤ nI j by (first | (simp (maxSteps := 4000000) (disch := omega) only [n_0, n_1, n_2, n_3, n_4, n_5, n_6, n_7, n_8, n_9, n_10, n_11, n_12, n_13, n_14, n_15, n_16, n_18, n_20, n_24, n_31, n_32, n_34, n_40, n_41, n_44, n_45, n_47, n_48, n_57, n_58, n_59, n_61, n_63, n_64, n_65, n_68, n_90, n_91, n_93, n_95, n_97, n_100, n_122, n_123, n_125, n_128, n_144, n_200, n_255, n_256, n_300, n_400, n_600, n_1536, n_3980, n_4000, n_4001, n_4300, n_65536, l_0, l_1, l_2, l_3, l_4, l_10, l_48, l_63, l_255, l_300, nI_ltI, nI_leI, nI_eq, nI_clamp, nI_add, pk_sub, pk_mul, nI_ne1, ne1_nI, nI_pge, nI_nlt0, nI_l, lN_i, lN_add, lN_mul, lN_sub, pk_lLT, pk_lLE, pk_lEQ, lg_lt, lg_ge, lg_eq0, lg_le, lg_gt, lg_ltn, lg_gen, lg_eq0n, lg_len, lg_gtn, Nat.zero_le, Nat.not_lt_zero, not_false_eq_true, not_true_eq_false, true_and, and_true]; done) | (simp (maxSteps := 4000000) (disch := omega) only [n_0, n_1, n_2, n_3, n_4, n_5, n_6, n_7, n_8, n_9, n_10, n_11, n_12, n_13, n_14, n_15, n_16, n_18, n_20, n_24, n_31, n_32, n_34, n_40, n_41, n_44, n_45, n_47, n_48, n_57, n_58, n_59, n_61, n_63, n_64, n_65, n_68, n_90, n_91, n_93, n_95, n_97, n_100, n_122, n_123, n_125, n_128, n_144, n_200, n_255, n_256, n_300, n_400, n_600, n_1536, n_3980, n_4000, n_4001, n_4300, n_65536, l_0, l_1, l_2, l_3, l_4, l_10, l_48, l_63, l_255, l_300, nI_ltI, nI_leI, nI_eq, nI_clamp, nI_add, pk_sub, pk_mul, nI_ne1, ne1_nI, nI_pge, nI_nlt0, nI_l, lN_i, lN_add, lN_mul, lN_sub, pk_lLT, pk_lLE, pk_lEQ, lg_lt, lg_ge, lg_eq0, lg_le, lg_gt, lg_ltn, lg_gen, lg_eq0n, lg_len, lg_gtn, Nat.zero_le, Nat.not_lt_zero, not_false_eq_true, not_true_eq_false, true_and, and_true]; omega) | omega)) rfl
  | succ r ih =>
    intro j fuel g0 e hf q
    obtain ⟨f, rfl, -⟩ := fuel_pos hf
    obtain ⟨g, z1, F, z2⟩ := ih (j + 1) f (hsi g0 1307 j 0) (by omega) (by omega) (fun s hs => by
      by_cases c : s = j
      · rw [c, hi_at]
      · rw [hi_nk c]
        exact q s (by omega))
    refine ⟨g, ?_, (FRM.refl.si (by exact rfl)).trans F, z2⟩
    show s_m_begin_73 (b_m_begin_73 f) _ _ = _
    unfold s_m_begin_73
    refine o_neg (show ¬ (32 : Int32) ≤ nI j by (first | (simp (maxSteps := 4000000) (disch := omega) only [n_0, n_1, n_2, n_3, n_4, n_5, n_6, n_7, n_8, n_9, n_10, n_11, n_12, n_13, n_14, n_15, n_16, n_18, n_20, n_24, n_31, n_32, n_34, n_40, n_41, n_44, n_45, n_47, n_48, n_57, n_58, n_59, n_61, n_63, n_64, n_65, n_68, n_90, n_91, n_93, n_95, n_97, n_100, n_122, n_123, n_125, n_128, n_144, n_200, n_255, n_256, n_300, n_400, n_600, n_1536, n_3980, n_4000, n_4001, n_4300, n_65536, l_0, l_1, l_2, l_3, l_4, l_10, l_48, l_63, l_255, l_300, nI_ltI, nI_leI, nI_eq, nI_clamp, nI_add, pk_sub, pk_mul, nI_ne1, ne1_nI, nI_pge, nI_nlt0, nI_l, lN_i, lN_add, lN_mul, lN_sub, pk_lLT, pk_lLE, pk_lEQ, lg_lt, lg_ge, lg_eq0, lg_le, lg_gt, lg_ltn, lg_gen, lg_eq0n, lg_len, lg_gtn, Nat.zero_le, Nat.not_lt_zero, not_false_eq_true, not_true_eq_false, true_and, and_true]; done) | (simp (maxSteps := 4000000) (disch := omega) only [n_0, n_1, n_2, n_3, n_4, n_5, n_6, n_7, n_8, n_9, n_10, n_11, n_12, n_13, n_14, n_15, n_16, n_18, n_20, n_24, n_31, n_32, n_34, n_40, n_41, n_44, n_45, n_47, n_48, n_57, n_58, n_59, n_61, n_63, n_64, n_65, n_68, n_90, n_91, n_93, n_95, n_97, n_100, n_122, n_123, n_125, n_128, n_144, n_200, n_255, n_256, n_300, n_400, n_600, n_1536, n_3980, n_4000, n_4001, n_4300, n_65536, l_0, l_1, l_2, l_3, l_4, l_10, l_48, l_63, l_255, l_300, nI_ltI, nI_leI, nI_eq, nI_clamp, nI_add, pk_sub, pk_mul, nI_ne1, ne1_nI, nI_pge, nI_nlt0, nI_l, lN_i, lN_add, lN_mul, lN_sub, pk_lLT, pk_lLE, pk_lEQ, lg_lt, lg_ge, lg_eq0, lg_le, lg_gt, lg_ltn, lg_gen, lg_eq0n, lg_len, lg_gtn, Nat.zero_le, Nat.not_lt_zero, not_false_eq_true, not_true_eq_false, true_and, and_true]; omega) | omega)) (o_pos (by (first | (simp (maxSteps := 4000000) (disch := omega) only [n_0, n_1, n_2, n_3, n_4, n_5, n_6, n_7, n_8, n_9, n_10, n_11, n_12, n_13, n_14, n_15, n_16, n_18, n_20, n_24, n_31, n_32, n_34, n_40, n_41, n_44, n_45, n_47, n_48, n_57, n_58, n_59, n_61, n_63, n_64, n_65, n_68, n_90, n_91, n_93, n_95, n_97, n_100, n_122, n_123, n_125, n_128, n_144, n_200, n_255, n_256, n_300, n_400, n_600, n_1536, n_3980, n_4000, n_4001, n_4300, n_65536, l_0, l_1, l_2, l_3, l_4, l_10, l_48, l_63, l_255, l_300, nI_ltI, nI_leI, nI_eq, nI_clamp, nI_add, pk_sub, pk_mul, nI_ne1, ne1_nI, nI_pge, nI_nlt0, nI_l, lN_i, lN_add, lN_mul, lN_sub, pk_lLT, pk_lLE, pk_lEQ, lg_lt, lg_ge, lg_eq0, lg_le, lg_gt, lg_ltn, lg_gen, lg_eq0n, lg_len, lg_gtn, Nat.zero_le, Nat.not_lt_zero, not_false_eq_true, not_true_eq_false, true_and, and_true]; done) | (simp (maxSteps := 4000000) (disch := omega) only [n_0, n_1, n_2, n_3, n_4, n_5, n_6, n_7, n_8, n_9, n_10, n_11, n_12, n_13, n_14, n_15, n_16, n_18, n_20, n_24, n_31, n_32, n_34, n_40, n_41, n_44, n_45, n_47, n_48, n_57, n_58, n_59, n_61, n_63, n_64, n_65, n_68, n_90, n_91, n_93, n_95, n_97, n_100, n_122, n_123, n_125, n_128, n_144, n_200, n_255, n_256, n_300, n_400, n_600, n_1536, n_3980, n_4000, n_4001, n_4300, n_65536, l_0, l_1, l_2, l_3, l_4, l_10, l_48, l_63, l_255, l_300, nI_ltI, nI_leI, nI_eq, nI_clamp, nI_add, pk_sub, pk_mul, nI_ne1, ne1_nI, nI_pge, nI_nlt0, nI_l, lN_i, lN_add, lN_mul, lN_sub, pk_lLT, pk_lLE, pk_lEQ, lg_lt, lg_ge, lg_eq0, lg_le, lg_gt, lg_ltn, lg_gen, lg_eq0n, lg_len, lg_gtn, Nat.zero_le, Nat.not_lt_zero, not_false_eq_true, not_true_eq_false, true_and, and_true]; omega) | omega)) ?_)
    rw [nI_clamp (show j < 2 ^ 31 by omega), n_1, nI_add]
    exact z1
theorem mo_l1 : ∀ (r j fuel : Nat) (g0 : XH), j + r = 16 → r < fuel → (∀ s, s < j → hi g0 1306 s = 0) → ∃ g, b_m_begin_52 fuel (nI j) g0 = b_m_begin_73 100000 0 g ∧ FRM (fun a _ => a = 1306) g0 g ∧ ∀ s, s < 16 → hi g 1306 s = 0 := by
  intro r
  induction r with
  | zero =>
    intro j fuel g0 e hf q
    obtain ⟨f, rfl, -⟩ := fuel_pos hf
    refine ⟨g0, ?_, FRM.refl, fun s hs => q s (by omega)⟩
    show s_m_begin_52 (b_m_begin_52 f) _ _ = _
    unfold s_m_begin_52
    exact o_pos (show (16 : Int32) ≤ nI j by (first | (simp (maxSteps := 4000000) (disch := omega) only [n_0, n_1, n_2, n_3, n_4, n_5, n_6, n_7, n_8, n_9, n_10, n_11, n_12, n_13, n_14, n_15, n_16, n_18, n_20, n_24, n_31, n_32, n_34, n_40, n_41, n_44, n_45, n_47, n_48, n_57, n_58, n_59, n_61, n_63, n_64, n_65, n_68, n_90, n_91, n_93, n_95, n_97, n_100, n_122, n_123, n_125, n_128, n_144, n_200, n_255, n_256, n_300, n_400, n_600, n_1536, n_3980, n_4000, n_4001, n_4300, n_65536, l_0, l_1, l_2, l_3, l_4, l_10, l_48, l_63, l_255, l_300, nI_ltI, nI_leI, nI_eq, nI_clamp, nI_add, pk_sub, pk_mul, nI_ne1, ne1_nI, nI_pge, nI_nlt0, nI_l, lN_i, lN_add, lN_mul, lN_sub, pk_lLT, pk_lLE, pk_lEQ, lg_lt, lg_ge, lg_eq0, lg_le, lg_gt, lg_ltn, lg_gen, lg_eq0n, lg_len, lg_gtn, Nat.zero_le, Nat.not_lt_zero, not_false_eq_true, not_true_eq_false, true_and, and_true]; done) | (simp (maxSteps := 4000000) (disch := omega) only [n_0, n_1, n_2, n_3, n_4, n_5, n_6, n_7, n_8, n_9, n_10, n_11, n_12, n_13, n_14, n_15, n_16, n_18, n_20, n_24, n_31, n_32, n_34, n_40, n_41, n_44, n_45, n_47, n_48, n_57, n_58, n_59, n_61, n_63, n_64, n_65, n_68, n_90, n_91, n_93, n_95, n_97, n_100, n_122, n_123, n_125, n_128, n_144, n_200, n_255, n_256, n_300, n_400, n_600, n_1536, n_3980, n_4000, n_4001, n_4300, n_65536, l_0, l_1, l_2, l_3, l_4, l_10, l_48, l_63, l_255, l_300, nI_ltI, nI_leI, nI_eq, nI_clamp, nI_add, pk_sub, pk_mul, nI_ne1, ne1_nI, nI_pge, nI_nlt0, nI_l, lN_i, lN_add, lN_mul, lN_sub, pk_lLT, pk_lLE, pk_lEQ, lg_lt, lg_ge, lg_eq0, lg_le, lg_gt, lg_ltn, lg_gen, lg_eq0n, lg_len, lg_gtn, Nat.zero_le, Nat.not_lt_zero, not_false_eq_true, not_true_eq_false, true_and, and_true]; omega) | omega)) rfl
  | succ r ih =>
    intro j fuel g0 e hf q
    obtain ⟨f, rfl, -⟩ := fuel_pos hf
    obtain ⟨g, z1, F, z2⟩ := ih (j + 1) f (hsi g0 1306 j (vp_nar .boolean 0)) (by omega) (by omega) (fun s hs => by
      by_cases c : s = j
      · rw [c, hi_at]; rfl
      · rw [hi_nk c]
        exact q s (by omega))
    refine ⟨g, ?_, (FRM.refl.si (by exact rfl)).trans F, z2⟩
    show s_m_begin_52 (b_m_begin_52 f) _ _ = _
    unfold s_m_begin_52
    refine o_neg (show ¬ (16 : Int32) ≤ nI j by (first | (simp (maxSteps := 4000000) (disch := omega) only [n_0, n_1, n_2, n_3, n_4, n_5, n_6, n_7, n_8, n_9, n_10, n_11, n_12, n_13, n_14, n_15, n_16, n_18, n_20, n_24, n_31, n_32, n_34, n_40, n_41, n_44, n_45, n_47, n_48, n_57, n_58, n_59, n_61, n_63, n_64, n_65, n_68, n_90, n_91, n_93, n_95, n_97, n_100, n_122, n_123, n_125, n_128, n_144, n_200, n_255, n_256, n_300, n_400, n_600, n_1536, n_3980, n_4000, n_4001, n_4300, n_65536, l_0, l_1, l_2, l_3, l_4, l_10, l_48, l_63, l_255, l_300, nI_ltI, nI_leI, nI_eq, nI_clamp, nI_add, pk_sub, pk_mul, nI_ne1, ne1_nI, nI_pge, nI_nlt0, nI_l, lN_i, lN_add, lN_mul, lN_sub, pk_lLT, pk_lLE, pk_lEQ, lg_lt, lg_ge, lg_eq0, lg_le, lg_gt, lg_ltn, lg_gen, lg_eq0n, lg_len, lg_gtn, Nat.zero_le, Nat.not_lt_zero, not_false_eq_true, not_true_eq_false, true_and, and_true]; done) | (simp (maxSteps := 4000000) (disch := omega) only [n_0, n_1, n_2, n_3, n_4, n_5, n_6, n_7, n_8, n_9, n_10, n_11, n_12, n_13, n_14, n_15, n_16, n_18, n_20, n_24, n_31, n_32, n_34, n_40, n_41, n_44, n_45, n_47, n_48, n_57, n_58, n_59, n_61, n_63, n_64, n_65, n_68, n_90, n_91, n_93, n_95, n_97, n_100, n_122, n_123, n_125, n_128, n_144, n_200, n_255, n_256, n_300, n_400, n_600, n_1536, n_3980, n_4000, n_4001, n_4300, n_65536, l_0, l_1, l_2, l_3, l_4, l_10, l_48, l_63, l_255, l_300, nI_ltI, nI_leI, nI_eq, nI_clamp, nI_add, pk_sub, pk_mul, nI_ne1, ne1_nI, nI_pge, nI_nlt0, nI_l, lN_i, lN_add, lN_mul, lN_sub, pk_lLT, pk_lLE, pk_lEQ, lg_lt, lg_ge, lg_eq0, lg_le, lg_gt, lg_ltn, lg_gen, lg_eq0n, lg_len, lg_gtn, Nat.zero_le, Nat.not_lt_zero, not_false_eq_true, not_true_eq_false, true_and, and_true]; omega) | omega)) (o_pos (by (first | (simp (maxSteps := 4000000) (disch := omega) only [n_0, n_1, n_2, n_3, n_4, n_5, n_6, n_7, n_8, n_9, n_10, n_11, n_12, n_13, n_14, n_15, n_16, n_18, n_20, n_24, n_31, n_32, n_34, n_40, n_41, n_44, n_45, n_47, n_48, n_57, n_58, n_59, n_61, n_63, n_64, n_65, n_68, n_90, n_91, n_93, n_95, n_97, n_100, n_122, n_123, n_125, n_128, n_144, n_200, n_255, n_256, n_300, n_400, n_600, n_1536, n_3980, n_4000, n_4001, n_4300, n_65536, l_0, l_1, l_2, l_3, l_4, l_10, l_48, l_63, l_255, l_300, nI_ltI, nI_leI, nI_eq, nI_clamp, nI_add, pk_sub, pk_mul, nI_ne1, ne1_nI, nI_pge, nI_nlt0, nI_l, lN_i, lN_add, lN_mul, lN_sub, pk_lLT, pk_lLE, pk_lEQ, lg_lt, lg_ge, lg_eq0, lg_le, lg_gt, lg_ltn, lg_gen, lg_eq0n, lg_len, lg_gtn, Nat.zero_le, Nat.not_lt_zero, not_false_eq_true, not_true_eq_false, true_and, and_true]; done) | (simp (maxSteps := 4000000) (disch := omega) only [n_0, n_1, n_2, n_3, n_4, n_5, n_6, n_7, n_8, n_9, n_10, n_11, n_12, n_13, n_14, n_15, n_16, n_18, n_20, n_24, n_31, n_32, n_34, n_40, n_41, n_44, n_45, n_47, n_48, n_57, n_58, n_59, n_61, n_63, n_64, n_65, n_68, n_90, n_91, n_93, n_95, n_97, n_100, n_122, n_123, n_125, n_128, n_144, n_200, n_255, n_256, n_300, n_400, n_600, n_1536, n_3980, n_4000, n_4001, n_4300, n_65536, l_0, l_1, l_2, l_3, l_4, l_10, l_48, l_63, l_255, l_300, nI_ltI, nI_leI, nI_eq, nI_clamp, nI_add, pk_sub, pk_mul, nI_ne1, ne1_nI, nI_pge, nI_nlt0, nI_l, lN_i, lN_add, lN_mul, lN_sub, pk_lLT, pk_lLE, pk_lEQ, lg_lt, lg_ge, lg_eq0, lg_le, lg_gt, lg_ltn, lg_gen, lg_eq0n, lg_len, lg_gtn, Nat.zero_le, Nat.not_lt_zero, not_false_eq_true, not_true_eq_false, true_and, and_true]; omega) | omega)) ?_)
    rw [nI_clamp (show j < 2 ^ 31 by omega), n_1, nI_add]
    exact z1
theorem mo_go (g0 : XH) : ∃ g, b_m_begin_52 100000 0 g0 = some ((), g) ∧ FRM (fun a _ => a = 1306 ∨ a = 1307) g0 g ∧ (∀ s, s < 16 → hi g 1306 s = 0) ∧ ∀ s, s < 32 → hi g 1307 s = 0 := by
  obtain ⟨g1, z1, F1, z2⟩ := mo_l1 16 0 100000 g0 rfl (by decide) (fun s hs => absurd hs (Nat.not_lt_zero s))
  obtain ⟨g2, y1, F2, y2⟩ := mo_l2 32 0 100000 g1 rfl (by decide) (fun s hs => absurd hs (Nat.not_lt_zero s))
  exact ⟨g2, z1.trans y1, (F1.mono (fun a k q => Or.inl q)).trans (F2.mono (fun a k q => Or.inr q)), fun s hs => by rw [F2.at (by decide)]; exact z2 s hs, y2⟩

theorem op_begin {x : Int32} (H : RX h) (hm : hz h < 900000) : TH h (f_t_begin x) (f_m_begin x) (fun _ _ => True) [(1, 1), (3, 2)] := by
  obtain ⟨S, sg, sd, H⟩ := H
  have L := H.1
  have hm1 : hz h < 1000000 := by omega
  have sc := H.sc rfl
  have s1 : S < hz h := by have := sc.1; omega
  have k9 : hk h S = 9 := sc.2.2.1
  have ut1 : S + 195 < hz h := by have := sc.1; omega
  have ut2 : hk h (S + 195) = 4 := sc.gT.2.2.2.1
  have r1 := sc.2.2.2.2.1
  have h4 := H.2.1.1
  rcases H.op with ⟨o1, o2⟩ | ⟨t, -, -, -, -, -, o1, o2⟩
  · rcases H.2.2.2.2.2.2.1.lkT sc x with ⟨q1, q2⟩ | ⟨t, ht, ex, e7, W, C, M, NN, q2⟩
    · refine TH.no H hm FRM.refl (j := 3) (k := 2) (by decide) ?_ (fun g1 W rd => ⟨(), hsi (hsi g1 1262 0 0) 1262 0 2, ?_, (FRM.refl.si (by unfold cP; omega)).si (by unfold cP; omega), hi_at, fun X => X.tv H ?_ ?_ ?_ ?_⟩)
      · unfold f_t_begin
        exact o_bind (e_u_isOpen0 o1) (o_pos rfl (o_bind h4 (o_pos ⟨s1, k9⟩ (o_bind r1 (o_pos ⟨ut1, ut2⟩ (o_bind q1 (o_elimn (o_pos hm1 rfl))))))))
      · unfold f_m_begin
        exact o_pos (by rw [rd 1262 (by decide)]; exact o2) (o_bind (q2 _ (by rw [hi_nk (by decide), rd 1262 (by decide)]) (by rw [hi_nk (by decide), rd 1262 (by decide)])) (o_neg (not_not_intro rfl) rfl))
      · rw [hi_hsi_ne (by decide), hi_hsi_ne (by decide), rd 1 (by decide)]
      · rw [hi_nk (by decide), hi_nk (by decide), rd 1262 (by decide)]
      · rw [hi_hsi_ne (by decide), hi_hsi_ne (by decide), rd 5 (by decide)]
      · rw [hi_nk (by decide), hi_nk (by decide), rd 1262 (by decide)]
    · subst ex
      obtain ⟨n, tc, b1, b2, b3, b4, b5⟩ := H.2.2.2.2.2.2.2.1
      obtain ⟨u, y1, F1, y2, y3⟩ := uo_go (hsi (hsi h 1244 10 (nI t)) 1244 11 (hi h 1244 1))
      have cl : f_t_begin (nI t) h = some (Sum.inl (), u) := by
        unfold f_t_begin
        refine o_bind (e_u_isOpen0 o1) (o_pos rfl (o_bind h4 (o_pos ⟨s1, k9⟩ (o_bind r1 (o_pos ⟨ut1, ut2⟩ (o_bind (C.atT W ht) (o_elim (o_bind (v := ((), u)) ?_ rfl))))))))
        unfold f_u_open
        exact y1
      have FC : FRM (fun a k => (a = 1244 ∧ (k = 10 ∨ k = 11)) ∨ a = 1252 ∨ a = 1253) h u := ((FRM.refl.si (by omega)).si (by omega)).trans (F1.mono (fun a k q => Or.inr q))
      refine Or.inl ⟨_, _, cl, fun p0 O => ?_⟩
      have FO := FC.ow O
      have pk : ∀ k, hi p0 1262 k = hi h 1262 k := fun k => FO.at (by omega)
      obtain ⟨p, z1, G1, z2, z3⟩ := mo_go (hsi (hsi (hsi p0 1262 0 0) 1262 67 (nI t)) 1262 68 (nI n))
      have mo : f_m_begin (nI t) p0 = some ((), p) := by
        unfold f_m_begin
        refine o_pos (by rw [pk]; exact o2) (o_bind (q2 _ (by rw [hi_nk (by decide), pk]) (by rw [hi_nk (by decide), pk])) (o_pos one0 ?_))
        dsimp only
        rw [show hi (hsi p0 1262 0 0) 1262 57 = nI n by rw [hi_nk (by decide), pk]; exact b1.2.2.1]
        exact z1
      have GM : FRM (fun a k => (a = 1262 ∧ (k = 0 ∨ k = 67 ∨ k = 68)) ∨ a = 1306 ∨ a = 1307) p0 p := (((FRM.refl.si (by omega)).si (by omega)).si (by omega)).trans (G1.mono (fun a k q => Or.inr q))
      have FA : FRM (fun a k => ((a = 1244 ∧ (k = 10 ∨ k = 11)) ∨ a = 1252 ∨ a = 1253) ∨ ((a = 1262 ∧ (k = 0 ∨ k = 67 ∨ k = 68)) ∨ a = 1306 ∨ a = 1307)) h p := (FO.mono (fun a k q => Or.inl q)).trans (GM.mono (fun a k q => Or.inr q))
      have X := FA.fx L
      have cel : ∀ a k, (a = 1244 ∨ a = 1252 ∨ a = 1253) → hi p a k = hi u a k := fun a k ha => by rw [GM.at (by omega), O.hiq]
      refine ⟨(), p, mo, trivial, ?_, ⟨S, sg, sd, H.bld (X.mono (fun a k => by unfold bP; omega)) (H.2.2.1.fx X ⟨by omega, by omega, fun k => ⟨by omega, by omega⟩⟩) (H.2.2.2.1.fx X ⟨by omega, by omega⟩) ⟨n, tc, ⟨b1.1, ?_, ?_, fun i hi' => ?_⟩, ?_, ?_, ?_, Or.inr ⟨t, n, ht, ?_, ?_, ?_, ?_, ?_, Nat.le_refl n, fun f hf => ?_, fun s hs => ⟨0, ?_, ?_, Nat.zero_le n, fun _ => rfl, Or.inl rfl⟩⟩⟩⟩, X.2.2.2.2⟩
      · rw [G1.at (by omega), hi_nk (by decide), hi_nk (by decide), hi_at]
      · rw [FA.at (by omega)]; exact b1.2.1
      · rw [FA.at (by omega)]; exact b1.2.2.1
      · rw [FA.at (by omega), FA.cbq (by omega)]; exact b1.2.2.2 i hi'
      · obtain ⟨ga, gm, g1, g2, g3, g4, g5⟩ := b2
        exact ⟨ga, gm, g1, by rw [FA.at (by omega)]; exact g2, by rw [FA.at (by omega)]; exact g3, g4, by rw [FA.at (by omega)]; exact g5⟩
      · unfold RBt at b3 ⊢
        rw [FA.at (a := 1244) (k := 7) (by omega), FA.at (a := 1262) (k := 59) (by omega), FA.at (a := 1262) (k := 7) (by omega), FA.row (a := 1247) (by omega), FA.row (a := 1248) (by omega), FA.row (a := 1249) (by omega), FA.row (a := 1250) (by omega), FA.row (a := 1300) (by omega), FA.row (a := 1301) (by omega), FA.row (a := 1302) (by omega), FA.row (a := 1303) (by omega)]
        exact b3
      · unfold RBl at b4 ⊢
        rw [FA.at (a := 1244) (k := 9) (by omega), FA.at (a := 1262) (k := 64) (by omega), FA.row (a := 1251) (by omega), FA.row (a := 1304) (by omega), FA.row (a := 1305) (by omega), cb_cg (FA.row (a := 1246) (by omega))]
        exact b4
      · rw [FA.at (by omega)]; exact e7
      · rw [cel 1244 10 (by omega), F1.at (by omega), hi_nk (by decide), hi_at]
      · rw [G1.at (by omega), hi_nk (by decide), hi_at]
      · rw [cel 1244 11 (by omega), F1.at (by omega), hi_at]; exact b1.2.1
      · rw [G1.at (by omega), hi_at]
      · rw [cel 1252 f (by omega), y2 f hf, z2 f hf]
        exact ⟨rfl, Or.inl rfl⟩
      · rw [cel 1253 s (by omega), y3 s hs]; rfl
      · rw [z3 s hs]; rfl
  · refine TH.no H hm FRM.refl (j := 1) (k := 1) (by decide) ?_ (fun g1 W rd => ⟨(), hsi (hsi g1 1262 0 0) 1262 0 1, ?_, (FRM.refl.si (by unfold cP; omega)).si (by unfold cP; omega), hi_at, fun X => X.tv H ?_ ?_ ?_ ?_⟩)
    · unfold f_t_begin
      exact o_bind (e_u_isOpen1 o1) (o_neg one0 (o_pos hm1 rfl))
    · unfold f_m_begin
      exact o_neg (by rw [rd 1262 (by decide)]; exact o2) rfl
    · rw [hi_hsi_ne (by decide), hi_hsi_ne (by decide), rd 1 (by decide)]
    · rw [hi_nk (by decide), hi_nk (by decide), rd 1262 (by decide)]
    · rw [hi_hsi_ne (by decide), hi_hsi_ne (by decide), rd 5 (by decide)]
    · rw [hi_nk (by decide), hi_nk (by decide), rd 1262 (by decide)]
/-- a long is below nothing, no less than n, or a place below n -/
theorem x64 (x : Int64) (n : Nat) (hn' : n < 2 ^ 31) : x < 0 ∨ lN n ≤ x ∨ ∃ j : Nat, j < n ∧ x = lN j := by
  by_cases c : x < 0
  · exact Or.inl c
  · by_cases c2 : lN n ≤ x
    · exact Or.inr (Or.inl c2)
    · have d1 : 0 ≤ x.toInt := by
        have this : ¬ x.toInt < (0 : Int64).toInt := fun z => c (Int64.lt_iff_toInt_lt.mpr z)
        have e0 : (0 : Int64).toInt = 0 := by decide
        rw [e0] at this
        omega
      have d2 : x.toInt < n := by
        have this : ¬ (lN n).toInt ≤ x.toInt := fun z => c2 (Int64.le_iff_toInt_le.mpr z)
        rw [pk_lT (by omega)] at this
        omega
      refine Or.inr (Or.inr ⟨x.toInt.toNat, by omega, Int64.toInt_inj.mp ?_⟩)
      rw [pk_lT (by omega)]
      omega
/-- a thing looked for, on both sides -/
theorem isThing2 {n tc : Nat} (b : RBt h n tc sg) (v : Int64) (x y z : Int32) : ∃ r : Int32, (r = 0 ∨ r = 1) ∧ f_u_isThing v x y z h = some (r, h) ∧ (∀ g, hi g 1262 59 = nI tc → (∀ t, t < tc → hi g 1300 t = hi h 1247 t ∧ hi g 1301 t = hi h 1249 t ∧ hi g 1302 t = hi h 1248 t) → f_m_isThing v x z y g = some (r, g)) ∧ (r = 1 → ∃ t so st : Nat, t < tc ∧ v = lN t ∧ x = nI so ∧ (so = 1 ∨ so = 3 ∨ so = 5) ∧ 0 < st ∧ st ≤ n ∧ hi h 1250 t = nI st ∧ hi h 1303 t = nI st ∧ (so = 3 → hi h 1262 7 = 1)) := by
  obtain ⟨t3, e7, e59, al⟩ := b
  have l0 : (0 : Int64) = lN 0 := rfl
  unfold f_u_isThing f_m_isThing
  rw [e7, nI_l (show tc < 2 ^ 31 by omega)]
  rcases x64 v tc (by omega) with c | c | ⟨t, ht, ev⟩
  · exact ⟨0, Or.inl rfl, o_pos (by rw [lg_lt]; exact c) rfl, fun g _ _ => o_pos (by rw [lg_lt]; exact c) rfl, fun q => absurd q (by decide)⟩
  · by_cases c0 : v < 0
    · exact ⟨0, Or.inl rfl, o_pos (by rw [lg_lt]; exact c0) rfl, fun g _ _ => o_pos (by rw [lg_lt]; exact c0) rfl, fun q => absurd q (by decide)⟩
    · refine ⟨0, Or.inl rfl, o_neg (by rw [lg_lt]; exact c0) (o_pos (by rw [lg_ge]; exact c) rfl), fun g e _ => o_neg (by rw [lg_lt]; exact c0) ?_, fun q => absurd q (by decide)⟩
      rw [e, nI_l (show tc < 2 ^ 31 by omega)]
      exact o_neg (by rw [lg_lt]; exact Int64.not_lt.mpr c) rfl
  · subst ev
    have n0 : ¬ lN t < 0 := by rw [l0, pk_lLT (by omega) (by omega)]; omega
    obtain ⟨so, st, a1, a2, a3, a4, a5, a6, a7, a8, a9, a10⟩ := al t ht
    have sU : ∀ X : Option (Int32 × XH), (if ¬ (hi h 1247 t) = x then (some (0, h)) else (if ¬ (hi h 1248 t) = y then (some (0, h)) else (if ¬ (hi h 1249 t) = z then (some (0, h)) else (some (1, h))))) = X → (if (lg_cmp (lN t) (0 : Int64)) < 0 then (some (0, h)) else (if 0 ≤ (lg_cmp (lN t) (lN tc)) then (some (0, h)) else (if (lg_cmp (lN t) (300 : Int64)) < 0 then (if 0 ≤ (Int64.toInt32 (lN t)) ∧ (Int64.toInt32 (lN t)) < nI 300 then (if ¬ (hi h 1247 (Int32.toNatClampNeg (Int64.toInt32 (lN t)))) = x then (some (0, h)) else (if ¬ (hi h 1248 (Int32.toNatClampNeg (Int64.toInt32 (lN t)))) = y then (some (0, h)) else (if ¬ (hi h 1249 (Int32.toNatClampNeg (Int64.toInt32 (lN t)))) = z then (some (0, h)) else (some (1, h))))) else none) else (some ((0 : Int32), h))))) = X := by
      intro X q
      refine o_neg (by rw [lg_lt]; exact n0) (o_neg (by rw [lg_ge, pk_lLE (by omega) (by omega)]; omega) (o_pos (by rw [lg_lt, l_300, pk_lLT (by omega) (by omega)]; omega) (o_pos (by rw [lN_i]; (first | (simp (maxSteps := 4000000) (disch := omega) only [n_0, n_1, n_2, n_3, n_4, n_5, n_6, n_7, n_8, n_9, n_10, n_11, n_12, n_13, n_14, n_15, n_16, n_18, n_20, n_24, n_31, n_32, n_34, n_40, n_41, n_44, n_45, n_47, n_48, n_57, n_58, n_59, n_61, n_63, n_64, n_65, n_68, n_90, n_91, n_93, n_95, n_97, n_100, n_122, n_123, n_125, n_128, n_144, n_200, n_255, n_256, n_300, n_400, n_600, n_1536, n_3980, n_4000, n_4001, n_4300, n_65536, l_0, l_1, l_2, l_3, l_4, l_10, l_48, l_63, l_255, l_300, nI_ltI, nI_leI, nI_eq, nI_clamp, nI_add, pk_sub, pk_mul, nI_ne1, ne1_nI, nI_pge, nI_nlt0, nI_l, lN_i, lN_add, lN_mul, lN_sub, pk_lLT, pk_lLE, pk_lEQ, lg_lt, lg_ge, lg_eq0, lg_le, lg_gt, lg_ltn, lg_gen, lg_eq0n, lg_len, lg_gtn, Nat.zero_le, Nat.not_lt_zero, not_false_eq_true, not_true_eq_false, true_and, and_true]; done) | (simp (maxSteps := 4000000) (disch := omega) only [n_0, n_1, n_2, n_3, n_4, n_5, n_6, n_7, n_8, n_9, n_10, n_11, n_12, n_13, n_14, n_15, n_16, n_18, n_20, n_24, n_31, n_32, n_34, n_40, n_41, n_44, n_45, n_47, n_48, n_57, n_58, n_59, n_61, n_63, n_64, n_65, n_68, n_90, n_91, n_93, n_95, n_97, n_100, n_122, n_123, n_125, n_128, n_144, n_200, n_255, n_256, n_300, n_400, n_600, n_1536, n_3980, n_4000, n_4001, n_4300, n_65536, l_0, l_1, l_2, l_3, l_4, l_10, l_48, l_63, l_255, l_300, nI_ltI, nI_leI, nI_eq, nI_clamp, nI_add, pk_sub, pk_mul, nI_ne1, ne1_nI, nI_pge, nI_nlt0, nI_l, lN_i, lN_add, lN_mul, lN_sub, pk_lLT, pk_lLE, pk_lEQ, lg_lt, lg_ge, lg_eq0, lg_le, lg_gt, lg_ltn, lg_gen, lg_eq0n, lg_len, lg_gtn, Nat.zero_le, Nat.not_lt_zero, not_false_eq_true, not_true_eq_false, true_and, and_true]; omega) | omega)) ?_)))
      rw [lN_i, nI_clamp (show t < 2 ^ 31 by omega)]
      exact q
    have sM : ∀ g : XH, hi g 1262 59 = nI tc → (hi g 1300 t = hi h 1247 t ∧ hi g 1301 t = hi h 1249 t ∧ hi g 1302 t = hi h 1248 t) → ∀ X : Option (Int32 × XH), (if ¬ (hi h 1247 t) = x then (some (0, g)) else (if ¬ (hi h 1249 t) = z then (some (0, g)) else (if ¬ (hi h 1248 t) = y then (some (0, g)) else (some (1, g))))) = X → (if (lg_cmp (lN t) (0 : Int64)) < 0 then (some (0, g)) else (if (lg_cmp (lN t) (Int32.toInt64 (hi g 1262 59))) < 0 then (if 0 ≤ (Int64.toInt32 (lN t)) ∧ (Int64.toInt32 (lN t)) < nI 300 then (if ¬ (hi g 1300 (Int32.toNatClampNeg (Int64.toInt32 (lN t)))) = x then (some (0, g)) else (if ¬ (hi g 1301 (Int32.toNatClampNeg (Int64.toInt32 (lN t)))) = z then (some (0, g)) else (if ¬ (hi g 1302 (Int32.toNatClampNeg (Int64.toInt32 (lN t)))) = y then (some (0, g)) else (some (1, g))))) else none) else (some ((0 : Int32), g)))) = X := by
      intro g e ⟨w1, w2, w3⟩ X q
      rw [e, nI_l (show tc < 2 ^ 31 by omega)]
      refine o_neg (by rw [lg_lt]; exact n0) (o_pos (by rw [lg_lt, pk_lLT (by omega) (by omega)]; exact ht) (o_pos (by rw [lN_i]; (first | (simp (maxSteps := 4000000) (disch := omega) only [n_0, n_1, n_2, n_3, n_4, n_5, n_6, n_7, n_8, n_9, n_10, n_11, n_12, n_13, n_14, n_15, n_16, n_18, n_20, n_24, n_31, n_32, n_34, n_40, n_41, n_44, n_45, n_47, n_48, n_57, n_58, n_59, n_61, n_63, n_64, n_65, n_68, n_90, n_91, n_93, n_95, n_97, n_100, n_122, n_123, n_125, n_128, n_144, n_200, n_255, n_256, n_300, n_400, n_600, n_1536, n_3980, n_4000, n_4001, n_4300, n_65536, l_0, l_1, l_2, l_3, l_4, l_10, l_48, l_63, l_255, l_300, nI_ltI, nI_leI, nI_eq, nI_clamp, nI_add, pk_sub, pk_mul, nI_ne1, ne1_nI, nI_pge, nI_nlt0, nI_l, lN_i, lN_add, lN_mul, lN_sub, pk_lLT, pk_lLE, pk_lEQ, lg_lt, lg_ge, lg_eq0, lg_le, lg_gt, lg_ltn, lg_gen, lg_eq0n, lg_len, lg_gtn, Nat.zero_le, Nat.not_lt_zero, not_false_eq_true, not_true_eq_false, true_and, and_true]; done) | (simp (maxSteps := 4000000) (disch := omega) only [n_0, n_1, n_2, n_3, n_4, n_5, n_6, n_7, n_8, n_9, n_10, n_11, n_12, n_13, n_14, n_15, n_16, n_18, n_20, n_24, n_31, n_32, n_34, n_40, n_41, n_44, n_45, n_47, n_48, n_57, n_58, n_59, n_61, n_63, n_64, n_65, n_68, n_90, n_91, n_93, n_95, n_97, n_100, n_122, n_123, n_125, n_128, n_144, n_200, n_255, n_256, n_300, n_400, n_600, n_1536, n_3980, n_4000, n_4001, n_4300, n_65536, l_0, l_1, l_2, l_3, l_4, l_10, l_48, l_63, l_255, l_300, nI_ltI, nI_leI, nI_eq, nI_clamp, nI_add, pk_sub, pk_mul, nI_ne1, ne1_nI, nI_pge, nI_nlt0, nI_l, lN_i, lN_add, lN_mul, lN_sub, pk_lLT, pk_lLE, pk_lEQ, lg_lt, lg_ge, lg_eq0, lg_le, lg_gt, lg_ltn, lg_gen, lg_eq0n, lg_len, lg_gtn, Nat.zero_le, Nat.not_lt_zero, not_false_eq_true, not_true_eq_false, true_and, and_true]; omega) | omega)) ?_))
      rw [lN_i, nI_clamp (show t < 2 ^ 31 by omega), w1, w2, w3]
      exact q
    by_cases c1 : hi h 1247 t = x
    · by_cases c2 : hi h 1248 t = y
      · by_cases c3 : hi h 1249 t = z
        · refine ⟨1, Or.inr rfl, sU _ (o_neg (not_not_intro c1) (o_neg (not_not_intro c2) (o_neg (not_not_intro c3) rfl))), fun g e w => sM g e (w t ht) _ (o_neg (not_not_intro c1) (o_neg (not_not_intro c3) (o_neg (not_not_intro c2) rfl))), fun _ => ⟨t, so, st, ht, rfl, ?_, a1, a2, a3, a8, a9, a10⟩⟩
          rw [← c1, a4]
        · exact ⟨0, Or.inl rfl, sU _ (o_neg (not_not_intro c1) (o_neg (not_not_intro c2) (o_pos c3 rfl))), fun g e w => sM g e (w t ht) _ (o_neg (not_not_intro c1) (o_pos c3 rfl)), fun q => absurd q (by decide)⟩
      · refine ⟨0, Or.inl rfl, sU _ (o_neg (not_not_intro c1) (o_pos c2 rfl)), fun g e w => sM g e (w t ht) _ (o_neg (not_not_intro c1) ?_), fun q => absurd q (by decide)⟩
        by_cases c3 : hi h 1249 t = z
        · exact o_neg (not_not_intro c3) (o_pos c2 rfl)
        · exact o_pos c3 rfl
    · exact ⟨0, Or.inl rfl, sU _ (o_pos c1 rfl), fun g e w => sM g e (w t ht) _ (o_pos c1 rfl), fun q => absurd q (by decide)⟩
end Beg
