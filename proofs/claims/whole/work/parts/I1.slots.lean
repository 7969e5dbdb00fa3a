/-! The parsers: slots -/

def slq (v : Nat → Int32) : Nat → Nat
  | 0 => 0
  | f + 1 => slq v f + (if v f = 4 then 2 else 1)
theorem slq_le (v : Nat → Int32) : ∀ f, slq v f ≤ 2 * f := by
  intro f
  induction f with
  | zero => exact Nat.le_refl 0
  | succ f ih =>
    show slq v f + (if v f = 4 then 2 else 1) ≤ 2 * (f + 1)
    split <;> omega
theorem slq_cg {v w : Nat → Int32} : ∀ n, (∀ f, f < n → v f = w f) → slq v n = slq w n := by
  intro n
  induction n with
  | zero => intro _; rfl
  | succ n ih =>
    intro e
    show slq v n + (if v n = 4 then 2 else 1) = slq w n + (if w n = 4 then 2 else 1)
    rw [ih fun f hf => e f (by omega), e n (by omega)]
theorem slq_mono (v : Nat → Int32) {f : Nat} : ∀ n, f < n → slq v f + (if v f = 4 then 2 else 1) ≤ slq v n := by
  intro n
  induction n with
  | zero => intro z; omega
  | succ n ih =>
    intro z
    show _ ≤ slq v n + (if v n = 4 then 2 else 1)
    by_cases c : f = n
    · rw [c]; exact Nat.le_refl _
    · have := ih (by omega)
      omega
section Sl2
variable {t S nt : Nat}
theorem slM_in {K : Int32 → XH → Option (Unit × XH)} {s n : Nat} {v : Nat → Int32} (s16 : s < 16) (n16 : n ≤ 16) : ∀ (m f fuel : Nat) (h : XH), f + m = n → m < fuel → hi h 1283 s = nI n → (∀ f, f < n → hi h 1286 (16 * s + f) = v f) → ∃ p, b_m_resolve_241 K fuel (nI s) (nI (slq v f)) (nI (16 * s + f)) h = K (nI (s + 1)) p ∧ FRX (fun a k => (a = 1284 ∧ k = s) ∨ (a = 1289 ∧ 16 * s + f ≤ k ∧ k < 16 * s + 16)) nW nW h p ∧ hi p 1284 s = nI (slq v n) ∧ ∀ f', f ≤ f' → f' < n → hi p 1289 (16 * s + f') = nI (slq v f') := by
  have sk : 0 ≤ nI s ∧ nI s < nI 16 := ⟨nI_pos' (by omega), by (first | (simp (maxSteps := 4000000) (disch := omega) only [n_0, n_1, n_2, n_3, n_4, n_5, n_6, n_7, n_8, n_9, n_10, n_11, n_12, n_13, n_14, n_15, n_16, n_18, n_20, n_24, n_31, n_32, n_34, n_40, n_41, n_44, n_45, n_47, n_48, n_57, n_58, n_59, n_61, n_63, n_64, n_65, n_68, n_90, n_91, n_93, n_95, n_97, n_100, n_122, n_123, n_125, n_128, n_144, n_200, n_255, n_256, n_300, n_400, n_600, n_1536, n_3980, n_4000, n_4001, n_4300, n_65536, l_0, l_1, l_2, l_3, l_4, l_10, l_48, l_63, l_255, l_300, nI_ltI, nI_leI, nI_eq, nI_clamp, nI_add, pk_sub, pk_mul, nI_ne1, ne1_nI, nI_pge, nI_nlt0, nI_l, lN_i, lN_add, lN_mul, lN_sub, pk_lLT, pk_lLE, pk_lEQ, lg_lt, lg_ge, lg_eq0, lg_le, lg_gt, lg_ltn, lg_gen, lg_eq0n, lg_len, lg_gtn, Nat.zero_le, Nat.not_lt_zero, not_false_eq_true, not_true_eq_false, true_and, and_true]; done) | (simp (maxSteps := 4000000) (disch := omega) only [n_0, n_1, n_2, n_3, n_4, n_5, n_6, n_7, n_8, n_9, n_10, n_11, n_12, n_13, n_14, n_15, n_16, n_18, n_20, n_24, n_31, n_32, n_34, n_40, n_41, n_44, n_45, n_47, n_48, n_57, n_58, n_59, n_61, n_63, n_64, n_65, n_68, n_90, n_91, n_93, n_95, n_97, n_100, n_122, n_123, n_125, n_128, n_144, n_200, n_255, n_256, n_300, n_400, n_600, n_1536, n_3980, n_4000, n_4001, n_4300, n_65536, l_0, l_1, l_2, l_3, l_4, l_10, l_48, l_63, l_255, l_300, nI_ltI, nI_leI, nI_eq, nI_clamp, nI_add, pk_sub, pk_mul, nI_ne1, ne1_nI, nI_pge, nI_nlt0, nI_l, lN_i, lN_add, lN_mul, lN_sub, pk_lLT, pk_lLE, pk_lEQ, lg_lt, lg_ge, lg_eq0, lg_le, lg_gt, lg_ltn, lg_gen, lg_eq0n, lg_len, lg_gtn, Nat.zero_le, Nat.not_lt_zero, not_false_eq_true, not_true_eq_false, true_and, and_true]; omega) | omega)⟩
  have cs : (nI s).toNatClampNeg = s := nI_clamp (by omega)
  intro m
  induction m with
  | zero =>
    intro f fuel h e hf e83 hv
    obtain ⟨fu, rfl, -⟩ := fuel_pos hf
    have ef : f = n := by omega
    subst ef
    refine ⟨hsi h 1284 s (nI (slq v f)), ?_, FRX.refl.si (Or.inl ⟨rfl, rfl⟩), hi_at, fun f' h1 h2 => by omega⟩
    show s_m_resolve_241 K (b_m_resolve_241 K fu) _ _ _ _ = _
    unfold s_m_resolve_241
    rw [cs, e83, n_16, pk_mul, nI_add, n_1, nI_add]
    exact o_pos sk (o_pos (Int32.le_refl _) rfl)
  | succ m ih =>
    intro f fuel h e hf e83 hv
    obtain ⟨fu, rfl, -⟩ := fuel_pos hf
    obtain ⟨h1, eh⟩ : ∃ h1, h1 = hsi h 1289 (16 * s + f) (nI (slq v f)) := ⟨_, rfl⟩
    obtain ⟨p, p1, p2, p3, p4⟩ := ih (f + 1) fu h1 (by omega) (by omega) (by rw [eh, hi_hsi_ne (by decide)]; exact e83) (fun j hj' => by rw [eh, hi_hsi_ne (by decide)]; exact hv j hj')
    have c1 : (nI (16 * s + f)).toNatClampNeg = 16 * s + f := nI_clamp (by omega)
    have st : ∀ X : Option (Unit × XH), (if ¬ v f = 4 then (b_m_resolve_279 K (b_m_resolve_241 K fu) (nI s) (nI (16 * s + f)) (nI (slq v f)) 1 h1) else (b_m_resolve_279 K (b_m_resolve_241 K fu) (nI s) (nI (16 * s + f)) (nI (slq v f)) 2 h1)) = X → b_m_resolve_241 K (fu + 1) (nI s) (nI (slq v f)) (nI (16 * s + f)) h = X := by
      intro X q
      show s_m_resolve_241 K (b_m_resolve_241 K fu) _ _ _ _ = _
      unfold s_m_resolve_241
      rw [cs, e83, n_16, pk_mul, nI_add, c1, hv f (by omega), ← eh]
      exact o_pos sk (o_neg (by (first | (simp (maxSteps := 4000000) (disch := omega) only [n_0, n_1, n_2, n_3, n_4, n_5, n_6, n_7, n_8, n_9, n_10, n_11, n_12, n_13, n_14, n_15, n_16, n_18, n_20, n_24, n_31, n_32, n_34, n_40, n_41, n_44, n_45, n_47, n_48, n_57, n_58, n_59, n_61, n_63, n_64, n_65, n_68, n_90, n_91, n_93, n_95, n_97, n_100, n_122, n_123, n_125, n_128, n_144, n_200, n_255, n_256, n_300, n_400, n_600, n_1536, n_3980, n_4000, n_4001, n_4300, n_65536, l_0, l_1, l_2, l_3, l_4, l_10, l_48, l_63, l_255, l_300, nI_ltI, nI_leI, nI_eq, nI_clamp, nI_add, pk_sub, pk_mul, nI_ne1, ne1_nI, nI_pge, nI_nlt0, nI_l, lN_i, lN_add, lN_mul, lN_sub, pk_lLT, pk_lLE, pk_lEQ, lg_lt, lg_ge, lg_eq0, lg_le, lg_gt, lg_ltn, lg_gen, lg_eq0n, lg_len, lg_gtn, Nat.zero_le, Nat.not_lt_zero, not_false_eq_true, not_true_eq_false, true_and, and_true]; done) | (simp (maxSteps := 4000000) (disch := omega) only [n_0, n_1, n_2, n_3, n_4, n_5, n_6, n_7, n_8, n_9, n_10, n_11, n_12, n_13, n_14, n_15, n_16, n_18, n_20, n_24, n_31, n_32, n_34, n_40, n_41, n_44, n_45, n_47, n_48, n_57, n_58, n_59, n_61, n_63, n_64, n_65, n_68, n_90, n_91, n_93, n_95, n_97, n_100, n_122, n_123, n_125, n_128, n_144, n_200, n_255, n_256, n_300, n_400, n_600, n_1536, n_3980, n_4000, n_4001, n_4300, n_65536, l_0, l_1, l_2, l_3, l_4, l_10, l_48, l_63, l_255, l_300, nI_ltI, nI_leI, nI_eq, nI_clamp, nI_add, pk_sub, pk_mul, nI_ne1, ne1_nI, nI_pge, nI_nlt0, nI_l, lN_i, lN_add, lN_mul, lN_sub, pk_lLT, pk_lLE, pk_lEQ, lg_lt, lg_ge, lg_eq0, lg_le, lg_gt, lg_ltn, lg_gen, lg_eq0n, lg_len, lg_gtn, Nat.zero_le, Nat.not_lt_zero, not_false_eq_true, not_true_eq_false, true_and, and_true]; omega) | omega)) (o_pos ⟨nI_pos' (by omega), by (first | (simp (maxSteps := 4000000) (disch := omega) only [n_0, n_1, n_2, n_3, n_4, n_5, n_6, n_7, n_8, n_9, n_10, n_11, n_12, n_13, n_14, n_15, n_16, n_18, n_20, n_24, n_31, n_32, n_34, n_40, n_41, n_44, n_45, n_47, n_48, n_57, n_58, n_59, n_61, n_63, n_64, n_65, n_68, n_90, n_91, n_93, n_95, n_97, n_100, n_122, n_123, n_125, n_128, n_144, n_200, n_255, n_256, n_300, n_400, n_600, n_1536, n_3980, n_4000, n_4001, n_4300, n_65536, l_0, l_1, l_2, l_3, l_4, l_10, l_48, l_63, l_255, l_300, nI_ltI, nI_leI, nI_eq, nI_clamp, nI_add, pk_sub, pk_mul, nI_ne1, ne1_nI, nI_pge, nI_nlt0, nI_l, lN_i, lN_add, lN_mul, lN_sub, pk_lLT, pk_lLE, pk_lEQ, lg_lt, lg_ge, lg_eq0, lg_le, lg_gt, lg_ltn, lg_gen, lg_eq0n, lg_len, lg_gtn, Nat.zero_le, Nat.not_lt_zero, not_false_eq_true, not_true_eq_false, true_and, and_true]; done) | (simp (maxSteps := 4000000) (disch := omega) only [n_0, n_1, n_2, n_3, n_4, n_5, n_6, n_7, n_8, n_9, n_10, n_11, n_12, n_13, n_14, n_15, n_16, n_18, n_20, n_24, n_31, n_32, n_34, n_40, n_41, n_44, n_45, n_47, n_48, n_57, n_58, n_59, n_61, n_63, n_64, n_65, n_68, n_90, n_91, n_93, n_95, n_97, n_100, n_122, n_123, n_125, n_128, n_144, n_200, n_255, n_256, n_300, n_400, n_600, n_1536, n_3980, n_4000, n_4001, n_4300, n_65536, l_0, l_1, l_2, l_3, l_4, l_10, l_48, l_63, l_255, l_300, nI_ltI, nI_leI, nI_eq, nI_clamp, nI_add, pk_sub, pk_mul, nI_ne1, ne1_nI, nI_pge, nI_nlt0, nI_l, lN_i, lN_add, lN_mul, lN_sub, pk_lLT, pk_lLE, pk_lEQ, lg_lt, lg_ge, lg_eq0, lg_le, lg_gt, lg_ltn, lg_gen, lg_eq0n, lg_len, lg_gtn, Nat.zero_le, Nat.not_lt_zero, not_false_eq_true, not_true_eq_false, true_and, and_true]; omega) | omega)⟩ q))
    refine ⟨p, st _ ?_, ?_, p3, fun f' h1' h2' => ?_⟩
    · unfold b_m_resolve_279
      by_cases c : v f = 4
      · refine o_neg (not_not_intro c) (Eq.trans ?_ p1)
        show b_m_resolve_241 K fu (nI s) (nI (slq v f) + 2) (nI (16 * s + f) + 1) h1 = b_m_resolve_241 K fu (nI s) (nI (slq v f + (if v f = 4 then 2 else 1))) (nI (16 * s + (f + 1))) h1
        rw [if_pos c, n_2, n_1, nI_add, nI_add, Nat.add_assoc]
      · refine o_pos c (Eq.trans ?_ p1)
        show b_m_resolve_241 K fu (nI s) (nI (slq v f) + 1) (nI (16 * s + f) + 1) h1 = b_m_resolve_241 K fu (nI s) (nI (slq v f + (if v f = 4 then 2 else 1))) (nI (16 * s + (f + 1))) h1
        rw [if_neg c, n_1, nI_add, nI_add, Nat.add_assoc]
    · rw [eh] at p2
      exact FRX.trans (FRX.si FRX.refl (Or.inr ⟨rfl, Nat.le_refl _, by omega⟩)) (p2.mono (fun a k z => z.imp id fun z => ⟨z.1, by omega, z.2.2⟩) (fun _ _ z => z) (fun _ _ z => z))
    · by_cases c : f' = f
      · rw [c, p2.at (by omega), eh, hi_at]
      · exact p4 f' (by omega) h2'
def sM (h : XH) (s f : Nat) : Int32 := hi h 1286 (16 * s + f)
theorem slM_all : ∀ (m s F : Nat) (h : XH), s + m = nt → m < F → TBM nt h → ∃ p, b_m_resolve_226 F (nI s) h = some ((), p) ∧ FRX (fun a k => (a = 1284 ∧ s ≤ k) ∨ (a = 1289 ∧ 16 * s ≤ k)) nW nW h p ∧ ∀ s' n, s ≤ s' → s' < nt → n ≤ 16 → hi h 1283 s' = nI n → hi p 1284 s' = nI (slq (sM h s') n) ∧ ∀ f, f < n → hi p 1289 (16 * s' + f) = nI (slq (sM h s') f) := by
  intro m
  induction m with
  | zero =>
    intro s F h e hF A
    obtain ⟨fu, rfl, -⟩ := fuel_pos hF
    have := A.1
    refine ⟨h, ?_, FRX.refl, fun s' n h1 h2 => by omega⟩
    show s_m_resolve_226 (b_m_resolve_226 fu) _ _ = _
    unfold s_m_resolve_226
    rw [A.2.1]
    exact o_pos (by (first | (simp (maxSteps := 4000000) (disch := omega) only [n_0, n_1, n_2, n_3, n_4, n_5, n_6, n_7, n_8, n_9, n_10, n_11, n_12, n_13, n_14, n_15, n_16, n_18, n_20, n_24, n_31, n_32, n_34, n_40, n_41, n_44, n_45, n_47, n_48, n_57, n_58, n_59, n_61, n_63, n_64, n_65, n_68, n_90, n_91, n_93, n_95, n_97, n_100, n_122, n_123, n_125, n_128, n_144, n_200, n_255, n_256, n_300, n_400, n_600, n_1536, n_3980, n_4000, n_4001, n_4300, n_65536, l_0, l_1, l_2, l_3, l_4, l_10, l_48, l_63, l_255, l_300, nI_ltI, nI_leI, nI_eq, nI_clamp, nI_add, pk_sub, pk_mul, nI_ne1, ne1_nI, nI_pge, nI_nlt0, nI_l, lN_i, lN_add, lN_mul, lN_sub, pk_lLT, pk_lLE, pk_lEQ, lg_lt, lg_ge, lg_eq0, lg_le, lg_gt, lg_ltn, lg_gen, lg_eq0n, lg_len, lg_gtn, Nat.zero_le, Nat.not_lt_zero, not_false_eq_true, not_true_eq_false, true_and, and_true]; done) | (simp (maxSteps := 4000000) (disch := omega) only [n_0, n_1, n_2, n_3, n_4, n_5, n_6, n_7, n_8, n_9, n_10, n_11, n_12, n_13, n_14, n_15, n_16, n_18, n_20, n_24, n_31, n_32, n_34, n_40, n_41, n_44, n_45, n_47, n_48, n_57, n_58, n_59, n_61, n_63, n_64, n_65, n_68, n_90, n_91, n_93, n_95, n_97, n_100, n_122, n_123, n_125, n_128, n_144, n_200, n_255, n_256, n_300, n_400, n_600, n_1536, n_3980, n_4000, n_4001, n_4300, n_65536, l_0, l_1, l_2, l_3, l_4, l_10, l_48, l_63, l_255, l_300, nI_ltI, nI_leI, nI_eq, nI_clamp, nI_add, pk_sub, pk_mul, nI_ne1, ne1_nI, nI_pge, nI_nlt0, nI_l, lN_i, lN_add, lN_mul, lN_sub, pk_lLT, pk_lLE, pk_lEQ, lg_lt, lg_ge, lg_eq0, lg_le, lg_gt, lg_ltn, lg_gen, lg_eq0n, lg_len, lg_gtn, Nat.zero_le, Nat.not_lt_zero, not_false_eq_true, not_true_eq_false, true_and, and_true]; omega) | omega)) rfl
  | succ m ih =>
    intro s F h e hF A
    obtain ⟨fu, rfl, -⟩ := fuel_pos hF
    obtain ⟨A1, A2, A3⟩ := A
    obtain ⟨n, n16, e83⟩ := A3 s (by omega)
    obtain ⟨h1, x1, x2, x3, x4⟩ := slM_in (K := b_m_resolve_226 fu) (v := sM h s) (show s < 16 by omega) n16 n 0 100000 h (by omega) (by omega) e83 (fun f _ => rfl)
    have t1 : TBM nt h1 := ⟨A1, by rw [x2.at (by omega)]; exact A2, fun s' hs' => by
      obtain ⟨n', y1, y2⟩ := A3 s' hs'
      exact ⟨n', y1, by rw [x2.at (by omega)]; exact y2⟩⟩
    obtain ⟨p, p1, p2, p3⟩ := ih (s + 1) fu h1 (by omega) (by omega) t1
    refine ⟨p, ?_, ?_, fun s' n' h1' h2' h3' h4' => ?_⟩
    · show s_m_resolve_226 (b_m_resolve_226 fu) _ _ = _
      unfold s_m_resolve_226
      rw [A2, n_16, pk_mul]
      exact o_neg (by (first | (simp (maxSteps := 4000000) (disch := omega) only [n_0, n_1, n_2, n_3, n_4, n_5, n_6, n_7, n_8, n_9, n_10, n_11, n_12, n_13, n_14, n_15, n_16, n_18, n_20, n_24, n_31, n_32, n_34, n_40, n_41, n_44, n_45, n_47, n_48, n_57, n_58, n_59, n_61, n_63, n_64, n_65, n_68, n_90, n_91, n_93, n_95, n_97, n_100, n_122, n_123, n_125, n_128, n_144, n_200, n_255, n_256, n_300, n_400, n_600, n_1536, n_3980, n_4000, n_4001, n_4300, n_65536, l_0, l_1, l_2, l_3, l_4, l_10, l_48, l_63, l_255, l_300, nI_ltI, nI_leI, nI_eq, nI_clamp, nI_add, pk_sub, pk_mul, nI_ne1, ne1_nI, nI_pge, nI_nlt0, nI_l, lN_i, lN_add, lN_mul, lN_sub, pk_lLT, pk_lLE, pk_lEQ, lg_lt, lg_ge, lg_eq0, lg_le, lg_gt, lg_ltn, lg_gen, lg_eq0n, lg_len, lg_gtn, Nat.zero_le, Nat.not_lt_zero, not_false_eq_true, not_true_eq_false, true_and, and_true]; done) | (simp (maxSteps := 4000000) (disch := omega) only [n_0, n_1, n_2, n_3, n_4, n_5, n_6, n_7, n_8, n_9, n_10, n_11, n_12, n_13, n_14, n_15, n_16, n_18, n_20, n_24, n_31, n_32, n_34, n_40, n_41, n_44, n_45, n_47, n_48, n_57, n_58, n_59, n_61, n_63, n_64, n_65, n_68, n_90, n_91, n_93, n_95, n_97, n_100, n_122, n_123, n_125, n_128, n_144, n_200, n_255, n_256, n_300, n_400, n_600, n_1536, n_3980, n_4000, n_4001, n_4300, n_65536, l_0, l_1, l_2, l_3, l_4, l_10, l_48, l_63, l_255, l_300, nI_ltI, nI_leI, nI_eq, nI_clamp, nI_add, pk_sub, pk_mul, nI_ne1, ne1_nI, nI_pge, nI_nlt0, nI_l, lN_i, lN_add, lN_mul, lN_sub, pk_lLT, pk_lLE, pk_lEQ, lg_lt, lg_ge, lg_eq0, lg_le, lg_gt, lg_ltn, lg_gen, lg_eq0n, lg_len, lg_gtn, Nat.zero_le, Nat.not_lt_zero, not_false_eq_true, not_true_eq_false, true_and, and_true]; omega) | omega)) (x1.trans p1)
    · exact (x2.mono (fun a k z => by omega) (fun _ _ z => z) (fun _ _ z => z)).trans (p2.mono (fun a k z => by omega) (fun _ _ z => z) (fun _ _ z => z))
    · by_cases c : s' = s
      · subst c
        have en : n' = n := by
          rw [e83] at h4'
          exact ((nI_eq (by omega) (by omega)).mp h4').symm
        subst en
        refine ⟨by rw [p2.at (by omega)]; exact x3, fun f hf => by rw [p2.at (by omega)]; exact x4 f (Nat.zero_le _) hf⟩
      · have r := p3 s' n' (by omega) h2' h3' (by rw [x2.at (by omega)]; exact h4')
        have ev : sM h1 s' = sM h s' := funext fun f => by unfold sM; rw [x2.at (by omega)]
        rw [ev] at r
        exact r
/-! the class's -/
def sC (g : XH) (ad f : Nat) : Int32 := hi g (ad + 2 + f) 3
theorem slC_in {ad n : Nat} {v : Nat → Int32} (n16 : n ≤ 16) : ∀ (m f fuel : Nat) (g : XH), f + m = n → m < fuel → DF g ad 16 0 → hi g ad 3 = nI n → hi g ad 8 = nI (slq v f) → (∀ f, f < n → sC g ad f = v f) → ∃ u, b_d_numberSlots_7 fuel ad (nI f) g = some ((), u) ∧ FRX (fun a k => (a = ad ∧ k = 8) ∨ (ad + 2 + f ≤ a ∧ a < ad + 2 + n ∧ k = 6)) nW nW g u ∧ hi u ad 8 = nI (slq v n) ∧ ∀ f', f ≤ f' → f' < n → hi u (ad + 2 + f') 6 = nI (slq v f') := by
  intro m
  induction m with
  | zero =>
    intro f fuel g e hf D e3 e8 hv
    obtain ⟨fu, rfl, -⟩ := fuel_pos hf
    have ef : f = n := by omega
    subst ef
    refine ⟨g, ?_, FRX.refl, e8, fun f' h1 h2 => by omega⟩
    show s_d_numberSlots_7 (b_d_numberSlots_7 fu) _ _ _ = _
    unfold s_d_numberSlots_7
    rw [e3]
    exact o_pos ⟨by have := D.1; omega, D.2.2.2.2.1⟩ (o_pos (Int32.le_refl _) rfl)
  | succ m ih =>
    intro f fuel g e hf D e3 e8 hv
    obtain ⟨fu, rfl, -⟩ := fuel_pos hf
    obtain ⟨g1, eg⟩ : ∃ g1, g1 = hsi g (ad + 2 + f) 6 (nI (slq v f)) := ⟨_, rfl⟩
    obtain ⟨g2, eg2⟩ : ∃ g2, g2 = hsi g1 ad 8 (nI (slq v (f + 1))) := ⟨_, rfl⟩
    have F2 : FRX (fun a k => (a = ad ∧ k = 8) ∨ (ad + 2 + f ≤ a ∧ a < ad + 2 + n ∧ k = 6)) nW nW g g2 := by
      rw [eg2, eg]
      exact (FRX.refl.si (Or.inr ⟨Nat.le_refl _, by omega, rfl⟩)).si (Or.inl ⟨rfl, rfl⟩)
    have D2 : DF g2 ad 16 0 := DF.frx F2 D (fun _ _ _ _ z => z)
    obtain ⟨d1, d2, d3, d4, d5, d6, d7, d8, d9, -⟩ := D
    obtain ⟨u, u1, u2, u3, u4⟩ := ih (f + 1) fu g2 (by omega) (by omega) D2 (by rw [F2.at (by omega)]; exact e3) (by rw [eg2, hi_at]) (fun j hj' => by unfold sC; rw [F2.at (by omega)]; exact hv j hj')
    have ak : ad < hz g ∧ hk g ad = 2 := ⟨by omega, d5⟩
    have fk : ad + 2 + f < hz g ∧ hk g (ad + 2 + f) = 3 := ⟨by omega, (d9 f (by omega)).2⟩
    have vf : hi g (ad + 2 + f) 3 = v f := hv f (by omega)
    have st : ∀ X : Option (Unit × XH), (if ¬ v f = 4 then (b_d_numberSlots_60 (b_d_numberSlots_7 fu) ad (nI f) ad (nI (slq v f)) 1 g1) else (b_d_numberSlots_60 (b_d_numberSlots_7 fu) ad (nI f) ad (nI (slq v f)) 2 g1)) = X → b_d_numberSlots_7 (fu + 1) ad (nI f) g = X := by
      intro X q
      show s_d_numberSlots_7 (b_d_numberSlots_7 fu) _ _ _ = _
      unfold s_d_numberSlots_7
      rw [e3, e8, nI_clamp (show f < 2 ^ 31 by omega)]
      refine o_pos ak (o_neg (by (first | (simp (maxSteps := 4000000) (disch := omega) only [n_0, n_1, n_2, n_3, n_4, n_5, n_6, n_7, n_8, n_9, n_10, n_11, n_12, n_13, n_14, n_15, n_16, n_18, n_20, n_24, n_31, n_32, n_34, n_40, n_41, n_44, n_45, n_47, n_48, n_57, n_58, n_59, n_61, n_63, n_64, n_65, n_68, n_90, n_91, n_93, n_95, n_97, n_100, n_122, n_123, n_125, n_128, n_144, n_200, n_255, n_256, n_300, n_400, n_600, n_1536, n_3980, n_4000, n_4001, n_4300, n_65536, l_0, l_1, l_2, l_3, l_4, l_10, l_48, l_63, l_255, l_300, nI_ltI, nI_leI, nI_eq, nI_clamp, nI_add, pk_sub, pk_mul, nI_ne1, ne1_nI, nI_pge, nI_nlt0, nI_l, lN_i, lN_add, lN_mul, lN_sub, pk_lLT, pk_lLE, pk_lEQ, lg_lt, lg_ge, lg_eq0, lg_le, lg_gt, lg_ltn, lg_gen, lg_eq0n, lg_len, lg_gtn, Nat.zero_le, Nat.not_lt_zero, not_false_eq_true, not_true_eq_false, true_and, and_true]; done) | (simp (maxSteps := 4000000) (disch := omega) only [n_0, n_1, n_2, n_3, n_4, n_5, n_6, n_7, n_8, n_9, n_10, n_11, n_12, n_13, n_14, n_15, n_16, n_18, n_20, n_24, n_31, n_32, n_34, n_40, n_41, n_44, n_45, n_47, n_48, n_57, n_58, n_59, n_61, n_63, n_64, n_65, n_68, n_90, n_91, n_93, n_95, n_97, n_100, n_122, n_123, n_125, n_128, n_144, n_200, n_255, n_256, n_300, n_400, n_600, n_1536, n_3980, n_4000, n_4001, n_4300, n_65536, l_0, l_1, l_2, l_3, l_4, l_10, l_48, l_63, l_255, l_300, nI_ltI, nI_leI, nI_eq, nI_clamp, nI_add, pk_sub, pk_mul, nI_ne1, ne1_nI, nI_pge, nI_nlt0, nI_l, lN_i, lN_add, lN_mul, lN_sub, pk_lLT, pk_lLE, pk_lEQ, lg_lt, lg_ge, lg_eq0, lg_le, lg_gt, lg_ltn, lg_gen, lg_eq0n, lg_len, lg_gtn, Nat.zero_le, Nat.not_lt_zero, not_false_eq_true, not_true_eq_false, true_and, and_true]; omega) | omega)) (o_bind d6 (o_pos ⟨by omega, d7⟩ ?_)))
      rw [d8]
      refine o_neg (by (first | (simp (maxSteps := 4000000) (disch := omega) only [n_0, n_1, n_2, n_3, n_4, n_5, n_6, n_7, n_8, n_9, n_10, n_11, n_12, n_13, n_14, n_15, n_16, n_18, n_20, n_24, n_31, n_32, n_34, n_40, n_41, n_44, n_45, n_47, n_48, n_57, n_58, n_59, n_61, n_63, n_64, n_65, n_68, n_90, n_91, n_93, n_95, n_97, n_100, n_122, n_123, n_125, n_128, n_144, n_200, n_255, n_256, n_300, n_400, n_600, n_1536, n_3980, n_4000, n_4001, n_4300, n_65536, l_0, l_1, l_2, l_3, l_4, l_10, l_48, l_63, l_255, l_300, nI_ltI, nI_leI, nI_eq, nI_clamp, nI_add, pk_sub, pk_mul, nI_ne1, ne1_nI, nI_pge, nI_nlt0, nI_l, lN_i, lN_add, lN_mul, lN_sub, pk_lLT, pk_lLE, pk_lEQ, lg_lt, lg_ge, lg_eq0, lg_le, lg_gt, lg_ltn, lg_gen, lg_eq0n, lg_len, lg_gtn, Nat.zero_le, Nat.not_lt_zero, not_false_eq_true, not_true_eq_false, true_and, and_true]; done) | (simp (maxSteps := 4000000) (disch := omega) only [n_0, n_1, n_2, n_3, n_4, n_5, n_6, n_7, n_8, n_9, n_10, n_11, n_12, n_13, n_14, n_15, n_16, n_18, n_20, n_24, n_31, n_32, n_34, n_40, n_41, n_44, n_45, n_47, n_48, n_57, n_58, n_59, n_61, n_63, n_64, n_65, n_68, n_90, n_91, n_93, n_95, n_97, n_100, n_122, n_123, n_125, n_128, n_144, n_200, n_255, n_256, n_300, n_400, n_600, n_1536, n_3980, n_4000, n_4001, n_4300, n_65536, l_0, l_1, l_2, l_3, l_4, l_10, l_48, l_63, l_255, l_300, nI_ltI, nI_leI, nI_eq, nI_clamp, nI_add, pk_sub, pk_mul, nI_ne1, ne1_nI, nI_pge, nI_nlt0, nI_l, lN_i, lN_add, lN_mul, lN_sub, pk_lLT, pk_lLE, pk_lEQ, lg_lt, lg_ge, lg_eq0, lg_le, lg_gt, lg_ltn, lg_gen, lg_eq0n, lg_len, lg_gtn, Nat.zero_le, Nat.not_lt_zero, not_false_eq_true, not_true_eq_false, true_and, and_true]; omega) | omega)) (o_pos ⟨nI_pos' (by omega), by (first | (simp (maxSteps := 4000000) (disch := omega) only [n_0, n_1, n_2, n_3, n_4, n_5, n_6, n_7, n_8, n_9, n_10, n_11, n_12, n_13, n_14, n_15, n_16, n_18, n_20, n_24, n_31, n_32, n_34, n_40, n_41, n_44, n_45, n_47, n_48, n_57, n_58, n_59, n_61, n_63, n_64, n_65, n_68, n_90, n_91, n_93, n_95, n_97, n_100, n_122, n_123, n_125, n_128, n_144, n_200, n_255, n_256, n_300, n_400, n_600, n_1536, n_3980, n_4000, n_4001, n_4300, n_65536, l_0, l_1, l_2, l_3, l_4, l_10, l_48, l_63, l_255, l_300, nI_ltI, nI_leI, nI_eq, nI_clamp, nI_add, pk_sub, pk_mul, nI_ne1, ne1_nI, nI_pge, nI_nlt0, nI_l, lN_i, lN_add, lN_mul, lN_sub, pk_lLT, pk_lLE, pk_lEQ, lg_lt, lg_ge, lg_eq0, lg_le, lg_gt, lg_ltn, lg_gen, lg_eq0n, lg_len, lg_gtn, Nat.zero_le, Nat.not_lt_zero, not_false_eq_true, not_true_eq_false, true_and, and_true]; done) | (simp (maxSteps := 4000000) (disch := omega) only [n_0, n_1, n_2, n_3, n_4, n_5, n_6, n_7, n_8, n_9, n_10, n_11, n_12, n_13, n_14, n_15, n_16, n_18, n_20, n_24, n_31, n_32, n_34, n_40, n_41, n_44, n_45, n_47, n_48, n_57, n_58, n_59, n_61, n_63, n_64, n_65, n_68, n_90, n_91, n_93, n_95, n_97, n_100, n_122, n_123, n_125, n_128, n_144, n_200, n_255, n_256, n_300, n_400, n_600, n_1536, n_3980, n_4000, n_4001, n_4300, n_65536, l_0, l_1, l_2, l_3, l_4, l_10, l_48, l_63, l_255, l_300, nI_ltI, nI_leI, nI_eq, nI_clamp, nI_add, pk_sub, pk_mul, nI_ne1, ne1_nI, nI_pge, nI_nlt0, nI_l, lN_i, lN_add, lN_mul, lN_sub, pk_lLT, pk_lLE, pk_lEQ, lg_lt, lg_ge, lg_eq0, lg_le, lg_gt, lg_ltn, lg_gen, lg_eq0n, lg_len, lg_gtn, Nat.zero_le, Nat.not_lt_zero, not_false_eq_true, not_true_eq_false, true_and, and_true]; omega) | omega), by decide⟩ (o_bind (d9 f (by omega)).1 (o_pos fk ?_)))
      rw [vf, ← eg]
      exact q
    have k1 : ad < hz g1 ∧ hk g1 ad = 2 := by rw [eg]; exact ak
    refine ⟨u, st _ ?_, FRX.trans F2 (u2.mono (fun a k z => z.imp id fun z => ⟨by omega, z.2⟩) (fun _ _ z => z) (fun _ _ z => z)), u3, fun f' h1' h2' => ?_⟩
    · unfold b_d_numberSlots_60
      by_cases c : v f = 4
      · refine o_neg (not_not_intro c) (o_pos k1 (Eq.trans ?_ u1))
        rw [n_2, n_1, nI_add, nI_add, eg2]
        show b_d_numberSlots_7 fu ad (nI (f + 1)) (hsi g1 ad 8 (nI (slq v f + 2))) = b_d_numberSlots_7 fu ad (nI (f + 1)) (hsi g1 ad 8 (nI (slq v f + (if v f = 4 then 2 else 1))))
        rw [if_pos c]
      · refine o_pos c (o_pos k1 (Eq.trans ?_ u1))
        rw [n_1, nI_add, nI_add, eg2]
        show b_d_numberSlots_7 fu ad (nI (f + 1)) (hsi g1 ad 8 (nI (slq v f + 1))) = b_d_numberSlots_7 fu ad (nI (f + 1)) (hsi g1 ad 8 (nI (slq v f + (if v f = 4 then 2 else 1))))
        rw [if_neg c]
    · by_cases c : f' = f
      · rw [c, u2.at (by omega), eg2, hi_hsi_ne (by omega), eg, hi_at]
      · exact u4 f' (by omega) h2'
theorem slC_all : ∀ (m s F : Nat) (g : XH), s + m = nt → m < F → nt ≤ 16 → PO g t S → hi g (S + 195) 1 = nI nt → (∀ s, s < nt → ∃ n, n ≤ 16 ∧ hi g (dT S s) 3 = nI n) → ∃ u, b_p_numberAllSlots_2 F t (nI s) g = some ((), u) ∧ FRX (fun a k => dT S s ≤ a ∧ a < S + 517 ∧ (k = 6 ∨ k = 8)) nW nW g u ∧ ∀ s' n, s ≤ s' → s' < nt → n ≤ 16 → hi g (dT S s') 3 = nI n → hi u (dT S s') 8 = nI (slq (sC g (dT S s')) n) ∧ ∀ f, f < n → hi u (dT S s' + 2 + f) 6 = nI (slq (sC g (dT S s')) f) := by
  intro m
  induction m with
  | zero =>
    intro s F g e hF n16 P e1 A
    obtain ⟨fu, rfl, -⟩ := fuel_pos hF
    have sc := SC.of P.1 P.2.2.2.1
    refine ⟨g, ?_, FRX.refl, fun s' n h1 h2 => by omega⟩
    show s_p_numberAllSlots_2 (b_p_numberAllSlots_2 fu) _ _ _ = _
    unfold s_p_numberAllSlots_2
    refine o_pos P.tk (o_bind P.2.2.2.2.2.2.1 (o_pos ⟨by have := sc.1; omega, sc.2.2.1⟩ (o_bind sc.2.2.2.2.1 (o_pos ⟨by have := sc.1; omega, sc.gT.2.2.2.1⟩ ?_))))
    rw [e1]
    exact o_pos (by (first | (simp (maxSteps := 4000000) (disch := omega) only [n_0, n_1, n_2, n_3, n_4, n_5, n_6, n_7, n_8, n_9, n_10, n_11, n_12, n_13, n_14, n_15, n_16, n_18, n_20, n_24, n_31, n_32, n_34, n_40, n_41, n_44, n_45, n_47, n_48, n_57, n_58, n_59, n_61, n_63, n_64, n_65, n_68, n_90, n_91, n_93, n_95, n_97, n_100, n_122, n_123, n_125, n_128, n_144, n_200, n_255, n_256, n_300, n_400, n_600, n_1536, n_3980, n_4000, n_4001, n_4300, n_65536, l_0, l_1, l_2, l_3, l_4, l_10, l_48, l_63, l_255, l_300, nI_ltI, nI_leI, nI_eq, nI_clamp, nI_add, pk_sub, pk_mul, nI_ne1, ne1_nI, nI_pge, nI_nlt0, nI_l, lN_i, lN_add, lN_mul, lN_sub, pk_lLT, pk_lLE, pk_lEQ, lg_lt, lg_ge, lg_eq0, lg_le, lg_gt, lg_ltn, lg_gen, lg_eq0n, lg_len, lg_gtn, Nat.zero_le, Nat.not_lt_zero, not_false_eq_true, not_true_eq_false, true_and, and_true]; done) | (simp (maxSteps := 4000000) (disch := omega) only [n_0, n_1, n_2, n_3, n_4, n_5, n_6, n_7, n_8, n_9, n_10, n_11, n_12, n_13, n_14, n_15, n_16, n_18, n_20, n_24, n_31, n_32, n_34, n_40, n_41, n_44, n_45, n_47, n_48, n_57, n_58, n_59, n_61, n_63, n_64, n_65, n_68, n_90, n_91, n_93, n_95, n_97, n_100, n_122, n_123, n_125, n_128, n_144, n_200, n_255, n_256, n_300, n_400, n_600, n_1536, n_3980, n_4000, n_4001, n_4300, n_65536, l_0, l_1, l_2, l_3, l_4, l_10, l_48, l_63, l_255, l_300, nI_ltI, nI_leI, nI_eq, nI_clamp, nI_add, pk_sub, pk_mul, nI_ne1, ne1_nI, nI_pge, nI_nlt0, nI_l, lN_i, lN_add, lN_mul, lN_sub, pk_lLT, pk_lLE, pk_lEQ, lg_lt, lg_ge, lg_eq0, lg_le, lg_gt, lg_ltn, lg_gen, lg_eq0n, lg_len, lg_gtn, Nat.zero_le, Nat.not_lt_zero, not_false_eq_true, not_true_eq_false, true_and, and_true]; omega) | omega)) rfl
  | succ m ih =>
    intro s F g e hF n16 P e1 A
    obtain ⟨fu, rfl, -⟩ := fuel_pos hF
    have sc := SC.of P.1 P.2.2.2.1
    have hS := P.2.2.2.1
    have t17 := P.2.1
    obtain ⟨n, m16, e3⟩ := A s (by omega)
    have D := sc.ddT (s := s) (by omega)
    obtain ⟨g0, eg0⟩ : ∃ g0, g0 = hsi g (dT S s) 8 0 := ⟨_, rfl⟩
    have F0 : FRX (fun a k => a = dT S s ∧ k = 8) nW nW g g0 := by rw [eg0]; exact FRX.refl.si ⟨rfl, rfl⟩
    obtain ⟨g1, x1, x2, x3, x4⟩ := slC_in (v := sC g (dT S s)) m16 n 0 100000 g0 (by omega) (by omega) (DF.frx F0 D (fun _ _ _ _ z => z)) (by rw [F0.at (by omega)]; exact e3) (by rw [eg0, hi_at]; rfl) (fun f hf => by unfold sC; rw [F0.at (by omega)])
    have F1 : FRX (fun a k => dT S s ≤ a ∧ a < dT S s + 20 ∧ (k = 6 ∨ k = 8)) nW nW g g1 := (F0.mono (fun a k z => by omega) (fun _ _ z => z) (fun _ _ z => z)).trans (x2.mono (fun a k z => by omega) (fun _ _ z => z) (fun _ _ z => z))
    have P1 : PO g1 t S := by
      obtain ⟨p0, p1, p2, p3, p4, p5, p6, p7, p8, p9, p10, p11, p12, p13⟩ := P
      have r : ∀ k, hr g1 t k = hr g t k := fun k => F1.rf (fun z => z)
      exact ⟨p0.frx F1 (fun _ _ _ _ z => z), p1, by rw [F1.1.1]; exact p2, p3, by rw [F1.1.2.2.1]; exact p4, by rw [r]; exact p5, by rw [r]; exact p6, by rw [r]; exact p7, by rw [r]; exact p8, by rw [F1.1.2.2.1]; exact p9, by rw [F1.1.2.2.2]; exact p10, by rw [F1.1.2.2.1]; exact p11, by rw [F1.at (by unfold dT; omega)]; exact p12, by rw [F1.at (by unfold dT; omega)]; exact p13⟩
    obtain ⟨u, u1, u2, u3⟩ := ih (s + 1) fu g1 (by omega) (by omega) n16 P1 (by rw [F1.at (by unfold dT; omega)]; exact e1) (fun s' hs' => by
      obtain ⟨n', y1, y2⟩ := A s' hs'
      exact ⟨n', y1, by rw [F1.at (by omega)]; exact y2⟩)
    refine ⟨u, ?_, ?_, fun s' n' h1' h2' h3' h4' => ?_⟩
    · show s_p_numberAllSlots_2 (b_p_numberAllSlots_2 fu) _ _ _ = _
      unfold s_p_numberAllSlots_2 b_p_numberAllSlots_36
      refine o_pos P.tk (o_bind P.2.2.2.2.2.2.1 (o_pos ⟨by have := sc.1; omega, sc.2.2.1⟩ (o_bind sc.2.2.2.2.1 (o_pos ⟨by have := sc.1; omega, sc.gT.2.2.2.1⟩ ?_))))
      rw [e1, n_1, nI_add]
      have ga : f_g_at (S + 195) (nI s) g = some (some (dT S s), g) := e_g_at sc.gT e1 n16 (by omega)
      have dk : dT S s < hz g ∧ hk g (dT S s) = 2 := ⟨by have := D.1; omega, D.2.2.2.2.1⟩
      have nsl : f_d_numberSlots (dT S s) g = some ((), g1) := by
        unfold f_d_numberSlots
        rw [← eg0]
        exact o_pos dk x1
      exact o_neg (by (first | (simp (maxSteps := 4000000) (disch := omega) only [n_0, n_1, n_2, n_3, n_4, n_5, n_6, n_7, n_8, n_9, n_10, n_11, n_12, n_13, n_14, n_15, n_16, n_18, n_20, n_24, n_31, n_32, n_34, n_40, n_41, n_44, n_45, n_47, n_48, n_57, n_58, n_59, n_61, n_63, n_64, n_65, n_68, n_90, n_91, n_93, n_95, n_97, n_100, n_122, n_123, n_125, n_128, n_144, n_200, n_255, n_256, n_300, n_400, n_600, n_1536, n_3980, n_4000, n_4001, n_4300, n_65536, l_0, l_1, l_2, l_3, l_4, l_10, l_48, l_63, l_255, l_300, nI_ltI, nI_leI, nI_eq, nI_clamp, nI_add, pk_sub, pk_mul, nI_ne1, ne1_nI, nI_pge, nI_nlt0, nI_l, lN_i, lN_add, lN_mul, lN_sub, pk_lLT, pk_lLE, pk_lEQ, lg_lt, lg_ge, lg_eq0, lg_le, lg_gt, lg_ltn, lg_gen, lg_eq0n, lg_len, lg_gtn, Nat.zero_le, Nat.not_lt_zero, not_false_eq_true, not_true_eq_false, true_and, and_true]; done) | (simp (maxSteps := 4000000) (disch := omega) only [n_0, n_1, n_2, n_3, n_4, n_5, n_6, n_7, n_8, n_9, n_10, n_11, n_12, n_13, n_14, n_15, n_16, n_18, n_20, n_24, n_31, n_32, n_34, n_40, n_41, n_44, n_45, n_47, n_48, n_57, n_58, n_59, n_61, n_63, n_64, n_65, n_68, n_90, n_91, n_93, n_95, n_97, n_100, n_122, n_123, n_125, n_128, n_144, n_200, n_255, n_256, n_300, n_400, n_600, n_1536, n_3980, n_4000, n_4001, n_4300, n_65536, l_0, l_1, l_2, l_3, l_4, l_10, l_48, l_63, l_255, l_300, nI_ltI, nI_leI, nI_eq, nI_clamp, nI_add, pk_sub, pk_mul, nI_ne1, ne1_nI, nI_pge, nI_nlt0, nI_l, lN_i, lN_add, lN_mul, lN_sub, pk_lLT, pk_lLE, pk_lEQ, lg_lt, lg_ge, lg_eq0, lg_le, lg_gt, lg_ltn, lg_gen, lg_eq0n, lg_len, lg_gtn, Nat.zero_le, Nat.not_lt_zero, not_false_eq_true, not_true_eq_false, true_and, and_true]; omega) | omega)) (o_bind ga (o_elim (o_pos dk (o_bind nsl u1))))
    · exact (F1.mono (fun a k z => ⟨z.1, by unfold dT at z; omega, z.2.2⟩) (fun _ _ z => z) (fun _ _ z => z)).trans (u2.mono (fun a k z => ⟨by unfold dT at *; omega, z.2⟩) (fun _ _ z => z) (fun _ _ z => z))
    · by_cases c : s' = s
      · subst c
        have en : n' = n := by
          rw [e3] at h4'
          exact ((nI_eq (by omega) (by omega)).mp h4').symm
        subst en
        refine ⟨by rw [u2.at (by unfold dT; omega)]; exact x3, fun f hf => by rw [u2.at (by unfold dT; omega)]; exact x4 f (Nat.zero_le _) hf⟩
      · have r := u3 s' n' (by omega) h2' h3' (by rw [F1.at (by omega)]; exact h4')
        have ev : sC g1 (dT S s') = sC g (dT S s') := funext fun f => by unfold sC; rw [F1.at (by omega)]
        rw [ev] at r
        exact r
end Sl2
