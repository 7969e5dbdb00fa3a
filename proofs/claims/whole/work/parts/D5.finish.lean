/-! Calls: finish -/

section Fin
variable {h g : XH} {S : Nat} {sg : SGT} {sd : Nat → Int64}
/-- a reference is put, on both sides -/
theorem e_u_ref {s t st : Nat} (B : BY h 1245 1246) (e : hi h 1250 t = nI st) (ht : t < 300) (hs : st ≤ s) (h4 : 4 ≤ s ∧ s ≤ 4000) : ∃ g, f_u_putReference (nI (4000 - s)) (lN t) h = some ((), g) ∧ FRM (fun a _ => a = 1246) h g ∧ (∀ j, j < 4 → cb g 1246 (4000 - s + j) = v8 (lN (s - st)) j) ∧ ∀ m, m < 4000 - s ∨ 4000 - s + 4 ≤ m → hi g 1246 m = hi h 1246 m := by
  obtain ⟨g, z1, z2⟩ := e_u_put (i := 4000 - s) (k := 4) (v := lN (s - st)) B (by decide) (by omega)
  refine ⟨g, ?_, z2⟩
  unfold f_u_putReference
  refine o_neg (by rw [lg_lt, show (0 : Int64) = lN 0 from rfl, pk_lLT (by omega) (by omega)]; omega) (o_neg (by rw [lg_ge, l_300, pk_lLE (by omega) (by omega)]; omega) (o_pos (by rw [lN_i]; (first | (simp (maxSteps := 4000000) (disch := omega) only [n_0, n_1, n_2, n_3, n_4, n_5, n_6, n_7, n_8, n_9, n_10, n_11, n_12, n_13, n_14, n_15, n_16, n_18, n_20, n_24, n_31, n_32, n_34, n_40, n_41, n_44, n_45, n_47, n_48, n_57, n_58, n_59, n_61, n_63, n_64, n_65, n_68, n_90, n_91, n_93, n_95, n_97, n_100, n_122, n_123, n_125, n_128, n_144, n_200, n_255, n_256, n_300, n_400, n_600, n_1536, n_3980, n_4000, n_4001, n_4300, n_65536, l_0, l_1, l_2, l_3, l_4, l_10, l_48, l_63, l_255, l_300, nI_ltI, nI_leI, nI_eq, nI_clamp, nI_add, pk_sub, pk_mul, nI_ne1, ne1_nI, nI_pge, nI_nlt0, nI_l, lN_i, lN_add, lN_mul, lN_sub, pk_lLT, pk_lLE, pk_lEQ, lg_lt, lg_ge, lg_eq0, lg_le, lg_gt, lg_ltn, lg_gen, lg_eq0n, lg_len, lg_gtn, Nat.zero_le, Nat.not_lt_zero, not_false_eq_true, not_true_eq_false, true_and, and_true]; done) | (simp (maxSteps := 4000000) (disch := omega) only [n_0, n_1, n_2, n_3, n_4, n_5, n_6, n_7, n_8, n_9, n_10, n_11, n_12, n_13, n_14, n_15, n_16, n_18, n_20, n_24, n_31, n_32, n_34, n_40, n_41, n_44, n_45, n_47, n_48, n_57, n_58, n_59, n_61, n_63, n_64, n_65, n_68, n_90, n_91, n_93, n_95, n_97, n_100, n_122, n_123, n_125, n_128, n_144, n_200, n_255, n_256, n_300, n_400, n_600, n_1536, n_3980, n_4000, n_4001, n_4300, n_65536, l_0, l_1, l_2, l_3, l_4, l_10, l_48, l_63, l_255, l_300, nI_ltI, nI_leI, nI_eq, nI_clamp, nI_add, pk_sub, pk_mul, nI_ne1, ne1_nI, nI_pge, nI_nlt0, nI_l, lN_i, lN_add, lN_mul, lN_sub, pk_lLT, pk_lLE, pk_lEQ, lg_lt, lg_ge, lg_eq0, lg_le, lg_gt, lg_ltn, lg_gen, lg_eq0n, lg_len, lg_gtn, Nat.zero_le, Nat.not_lt_zero, not_false_eq_true, not_true_eq_false, true_and, and_true]; omega) | omega)) ?_))
  rw [lN_i, nI_clamp (show t < 2 ^ 31 by omega), e, n_4000, pk_sub (by omega), pk_sub (by omega), show 4000 - (4000 - s) - st = s - st by omega, nI_l (by omega)]
  exact o_bind z1 rfl
theorem e_m_ref {n t st : Nat} (e : hi h 1262 57 = nI n) (e2 : hi h 1303 t = nI st) (ht : t < 300) (hs : st ≤ n + 4) (hn' : n ≤ 4000) : ∃ g, f_m_reference (nI t) h = some ((), g) ∧ FRM mP h g ∧ hi g 1262 57 = nI (n + 4) ∧ (∀ i, i < n → hi g 1299 i = hi h 1299 i) ∧ ∀ j, j < 4 → hi g 1299 (n + j) = nI (v8 (lN (n + 4 - st)) (4 - 1 - j)) := by
  obtain ⟨g, z1, z2⟩ := e_m_aheadk (v := lN (n + 4 - st)) (k := 4) e (by decide) (by omega)
  refine ⟨g, ?_, z2⟩
  unfold f_m_reference
  refine o_pos (by (first | (simp (maxSteps := 4000000) (disch := omega) only [n_0, n_1, n_2, n_3, n_4, n_5, n_6, n_7, n_8, n_9, n_10, n_11, n_12, n_13, n_14, n_15, n_16, n_18, n_20, n_24, n_31, n_32, n_34, n_40, n_41, n_44, n_45, n_47, n_48, n_57, n_58, n_59, n_61, n_63, n_64, n_65, n_68, n_90, n_91, n_93, n_95, n_97, n_100, n_122, n_123, n_125, n_128, n_144, n_200, n_255, n_256, n_300, n_400, n_600, n_1536, n_3980, n_4000, n_4001, n_4300, n_65536, l_0, l_1, l_2, l_3, l_4, l_10, l_48, l_63, l_255, l_300, nI_ltI, nI_leI, nI_eq, nI_clamp, nI_add, pk_sub, pk_mul, nI_ne1, ne1_nI, nI_pge, nI_nlt0, nI_l, lN_i, lN_add, lN_mul, lN_sub, pk_lLT, pk_lLE, pk_lEQ, lg_lt, lg_ge, lg_eq0, lg_le, lg_gt, lg_ltn, lg_gen, lg_eq0n, lg_len, lg_gtn, Nat.zero_le, Nat.not_lt_zero, not_false_eq_true, not_true_eq_false, true_and, and_true]; done) | (simp (maxSteps := 4000000) (disch := omega) only [n_0, n_1, n_2, n_3, n_4, n_5, n_6, n_7, n_8, n_9, n_10, n_11, n_12, n_13, n_14, n_15, n_16, n_18, n_20, n_24, n_31, n_32, n_34, n_40, n_41, n_44, n_45, n_47, n_48, n_57, n_58, n_59, n_61, n_63, n_64, n_65, n_68, n_90, n_91, n_93, n_95, n_97, n_100, n_122, n_123, n_125, n_128, n_144, n_200, n_255, n_256, n_300, n_400, n_600, n_1536, n_3980, n_4000, n_4001, n_4300, n_65536, l_0, l_1, l_2, l_3, l_4, l_10, l_48, l_63, l_255, l_300, nI_ltI, nI_leI, nI_eq, nI_clamp, nI_add, pk_sub, pk_mul, nI_ne1, ne1_nI, nI_pge, nI_nlt0, nI_l, lN_i, lN_add, lN_mul, lN_sub, pk_lLT, pk_lLE, pk_lEQ, lg_lt, lg_ge, lg_eq0, lg_le, lg_gt, lg_ltn, lg_gen, lg_eq0n, lg_len, lg_gtn, Nat.zero_le, Nat.not_lt_zero, not_false_eq_true, not_true_eq_false, true_and, and_true]; omega) | omega)) ?_
  rw [e, nI_clamp (show t < 2 ^ 31 by omega), e2, n_4, nI_add, pk_sub (by omega), nI_l (by omega)]
  exact o_bind z1 rfl
theorem e_m_finish_104 {N : Nat} (hN : N ≤ 4000) : ∀ (r k fuel : Nat) (g0 : XH), k + r = N → r < fuel → hi g0 1262 57 = nI N → (∀ j, j < k → hi g0 1308 j = hi g0 1299 (N - 1 - j)) → ∃ g, b_m_finish_104 fuel (nI k) g0 = (Option.bind (f_m_empty g) fun r2 => (some ((hi r2.2 1262 72), r2.2))) ∧ FRM (fun a _ => a = 1308) g0 g ∧ ∀ j, j < N → hi g 1308 j = hi g0 1299 (N - 1 - j) := by
  intro r
  induction r with
  | zero =>
    intro k fuel g0 e hf e57 q
    obtain ⟨f, rfl, -⟩ := fuel_pos hf
    refine ⟨g0, ?_, FRM.refl, fun j hj' => q j (by omega)⟩
    show s_m_finish_104 (b_m_finish_104 f) _ _ = _
    unfold s_m_finish_104
    rw [e57]
    exact o_pos (by (first | (simp (maxSteps := 4000000) (disch := omega) only [n_0, n_1, n_2, n_3, n_4, n_5, n_6, n_7, n_8, n_9, n_10, n_11, n_12, n_13, n_14, n_15, n_16, n_18, n_20, n_24, n_31, n_32, n_34, n_40, n_41, n_44, n_45, n_47, n_48, n_57, n_58, n_59, n_61, n_63, n_64, n_65, n_68, n_90, n_91, n_93, n_95, n_97, n_100, n_122, n_123, n_125, n_128, n_144, n_200, n_255, n_256, n_300, n_400, n_600, n_1536, n_3980, n_4000, n_4001, n_4300, n_65536, l_0, l_1, l_2, l_3, l_4, l_10, l_48, l_63, l_255, l_300, nI_ltI, nI_leI, nI_eq, nI_clamp, nI_add, pk_sub, pk_mul, nI_ne1, ne1_nI, nI_pge, nI_nlt0, nI_l, lN_i, lN_add, lN_mul, lN_sub, pk_lLT, pk_lLE, pk_lEQ, lg_lt, lg_ge, lg_eq0, lg_le, lg_gt, lg_ltn, lg_gen, lg_eq0n, lg_len, lg_gtn, Nat.zero_le, Nat.not_lt_zero, not_false_eq_true, not_true_eq_false, true_and, and_true]; done) | (simp (maxSteps := 4000000) (disch := omega) only [n_0, n_1, n_2, n_3, n_4, n_5, n_6, n_7, n_8, n_9, n_10, n_11, n_12, n_13, n_14, n_15, n_16, n_18, n_20, n_24, n_31, n_32, n_34, n_40, n_41, n_44, n_45, n_47, n_48, n_57, n_58, n_59, n_61, n_63, n_64, n_65, n_68, n_90, n_91, n_93, n_95, n_97, n_100, n_122, n_123, n_125, n_128, n_144, n_200, n_255, n_256, n_300, n_400, n_600, n_1536, n_3980, n_4000, n_4001, n_4300, n_65536, l_0, l_1, l_2, l_3, l_4, l_10, l_48, l_63, l_255, l_300, nI_ltI, nI_leI, nI_eq, nI_clamp, nI_add, pk_sub, pk_mul, nI_ne1, ne1_nI, nI_pge, nI_nlt0, nI_l, lN_i, lN_add, lN_mul, lN_sub, pk_lLT, pk_lLE, pk_lEQ, lg_lt, lg_ge, lg_eq0, lg_le, lg_gt, lg_ltn, lg_gen, lg_eq0n, lg_len, lg_gtn, Nat.zero_le, Nat.not_lt_zero, not_false_eq_true, not_true_eq_false, true_and, and_true]; omega) | omega)) rfl
  | succ r ih =>
    intro k fuel g0 e hf e57 q
    obtain ⟨f, rfl, -⟩ := fuel_pos hf
    obtain ⟨g, z1, F, z2⟩ := ih (k + 1) f (hsi g0 1308 k (hi g0 1299 (N - 1 - k))) (by omega) (by omega) (by rw [hi_hsi_ne (by decide)]; exact e57) (fun j hj' => by
      rw [hi_hsi_ne (a := 1308) (b := 1299) (by decide)]
      by_cases c : j = k
      · rw [c, hi_at]
      · rw [hi_nk c]
        exact q j (by omega))
    refine ⟨g, ?_, (FRM.refl.si (by exact rfl)).trans F, fun j hj' => by rw [z2 j hj', hi_hsi_ne (by decide)]⟩
    show s_m_finish_104 (b_m_finish_104 f) _ _ = _
    unfold s_m_finish_104
    rw [e57, n_1, pk_sub (by omega), pk_sub (by omega), nI_clamp (show N - 1 - k < 2 ^ 31 by omega), nI_clamp (show k < 2 ^ 31 by omega), nI_add]
    exact o_neg (by (first | (simp (maxSteps := 4000000) (disch := omega) only [n_0, n_1, n_2, n_3, n_4, n_5, n_6, n_7, n_8, n_9, n_10, n_11, n_12, n_13, n_14, n_15, n_16, n_18, n_20, n_24, n_31, n_32, n_34, n_40, n_41, n_44, n_45, n_47, n_48, n_57, n_58, n_59, n_61, n_63, n_64, n_65, n_68, n_90, n_91, n_93, n_95, n_97, n_100, n_122, n_123, n_125, n_128, n_144, n_200, n_255, n_256, n_300, n_400, n_600, n_1536, n_3980, n_4000, n_4001, n_4300, n_65536, l_0, l_1, l_2, l_3, l_4, l_10, l_48, l_63, l_255, l_300, nI_ltI, nI_leI, nI_eq, nI_clamp, nI_add, pk_sub, pk_mul, nI_ne1, ne1_nI, nI_pge, nI_nlt0, nI_l, lN_i, lN_add, lN_mul, lN_sub, pk_lLT, pk_lLE, pk_lEQ, lg_lt, lg_ge, lg_eq0, lg_le, lg_gt, lg_ltn, lg_gen, lg_eq0n, lg_len, lg_gtn, Nat.zero_le, Nat.not_lt_zero, not_false_eq_true, not_true_eq_false, true_and, and_true]; done) | (simp (maxSteps := 4000000) (disch := omega) only [n_0, n_1, n_2, n_3, n_4, n_5, n_6, n_7, n_8, n_9, n_10, n_11, n_12, n_13, n_14, n_15, n_16, n_18, n_20, n_24, n_31, n_32, n_34, n_40, n_41, n_44, n_45, n_47, n_48, n_57, n_58, n_59, n_61, n_63, n_64, n_65, n_68, n_90, n_91, n_93, n_95, n_97, n_100, n_122, n_123, n_125, n_128, n_144, n_200, n_255, n_256, n_300, n_400, n_600, n_1536, n_3980, n_4000, n_4001, n_4300, n_65536, l_0, l_1, l_2, l_3, l_4, l_10, l_48, l_63, l_255, l_300, nI_ltI, nI_leI, nI_eq, nI_clamp, nI_add, pk_sub, pk_mul, nI_ne1, ne1_nI, nI_pge, nI_nlt0, nI_l, lN_i, lN_add, lN_mul, lN_sub, pk_lLT, pk_lLE, pk_lEQ, lg_lt, lg_ge, lg_eq0, lg_le, lg_gt, lg_ltn, lg_gen, lg_eq0n, lg_len, lg_gtn, Nat.zero_le, Nat.not_lt_zero, not_false_eq_true, not_true_eq_false, true_and, and_true]; omega) | omega)) (o_pos (by (first | (simp (maxSteps := 4000000) (disch := omega) only [n_0, n_1, n_2, n_3, n_4, n_5, n_6, n_7, n_8, n_9, n_10, n_11, n_12, n_13, n_14, n_15, n_16, n_18, n_20, n_24, n_31, n_32, n_34, n_40, n_41, n_44, n_45, n_47, n_48, n_57, n_58, n_59, n_61, n_63, n_64, n_65, n_68, n_90, n_91, n_93, n_95, n_97, n_100, n_122, n_123, n_125, n_128, n_144, n_200, n_255, n_256, n_300, n_400, n_600, n_1536, n_3980, n_4000, n_4001, n_4300, n_65536, l_0, l_1, l_2, l_3, l_4, l_10, l_48, l_63, l_255, l_300, nI_ltI, nI_leI, nI_eq, nI_clamp, nI_add, pk_sub, pk_mul, nI_ne1, ne1_nI, nI_pge, nI_nlt0, nI_l, lN_i, lN_add, lN_mul, lN_sub, pk_lLT, pk_lLE, pk_lEQ, lg_lt, lg_ge, lg_eq0, lg_le, lg_gt, lg_ltn, lg_gen, lg_eq0n, lg_len, lg_gtn, Nat.zero_le, Nat.not_lt_zero, not_false_eq_true, not_true_eq_false, true_and, and_true]; done) | (simp (maxSteps := 4000000) (disch := omega) only [n_0, n_1, n_2, n_3, n_4, n_5, n_6, n_7, n_8, n_9, n_10, n_11, n_12, n_13, n_14, n_15, n_16, n_18, n_20, n_24, n_31, n_32, n_34, n_40, n_41, n_44, n_45, n_47, n_48, n_57, n_58, n_59, n_61, n_63, n_64, n_65, n_68, n_90, n_91, n_93, n_95, n_97, n_100, n_122, n_123, n_125, n_128, n_144, n_200, n_255, n_256, n_300, n_400, n_600, n_1536, n_3980, n_4000, n_4001, n_4300, n_65536, l_0, l_1, l_2, l_3, l_4, l_10, l_48, l_63, l_255, l_300, nI_ltI, nI_leI, nI_eq, nI_clamp, nI_add, pk_sub, pk_mul, nI_ne1, ne1_nI, nI_pge, nI_nlt0, nI_l, lN_i, lN_add, lN_mul, lN_sub, pk_lLT, pk_lLE, pk_lEQ, lg_lt, lg_ge, lg_eq0, lg_le, lg_gt, lg_ltn, lg_gen, lg_eq0n, lg_len, lg_gtn, Nat.zero_le, Nat.not_lt_zero, not_false_eq_true, not_true_eq_false, true_and, and_true]; omega) | omega)) (o_pos (by (first | (simp (maxSteps := 4000000) (disch := omega) only [n_0, n_1, n_2, n_3, n_4, n_5, n_6, n_7, n_8, n_9, n_10, n_11, n_12, n_13, n_14, n_15, n_16, n_18, n_20, n_24, n_31, n_32, n_34, n_40, n_41, n_44, n_45, n_47, n_48, n_57, n_58, n_59, n_61, n_63, n_64, n_65, n_68, n_90, n_91, n_93, n_95, n_97, n_100, n_122, n_123, n_125, n_128, n_144, n_200, n_255, n_256, n_300, n_400, n_600, n_1536, n_3980, n_4000, n_4001, n_4300, n_65536, l_0, l_1, l_2, l_3, l_4, l_10, l_48, l_63, l_255, l_300, nI_ltI, nI_leI, nI_eq, nI_clamp, nI_add, pk_sub, pk_mul, nI_ne1, ne1_nI, nI_pge, nI_nlt0, nI_l, lN_i, lN_add, lN_mul, lN_sub, pk_lLT, pk_lLE, pk_lEQ, lg_lt, lg_ge, lg_eq0, lg_le, lg_gt, lg_ltn, lg_gen, lg_eq0n, lg_len, lg_gtn, Nat.zero_le, Nat.not_lt_zero, not_false_eq_true, not_true_eq_false, true_and, and_true]; done) | (simp (maxSteps := 4000000) (disch := omega) only [n_0, n_1, n_2, n_3, n_4, n_5, n_6, n_7, n_8, n_9, n_10, n_11, n_12, n_13, n_14, n_15, n_16, n_18, n_20, n_24, n_31, n_32, n_34, n_40, n_41, n_44, n_45, n_47, n_48, n_57, n_58, n_59, n_61, n_63, n_64, n_65, n_68, n_90, n_91, n_93, n_95, n_97, n_100, n_122, n_123, n_125, n_128, n_144, n_200, n_255, n_256, n_300, n_400, n_600, n_1536, n_3980, n_4000, n_4001, n_4300, n_65536, l_0, l_1, l_2, l_3, l_4, l_10, l_48, l_63, l_255, l_300, nI_ltI, nI_leI, nI_eq, nI_clamp, nI_add, pk_sub, pk_mul, nI_ne1, ne1_nI, nI_pge, nI_nlt0, nI_l, lN_i, lN_add, lN_mul, lN_sub, pk_lLT, pk_lLE, pk_lEQ, lg_lt, lg_ge, lg_eq0, lg_le, lg_gt, lg_ltn, lg_gen, lg_eq0n, lg_len, lg_gtn, Nat.zero_le, Nat.not_lt_zero, not_false_eq_true, not_true_eq_false, true_and, and_true]; omega) | omega)) z1))
def uF (a k : Nat) : Prop := a = 1246 ∨ a = 1244 ∨ a = 4 ∨ (a = 3 ∧ k = 1)
def mF (a k : Nat) : Prop := a = 1299 ∨ a = 1308 ∨ (a = 1262 ∧ (k = 57 ∨ k = 58 ∨ k = 59 ∨ k = 64 ∨ k = 67 ∨ k = 72))
section FinMono
variable {a k : Nat}
theorem uP_uF (q : uP a k) : uF a k := by unfold uP at q; unfold uF; omega
theorem uF_62 (q : uF a k) : lt62 a k := by unfold uF at q; unfold lt62; omega
theorem mP_mF (q : mP a k) : mF a k := by unfold mP at q; unfold mF; omega
theorem mF_62 (q : mF a k) : ge62 a k := by unfold mF at q; unfold ge62; omega
end FinMono
theorem e_u_moveTo {c : XH} {n ga N t st : Nat} (L : LY c) (i1 : hi c 1244 1 = nI n) (i2 : hi c 1244 2 = nI ga) (g48 : ga = 4 ∨ ga = 8) (n4 : n ≤ 4000) (hN : N = rU (n + 4) ga) (c4 : N ≤ 4000) (a8 : hi c 1250 t = nI st) (t3 : t < 300) (stn : st ≤ n) : ∃ u, f_u_moveTo 3 (nI t) c = some (1, u) ∧ FRM uF c u ∧ (hi u 3 1 = nI N ∧ hi u 1244 1 = 0 ∧ hi u 1244 2 = 4 ∧ hi u 1244 7 = 0 ∧ hi u 1244 9 = 0 ∧ hi u 1244 10 = -1) ∧ (∀ k, k < 4 → cb u 4 k = v8 (lN (N - st)) k) ∧ (∀ k, 4 ≤ k → k < N - n → cb u 4 k = 0) ∧ ∀ k, N - n ≤ k → k < N → cb u 4 k = cb c 1246 (4000 - N + k) := by
  have ga8 : ga = 1 ∨ ga = 2 ∨ ga = 4 ∨ ga = 8 := by omega
  obtain ⟨r1, r2, r3⟩ := rU_f (x := n + 4) ga8
  have eR := e_t_roundUp (h := c) (x := n + 4) (a := ga) (by omega) ga8
  rw [← hN] at r1 r2 r3 eR
  obtain ⟨u1, y1, F1, y2, y3, y4, y5⟩ := e_u_grow (b := 4) (a := ga) L.b1245 i1 i2 (by omega) ga8 (by rw [← hN]; exact c4)
  rw [← hN] at y1 y2 y4 y5
  have B1 : BY u1 1245 1246 := by rw [F1.by]; exact L.b1245
  obtain ⟨u2, z1, F2, z2, z3⟩ := e_u_ref (s := N) (t := t) (st := st) B1 (by rw [F1.at (by simp [uP])]; exact a8) t3 (by omega) (by omega)
  have B2 : BY u2 1245 1246 := by rw [F2.by]; exact B1
  have B2f : BY u2 3 4 := by rw [F2.by, F1.by]; exact L.b3
  obtain ⟨f, x1, x2, x3⟩ := e_b_copy (f0 := 4000 - N) (t0 := 0) (m := N) B2f B2 (by decide) (by omega) (by omega)
  have i1' : hi u2 1244 1 = nI N := by rw [F2.at (by decide)]; exact y2
  obtain ⟨u3, hu3⟩ : ∃ u3, u3 = hri u2 4 f := ⟨_, rfl⟩
  rw [← hu3] at x1 x2
  have F3 : FRM uF u2 u3 := by rw [hu3]; exact FRM.refl.ri (fun _ => by simp [uF])
  have i3 : hi u3 1244 1 = nI N := by rw [hu3, hi_hri_ne (by decide)]; exact i1'
  obtain ⟨u4, hu4⟩ : ∃ u4, u4 = hsi (hsi (hsi (hsi (hsi (hsi u3 3 1 (nI N)) 1244 1 0) 1244 2 4) 1244 7 0) 1244 9 0) 1244 10 (-1) := ⟨_, rfl⟩
  have F4 : FRM uF u3 u4 := by
    rw [hu4]
    exact (((((FRM.refl.si (by simp [uF])).si (by simp [uF])).si (by simp [uF])).si (by simp [uF])).si (by simp [uF])).si (by simp [uF])
  have l3 : 3 < hz u3 ∧ hk u3 3 = 1 := by
    rw [F3.1.1, F3.1.2.2.1]
    exact ⟨B2f.1, B2f.2.1⟩
  have cb4 : ∀ k, k < N → cb u4 4 k = cb u2 1246 (4000 - N + k) := fun k hk' => by
    have := x2 k hk'
    rw [Nat.zero_add] at this
    rw [← this, hu4, cb_ne (by decide), cb_ne (by decide), cb_ne (by decide), cb_ne (by decide), cb_ne (by decide), cb_ne (by decide)]
  refine ⟨u4, ?_, ((F1.mono (fun _ _ => uP_uF)).trans (F2.mono (fun _ _ q => Or.inl q))).trans (F3.trans F4), ⟨?_, ?_, ?_, ?_, ?_, ?_⟩, fun k hk' => ?_, fun k h1 h2 => ?_, fun k h1 h2 => ?_⟩
  · unfold f_u_moveTo
    rw [i1, i2, n_4, nI_add]
    refine o_bind eR (o_pos (show nI N ≤ nI 4000 by (first | (simp (maxSteps := 4000000) (disch := omega) only [n_0, n_1, n_2, n_3, n_4, n_5, n_6, n_7, n_8, n_9, n_10, n_11, n_12, n_13, n_14, n_15, n_16, n_18, n_20, n_24, n_31, n_32, n_34, n_40, n_41, n_44, n_45, n_47, n_48, n_57, n_58, n_59, n_61, n_63, n_64, n_65, n_68, n_90, n_91, n_93, n_95, n_97, n_100, n_122, n_123, n_125, n_128, n_144, n_200, n_255, n_256, n_300, n_400, n_600, n_1536, n_3980, n_4000, n_4001, n_4300, n_65536, l_0, l_1, l_2, l_3, l_4, l_10, l_48, l_63, l_255, l_300, nI_ltI, nI_leI, nI_eq, nI_clamp, nI_add, pk_sub, pk_mul, nI_ne1, ne1_nI, nI_pge, nI_nlt0, nI_l, lN_i, lN_add, lN_mul, lN_sub, pk_lLT, pk_lLE, pk_lEQ, lg_lt, lg_ge, lg_eq0, lg_le, lg_gt, lg_ltn, lg_gen, lg_eq0n, lg_len, lg_gtn, Nat.zero_le, Nat.not_lt_zero, not_false_eq_true, not_true_eq_false, true_and, and_true]; done) | (simp (maxSteps := 4000000) (disch := omega) only [n_0, n_1, n_2, n_3, n_4, n_5, n_6, n_7, n_8, n_9, n_10, n_11, n_12, n_13, n_14, n_15, n_16, n_18, n_20, n_24, n_31, n_32, n_34, n_40, n_41, n_44, n_45, n_47, n_48, n_57, n_58, n_59, n_61, n_63, n_64, n_65, n_68, n_90, n_91, n_93, n_95, n_97, n_100, n_122, n_123, n_125, n_128, n_144, n_200, n_255, n_256, n_300, n_400, n_600, n_1536, n_3980, n_4000, n_4001, n_4300, n_65536, l_0, l_1, l_2, l_3, l_4, l_10, l_48, l_63, l_255, l_300, nI_ltI, nI_leI, nI_eq, nI_clamp, nI_add, pk_sub, pk_mul, nI_ne1, ne1_nI, nI_pge, nI_nlt0, nI_l, lN_i, lN_add, lN_mul, lN_sub, pk_lLT, pk_lLE, pk_lEQ, lg_lt, lg_ge, lg_eq0, lg_le, lg_gt, lg_ltn, lg_gen, lg_eq0n, lg_len, lg_gtn, Nat.zero_le, Nat.not_lt_zero, not_false_eq_true, not_true_eq_false, true_and, and_true]; omega) | omega)) ?_)
    dsimp only
    rw [i2]
    refine o_bind y1 ?_
    dsimp only
    rw [nI_l (show t < 2 ^ 31 by omega)]
    refine o_bind z1 (o_pos ⟨B2f.1, B2f.2.1⟩ ?_)
    dsimp only
    rw [i1', n_4000, pk_sub (by omega)]
    refine o_bind x1 (o_pos l3 ?_)
    dsimp only
    rw [i3]
    refine o_bind (v := ((), u4)) ?_ rfl
    unfold f_u_empty
    rw [hu4]
  · rw [hu4, hi_hsi_ne (by decide), hi_hsi_ne (by decide), hi_hsi_ne (by decide), hi_hsi_ne (by decide), hi_hsi_ne (by decide), hi_at]
  · rw [hu4, hi_nk (by decide), hi_nk (by decide), hi_nk (by decide), hi_nk (by decide), hi_at]
  · rw [hu4, hi_nk (by decide), hi_nk (by decide), hi_nk (by decide), hi_at]
  · rw [hu4, hi_nk (by decide), hi_nk (by decide), hi_at]
  · rw [hu4, hi_nk (by decide), hi_at]
  · rw [hu4, hi_at]
  · rw [cb4 k (by omega)]
    exact z2 k hk'
  · rw [cb4 k (by omega), cb_q (z3 _ (by omega))]
    exact y4 _ (by omega) (by omega)
  · rw [cb4 k h2, cb_q (z3 _ (by omega)), cb_q (y5 _ (by omega))]
theorem e_m_finGo {c : XH} {n N t st : Nat} (k57 : hi c 1262 57 = nI n) (n4 : n ≤ 4000) (nN : n + 4 ≤ N) (c4 : N ≤ 4000) (a9 : hi c 1303 t = nI st) (t3 : t < 300) (stn : st ≤ n) : ∃ p, (Option.bind (f_m_zeros (nI (N - (n + 4))) c) fun r17 => (Option.bind (f_m_reference (nI t) r17.2) fun r20 => (b_m_finish_104 100000 0 (hsi r20.2 1262 72 (hi r20.2 1262 57))))) = some (nI N, p) ∧ FRM mF c p ∧ (hi p 1262 72 = nI N ∧ hi p 1262 57 = 0 ∧ hi p 1262 58 = 4 ∧ hi p 1262 59 = 0 ∧ hi p 1262 64 = 0 ∧ hi p 1262 67 = -1) ∧ (∀ k, k < 4 → hi p 1308 k = nI (v8 (lN (N - st)) k)) ∧ (∀ k, 4 ≤ k → k < N - n → hi p 1308 k = 0) ∧ ∀ k, N - n ≤ k → k < N → hi p 1308 k = hi c 1299 (N - 1 - k) := by
  obtain ⟨p1, q1, G1, q2, q3, q4⟩ := e_m_zeros (h := c) (n := n) (k := N - (n + 4)) k57 (by omega)
  have en : n + (N - (n + 4)) = N - 4 := by omega
  rw [en] at q2 q4
  obtain ⟨p2, w1, G2, w2, w3, w4⟩ := e_m_ref (t := t) (st := st) q2 (by rw [G1.at (by simp [mP])]; exact a9) t3 (by omega) (by omega)
  rw [show N - 4 + 4 = N by omega] at w2 w4
  obtain ⟨p3, v1, G3, v2⟩ := e_m_finish_104 c4 N 0 100000 (hsi p2 1262 72 (nI N)) (by omega) (by omega) (by rw [hi_nk (by decide)]; exact w2) (fun j hj' => absurd hj' (Nat.not_lt_zero j))
  obtain ⟨p4, hp4⟩ : ∃ p4, p4 = hsi (hsi (hsi (hsi (hsi p3 1262 57 0) 1262 58 4) 1262 59 0) 1262 64 0) 1262 67 (-1) := ⟨_, rfl⟩
  have G4 : FRM mF p3 p4 := by
    rw [hp4]
    exact ((((FRM.refl.si (by simp [mF])).si (by simp [mF])).si (by simp [mF])).si (by simp [mF])).si (by simp [mF])
  have e72 : hi p4 1262 72 = nI N := by rw [hp4, hi_nk (by decide), hi_nk (by decide), hi_nk (by decide), hi_nk (by decide), hi_nk (by decide), G3.at (by decide), hi_at]
  have e08 : ∀ k, k < N → hi p4 1308 k = hi p2 1299 (N - 1 - k) := fun k hk' => by rw [hp4, hi_hsi_ne (by decide), hi_hsi_ne (by decide), hi_hsi_ne (by decide), hi_hsi_ne (by decide), hi_hsi_ne (by decide), v2 k hk', hi_hsi_ne (by decide)]
  refine ⟨p4, ?_, ((G1.mono (fun _ _ => mP_mF)).trans (G2.mono (fun _ _ => mP_mF))).trans (((FRM.refl.si (by simp [mF])).trans (G3.mono (fun _ _ q => Or.inr (Or.inl q)))).trans G4), ⟨e72, ?_, ?_, ?_, ?_, ?_⟩, fun k hk' => ?_, fun k h1 h2 => ?_, fun k h1 h2 => ?_⟩
  · refine o_bind q1 (o_bind w1 ?_)
    dsimp only
    rw [w2]
    refine v1.trans (o_bind (v := ((), p4)) (by unfold f_m_empty; rw [hp4]) ?_)
    dsimp only
    rw [e72]
  · rw [hp4, hi_nk (by decide), hi_nk (by decide), hi_nk (by decide), hi_nk (by decide), hi_at]
  · rw [hp4, hi_nk (by decide), hi_nk (by decide), hi_nk (by decide), hi_at]
  · rw [hp4, hi_nk (by decide), hi_nk (by decide), hi_at]
  · rw [hp4, hi_nk (by decide), hi_at]
  · rw [hp4, hi_at]
  · have := w4 (N - 1 - k - (N - 4)) (by omega)
    rw [show N - 4 + (N - 1 - k - (N - 4)) = N - 1 - k by omega] at this
    rw [e08 k (by omega), this]
    congr 2
    omega
  · rw [e08 k (by omega), w3 _ (by omega)]
    exact q4 _ (by omega) (by omega)
  · rw [e08 k h2, w3 _ (by omega), q3 _ (by omega)]
theorem op_finish {x : Int32} (H : RX h) (hm : hz h < 900000) : TH h (f_t_finish x) (f_m_finish x) (fun v w => v = w) [(1, 1), (0, 2), (2, 3)] := by
  obtain ⟨S, sg, sd, H⟩ := H
  have L := H.1
  have hm1 : hz h < 1000000 := by omega
  have sc := H.sc rfl
  have s1 : S < hz h := by have := sc.1; omega
  have k9 : hk h S = 9 := sc.2.2.1
  have h4 := H.2.1.1
  have hS := H.sS
  rcases H.op with ⟨o1, o2⟩ | ⟨t, -, -, -, -, -, o1, o2⟩
  · obtain ⟨n, tc, b1, b2, b3, b4, b5⟩ := H.2.2.2.2.2.2.2.1
    have n4 := b1.1
    obtain ⟨r, r01, cI, mI, rI⟩ := isThing2 b3 x.toInt64 3 (hi h S 5) (-1)
    have moT : ∀ g0 : XH, (∀ k, hi g0 1262 k = hi h 1262 k) → (∀ a, (1300 ≤ a ∧ a ≤ 1303) → hi g0 a = hi h a) → (∀ t, t < tc → hi (hsi g0 1262 0 0) 1300 t = hi h 1247 t ∧ hi (hsi g0 1262 0 0) 1301 t = hi h 1249 t ∧ hi (hsi g0 1262 0 0) 1302 t = hi h 1248 t) := by
      intro g0 q1 q2 t ht
      obtain ⟨so, st, a1, a2, a3, a4, a5, a6, a7, a8, a9, a10⟩ := b3.2.2.2 t ht
      rw [hi_hsi_ne (by decide), hi_hsi_ne (by decide), hi_hsi_ne (by decide), q2 1300 (by omega), q2 1301 (by omega), q2 1302 (by omega), a4, a5, a6, a7]
      exact ⟨rfl, rfl, rfl⟩
    have no : r = 0 → TH h (f_t_finish x) (f_m_finish x) (fun v w => v = w) [(1, 1), (0, 2), (2, 3)] := by
      intro r0
      subst r0
      refine TH.no H hm FRM.refl (j := 0) (k := 2) (by decide) ?_ (fun g1 W rd => ⟨0, hsi (hsi g1 1262 0 0) 1262 0 2, ?_, (FRM.refl.si (by simp [cP])).si (by simp [cP]), hi_at, fun X => X.tv H ?_ ?_ ?_ ?_⟩)
      · unfold f_t_finish
        exact o_bind (e_u_isOpen0 o1) (o_pos rfl (o_bind h4 (o_pos ⟨s1, k9⟩ (o_bind cI (o_neg (not_not_intro rfl) (o_pos hm1 rfl))))))
      · unfold f_m_finish b_m_finish_42
        refine o_pos (by rw [rd 1262 (by decide)]; exact o2) ?_
        rw [rd 1262 (by decide)]
        by_cases c7 : hi h 1262 7 = 0
        · exact o_pos c7 rfl
        · refine o_neg c7 ?_
          rcases H.2.2.2.2.2.2.1 with ⟨q1, -⟩ | ⟨q1, q2, q3, q4, q5, q6⟩
          · exact absurd q1 c7
          · rw [q3.1.2.2.2, ← q2.2.1.2.2.2]
            exact o_bind (mI _ (by rw [hi_nk (by decide), rd 1262 (by decide)]; exact b3.2.2.1) (moT g1 (fun k => by rw [rd 1262 (by decide)]) (fun a ha => rd a (by omega)))) (o_neg (not_not_intro rfl) rfl)
      · rw [hi_hsi_ne (by decide), hi_hsi_ne (by decide), rd 1 (by decide)]
      · rw [hi_nk (by decide), hi_nk (by decide), rd 1262 (by decide)]
      · rw [hi_hsi_ne (by decide), hi_hsi_ne (by decide), rd 5 (by decide)]
      · rw [hi_nk (by decide), hi_nk (by decide), rd 1262 (by decide)]
    rcases r01 with r0 | r1
    · exact no r0
    · subst r1
      obtain ⟨t, so, st, ht, ev, es, so135, st0, stn, a8, a9, a10⟩ := rI rfl
      have es3 : so = 3 ∨ ¬ so = 3 := by omega
      have has : hi h 1262 7 = 1 := by
        refine a10 ?_
        rcases es3 with q | q
        · exact q
        · exfalso
          have : nI so = nI 3 := es.symm
          rw [nI_eq (by omega) (by decide)] at this
          exact q this
      obtain ⟨C, M, W, -⟩ := H.hs has
      have tc3 := b3.1
      have ex : x = nI t := by
        have : x.toInt64.toInt32 = (lN t).toInt32 := by rw [ev]
        rw [lN_i, Int32.toInt32_toInt64] at this
        exact this
      obtain ⟨ga, gm, g1, g2, g3, g4, g5⟩ := b2
      have g6 := g5 has
      subst g6
      have ga8 : gm = 1 ∨ gm = 2 ∨ gm = 4 ∨ gm = 8 := by omega
      obtain ⟨r1, r2, r3⟩ := rU_f (x := n + 4) ga8
      obtain ⟨N, hN⟩ : ∃ N, N = rU (n + 4) gm := ⟨_, rfl⟩
      have eR := e_t_roundUp (h := h) (x := n + 4) (a := gm) (by omega) ga8
      rw [← hN] at r1 r2 r3 eR
      have h70 : ¬ hi h 1262 7 = 0 := by rw [has]; exact one0
      -- the model, up to the room
      have mt : ∀ (g0 : XH) X, (∀ k, hi g0 1262 k = hi h 1262 k) → (∀ a, (1300 ≤ a ∧ a ≤ 1303) → hi g0 a = hi h a) → (if nI N ≤ 4000 then (Option.bind (f_m_zeros (nI (N - (n + 4))) (hsi g0 1262 0 0)) fun r17 => (Option.bind (f_m_reference (nI t) r17.2) fun r20 => (b_m_finish_104 100000 0 (hsi r20.2 1262 72 (hi r20.2 1262 57))))) else (some (0, (hsi (hsi g0 1262 0 0) 1262 0 3)))) = X → f_m_finish x g0 = X := by
        intro g0 X q1 q2 q
        unfold f_m_finish
        rw [q1, q1, q1]
        have e45 : hi h 1262 45 = hi h S 5 := by rw [M.1.2.2.2, C.2.1.2.2.2]
        rw [e45]
        refine o_pos o2 (o_neg h70 (o_bind (mI _ (by rw [hi_nk (by decide), q1]; exact b3.2.2.1) (moT g0 q1 q2)) (o_pos one0 ?_)))
        dsimp only
        rw [show hi (hsi g0 1262 0 0) 1262 57 = nI n by rw [hi_nk (by decide), q1]; exact b1.2.2.1, show hi (hsi g0 1262 0 0) 1262 58 = nI gm by rw [hi_nk (by decide), q1]; exact g3]
        have fl := e_m_fill (h := hsi g0 1262 0 0) (n := n) (k := 4) (a := gm) (by omega) ga8
        rw [← hN] at fl
        refine o_bind fl ?_
        dsimp only
        rw [show hi (hsi g0 1262 0 0) 1262 57 = nI n by rw [hi_nk (by decide), q1]; exact b1.2.2.1, nI_add, n_4, nI_add, show n + (N - (n + 4)) + 4 = N by omega, ex]
        exact q
      by_cases c4 : N ≤ 4000
      · -- room
        have ga48 : gm = 4 ∨ gm = 8 := by omega
        obtain ⟨u, y1, F1, ⟨y2, y3, y4, y5, y6, y7⟩, y8, y9, y10⟩ := e_u_moveTo (t := t) (st := st) L b1.2.1 g2 ga48 n4 hN c4 a8 (by omega) stn
        have cl : f_t_finish x h = some (Sum.inl (nI N), u) := by
          unfold f_t_finish
          refine o_bind (e_u_isOpen0 o1) (o_pos rfl (o_bind h4 (o_pos ⟨s1, k9⟩ (o_bind cI (o_pos one0 ?_)))))
          dsimp only
          rw [ex]
          refine o_bind y1 (o_pos one0 ?_)
          dsimp only
          rw [y2]
        refine Or.inl ⟨_, _, cl, fun p0 O => ?_⟩
        have FL : FRM lt62 h p0 := (F1.mono (fun _ _ => uF_62)).ow O
        have FU : FRM uF h p0 := F1.ow O
        obtain ⟨q0, hq0⟩ : ∃ q0, q0 = hsi p0 1262 0 0 := ⟨_, rfl⟩
        have G0 : FRM (fun a k => a = 1262 ∧ k = 0) p0 q0 := by rw [hq0]; exact FRM.refl.si ⟨rfl, rfl⟩
        obtain ⟨p, z1, G1, ⟨z2, z3, z4, z5, z6, z7⟩, z8, z9, z10⟩ := e_m_finGo (c := q0) (n := n) (N := N) (t := t) (st := st) (by rw [G0.at (by simp), FL.up (by decide)]; exact b1.2.2.1) n4 r1 c4 (by rw [G0.at (by simp), FL.up (by decide)]; exact a9) (by omega) stn
        have mo : f_m_finish x p0 = some (nI N, p) := by
          refine mt p0 _ (fun k => FL.up (by decide)) (fun a ha => funext fun k => FL.up (by omega)) (o_pos (show nI N ≤ nI 4000 by (first | (simp (maxSteps := 4000000) (disch := omega) only [n_0, n_1, n_2, n_3, n_4, n_5, n_6, n_7, n_8, n_9, n_10, n_11, n_12, n_13, n_14, n_15, n_16, n_18, n_20, n_24, n_31, n_32, n_34, n_40, n_41, n_44, n_45, n_47, n_48, n_57, n_58, n_59, n_61, n_63, n_64, n_65, n_68, n_90, n_91, n_93, n_95, n_97, n_100, n_122, n_123, n_125, n_128, n_144, n_200, n_255, n_256, n_300, n_400, n_600, n_1536, n_3980, n_4000, n_4001, n_4300, n_65536, l_0, l_1, l_2, l_3, l_4, l_10, l_48, l_63, l_255, l_300, nI_ltI, nI_leI, nI_eq, nI_clamp, nI_add, pk_sub, pk_mul, nI_ne1, ne1_nI, nI_pge, nI_nlt0, nI_l, lN_i, lN_add, lN_mul, lN_sub, pk_lLT, pk_lLE, pk_lEQ, lg_lt, lg_ge, lg_eq0, lg_le, lg_gt, lg_ltn, lg_gen, lg_eq0n, lg_len, lg_gtn, Nat.zero_le, Nat.not_lt_zero, not_false_eq_true, not_true_eq_false, true_and, and_true]; done) | (simp (maxSteps := 4000000) (disch := omega) only [n_0, n_1, n_2, n_3, n_4, n_5, n_6, n_7, n_8, n_9, n_10, n_11, n_12, n_13, n_14, n_15, n_16, n_18, n_20, n_24, n_31, n_32, n_34, n_40, n_41, n_44, n_45, n_47, n_48, n_57, n_58, n_59, n_61, n_63, n_64, n_65, n_68, n_90, n_91, n_93, n_95, n_97, n_100, n_122, n_123, n_125, n_128, n_144, n_200, n_255, n_256, n_300, n_400, n_600, n_1536, n_3980, n_4000, n_4001, n_4300, n_65536, l_0, l_1, l_2, l_3, l_4, l_10, l_48, l_63, l_255, l_300, nI_ltI, nI_leI, nI_eq, nI_clamp, nI_add, pk_sub, pk_mul, nI_ne1, ne1_nI, nI_pge, nI_nlt0, nI_l, lN_i, lN_add, lN_mul, lN_sub, pk_lLT, pk_lLE, pk_lEQ, lg_lt, lg_ge, lg_eq0, lg_le, lg_gt, lg_ltn, lg_gen, lg_eq0n, lg_len, lg_gtn, Nat.zero_le, Nat.not_lt_zero, not_false_eq_true, not_true_eq_false, true_and, and_true]; omega) | omega)) ?_)
          rw [← hq0]
          exact z1
        have GL : FRM ge62 p0 p := (G0.mono (fun a k q => by rw [q.1]; exact Nat.le_refl _)).trans (G1.mono (fun _ _ => mF_62))
        have GM : FRM (fun a k => mF a k ∨ (a = 1262 ∧ k = 0)) p0 p := (G0.mono (fun a k q => Or.inr q)).trans (G1.mono (fun _ _ q => Or.inl q))
        have FA : FRM (fun a k => uF a k ∨ mF a k ∨ (a = 1262 ∧ k = 0)) h p := (FU.mono (fun _ _ q => Or.inl q)).trans (GM.mono (fun _ _ q => Or.inr q))
        have cel : ∀ a k, a < 1262 → hi p a k = hi u a k := fun a k ha => by rw [GL.lo ha, O.hiq]
        have cb4 : ∀ k, cb p 4 k = cb u 4 k := fun k => by unfold cb; rw [cel 4 k (by decide)]
        have X := FA.fx L
        have at' := X.2.2.1
        have jj := X.2.2.2.1
        have ro : RO p := by
          refine ⟨N, c4, by rw [cel 3 1 (by decide)]; exact y2, z2, fun k hk' => ?_⟩
          rw [cb4]
          by_cases i1 : k < 4
          · rw [z8 k i1, y8 k i1]
          · by_cases i2 : k < N - n
            · rw [z9 k (by omega) i2, y9 k (by omega) i2]
              rfl
            · rw [z10 k (by omega) hk', y10 k (by omega) hk', G0.at (by simp), FL.up (by decide), b1.2.2.2 _ (by omega)]
              congr 2
              omega
        have sc2 : SC p S := by rw [FA.sc]; exact sc
        clear eR cI mI rI cl mt y8 y9 y10 z8 z9 z10 z1 y1 moT no
        obtain ⟨L0, K, a1, a2, a3, a4, a5, a6, a7⟩ := H
        have nP : ∀ a k, ¬ (uF a k ∨ mF a k ∨ (a = 1262 ∧ k = 0)) ↔ ¬ uF a k ∧ ¬ mF a k ∧ ¬ (a = 1262 ∧ k = 0) := fun a k => by rw [not_or, not_or]
        refine ⟨_, _, mo, rfl, by rw [G1.at (by simp [mF]), hq0, hi_at], ⟨S, sg, sd, X.1, by rw [X.2.1.1, X.2.1.2]; exact K, a1.fx X ⟨by simp [uF, mF], by simp [uF, mF], fun k => ⟨by simp [uF, mF], by simp [uF, mF]⟩⟩, a2.fx X ⟨by simp [uF, mF], by simp [uF, mF]⟩, ro, a4.cg (fun k _ _ => at' 0 k (by decide) (by simp [uF, mF])) (fun k hk' => at' 1262 k (by decide) (by unfold uF mF; omega)), a5.cg sc2 (fun a h1 h2 => X.row (by omega) (fun k => by unfold uF mF; omega)) (fun a h1 h2 => jj a (by omega)) (fun k h1 h2 => at' 1262 k (by decide) (by unfold uF mF; omega)) (fun a h1 h2 => X.row (by omega) (fun k => by unfold uF mF; omega)) (jj _ (by decide)), ⟨0, 0, ⟨by decide, ?_, ?_, fun i hi' => absurd hi' (Nat.not_lt_zero i)⟩, ⟨4, 4, Or.inl rfl, ?_, ?_, by decide, fun _ => rfl⟩, ⟨by decide, ?_, ?_, fun i hi' => absurd hi' (Nat.not_lt_zero i)⟩, ⟨0, by decide, ?_, ?_, fun i hi' => absurd hi' (Nat.not_lt_zero i)⟩, Or.inl ⟨?_, z7⟩⟩, a7.cg (at' 1255 5 (by decide) (by simp [uF, mF])) (at' 1256 1 (by decide) (by simp [uF, mF])) (fun a h1 h2 => X.row (by omega) (fun k => by unfold uF mF; omega)) (fun k hk' => at' 1262 k (by decide) (by unfold uF mF; omega)) (fun a h1 h2 => X.row (by omega) (fun k => by unfold uF mF; omega))⟩, X.2.2.2.2⟩
        · rw [cel 1244 1 (by decide)]; exact y3
        · exact z3
        · rw [cel 1244 2 (by decide)]; exact y4
        · exact z4
        · rw [cel 1244 7 (by decide)]; exact y5
        · exact z5
        · rw [cel 1244 9 (by decide)]; exact y6
        · exact z6
        · rw [cel 1244 10 (by decide)]; exact y7
      · -- no room
        refine TH.no H hm FRM.refl (j := 2) (k := 3) (by decide) ?_ (fun g1 W rd => ⟨0, hsi (hsi g1 1262 0 0) 1262 0 3, ?_, (FRM.refl.si (by simp [cP])).si (by simp [cP]), hi_at, fun X => X.tv H ?_ ?_ ?_ ?_⟩)
        · unfold f_t_finish
          refine o_bind (e_u_isOpen0 o1) (o_pos rfl (o_bind h4 (o_pos ⟨s1, k9⟩ (o_bind cI (o_pos one0 ?_)))))
          refine o_bind (v := (0, h)) ?_ (o_neg (not_not_intro rfl) (o_pos hm1 rfl))
          unfold f_u_moveTo
          dsimp only
          rw [b1.2.1, g2, n_4, nI_add]
          exact o_bind eR (o_neg (show ¬ nI N ≤ nI 4000 by (first | (simp (maxSteps := 4000000) (disch := omega) only [n_0, n_1, n_2, n_3, n_4, n_5, n_6, n_7, n_8, n_9, n_10, n_11, n_12, n_13, n_14, n_15, n_16, n_18, n_20, n_24, n_31, n_32, n_34, n_40, n_41, n_44, n_45, n_47, n_48, n_57, n_58, n_59, n_61, n_63, n_64, n_65, n_68, n_90, n_91, n_93, n_95, n_97, n_100, n_122, n_123, n_125, n_128, n_144, n_200, n_255, n_256, n_300, n_400, n_600, n_1536, n_3980, n_4000, n_4001, n_4300, n_65536, l_0, l_1, l_2, l_3, l_4, l_10, l_48, l_63, l_255, l_300, nI_ltI, nI_leI, nI_eq, nI_clamp, nI_add, pk_sub, pk_mul, nI_ne1, ne1_nI, nI_pge, nI_nlt0, nI_l, lN_i, lN_add, lN_mul, lN_sub, pk_lLT, pk_lLE, pk_lEQ, lg_lt, lg_ge, lg_eq0, lg_le, lg_gt, lg_ltn, lg_gen, lg_eq0n, lg_len, lg_gtn, Nat.zero_le, Nat.not_lt_zero, not_false_eq_true, not_true_eq_false, true_and, and_true]; done) | (simp (maxSteps := 4000000) (disch := omega) only [n_0, n_1, n_2, n_3, n_4, n_5, n_6, n_7, n_8, n_9, n_10, n_11, n_12, n_13, n_14, n_15, n_16, n_18, n_20, n_24, n_31, n_32, n_34, n_40, n_41, n_44, n_45, n_47, n_48, n_57, n_58, n_59, n_61, n_63, n_64, n_65, n_68, n_90, n_91, n_93, n_95, n_97, n_100, n_122, n_123, n_125, n_128, n_144, n_200, n_255, n_256, n_300, n_400, n_600, n_1536, n_3980, n_4000, n_4001, n_4300, n_65536, l_0, l_1, l_2, l_3, l_4, l_10, l_48, l_63, l_255, l_300, nI_ltI, nI_leI, nI_eq, nI_clamp, nI_add, pk_sub, pk_mul, nI_ne1, ne1_nI, nI_pge, nI_nlt0, nI_l, lN_i, lN_add, lN_mul, lN_sub, pk_lLT, pk_lLE, pk_lEQ, lg_lt, lg_ge, lg_eq0, lg_le, lg_gt, lg_ltn, lg_gen, lg_eq0n, lg_len, lg_gtn, Nat.zero_le, Nat.not_lt_zero, not_false_eq_true, not_true_eq_false, true_and, and_true]; omega) | omega)) rfl)
        · exact mt g1 _ (fun k => by rw [rd 1262 (by decide)]) (fun a ha => rd a (by omega)) (o_neg (show ¬ nI N ≤ nI 4000 by (first | (simp (maxSteps := 4000000) (disch := omega) only [n_0, n_1, n_2, n_3, n_4, n_5, n_6, n_7, n_8, n_9, n_10, n_11, n_12, n_13, n_14, n_15, n_16, n_18, n_20, n_24, n_31, n_32, n_34, n_40, n_41, n_44, n_45, n_47, n_48, n_57, n_58, n_59, n_61, n_63, n_64, n_65, n_68, n_90, n_91, n_93, n_95, n_97, n_100, n_122, n_123, n_125, n_128, n_144, n_200, n_255, n_256, n_300, n_400, n_600, n_1536, n_3980, n_4000, n_4001, n_4300, n_65536, l_0, l_1, l_2, l_3, l_4, l_10, l_48, l_63, l_255, l_300, nI_ltI, nI_leI, nI_eq, nI_clamp, nI_add, pk_sub, pk_mul, nI_ne1, ne1_nI, nI_pge, nI_nlt0, nI_l, lN_i, lN_add, lN_mul, lN_sub, pk_lLT, pk_lLE, pk_lEQ, lg_lt, lg_ge, lg_eq0, lg_le, lg_gt, lg_ltn, lg_gen, lg_eq0n, lg_len, lg_gtn, Nat.zero_le, Nat.not_lt_zero, not_false_eq_true, not_true_eq_false, true_and, and_true]; done) | (simp (maxSteps := 4000000) (disch := omega) only [n_0, n_1, n_2, n_3, n_4, n_5, n_6, n_7, n_8, n_9, n_10, n_11, n_12, n_13, n_14, n_15, n_16, n_18, n_20, n_24, n_31, n_32, n_34, n_40, n_41, n_44, n_45, n_47, n_48, n_57, n_58, n_59, n_61, n_63, n_64, n_65, n_68, n_90, n_91, n_93, n_95, n_97, n_100, n_122, n_123, n_125, n_128, n_144, n_200, n_255, n_256, n_300, n_400, n_600, n_1536, n_3980, n_4000, n_4001, n_4300, n_65536, l_0, l_1, l_2, l_3, l_4, l_10, l_48, l_63, l_255, l_300, nI_ltI, nI_leI, nI_eq, nI_clamp, nI_add, pk_sub, pk_mul, nI_ne1, ne1_nI, nI_pge, nI_nlt0, nI_l, lN_i, lN_add, lN_mul, lN_sub, pk_lLT, pk_lLE, pk_lEQ, lg_lt, lg_ge, lg_eq0, lg_le, lg_gt, lg_ltn, lg_gen, lg_eq0n, lg_len, lg_gtn, Nat.zero_le, Nat.not_lt_zero, not_false_eq_true, not_true_eq_false, true_and, and_true]; omega) | omega)) rfl)
        · rw [hi_hsi_ne (by decide), hi_hsi_ne (by decide), rd 1 (by decide)]
        · rw [hi_nk (by decide), hi_nk (by decide), rd 1262 (by decide)]
        · rw [hi_hsi_ne (by decide), hi_hsi_ne (by decide), rd 5 (by decide)]
        · rw [hi_nk (by decide), hi_nk (by decide), rd 1262 (by decide)]
  · refine TH.no H hm FRM.refl (j := 1) (k := 1) (by decide) ?_ (fun g1 W rd => ⟨0, hsi (hsi g1 1262 0 0) 1262 0 1, ?_, (FRM.refl.si (by simp [cP])).si (by simp [cP]), hi_at, fun X => X.tv H ?_ ?_ ?_ ?_⟩)
    · unfold f_t_finish
      exact o_bind (e_u_isOpen1 o1) (o_neg one0 (o_pos hm1 rfl))
    · unfold f_m_finish
      exact o_neg (by rw [rd 1262 (by decide)]; exact o2) rfl
    · rw [hi_hsi_ne (by decide), hi_hsi_ne (by decide), rd 1 (by decide)]
    · rw [hi_nk (by decide), hi_nk (by decide), rd 1262 (by decide)]
    · rw [hi_hsi_ne (by decide), hi_hsi_ne (by decide), rd 5 (by decide)]
    · rw [hi_nk (by decide), hi_nk (by decide), rd 1262 (by decide)]
end Fin
