/-! The parsers: the type of a table's field -/

def tlP (t a a' k : Nat) : Prop := (a' = a ∧ (k = 3 ∨ k = 5)) ∨ (a' = t ∧ 5 ≤ k ∧ k ≤ 8)
def tyP (t a a' k : Nat) : Prop := (a' = a ∧ 2 ≤ k ∧ k ≤ 5) ∨ (a' = t ∧ (k = 3 ∨ (5 ≤ k ∧ k ≤ 8)))
def tyW (t na a k : Nat) : Prop := a = t + 1 ∧ k = na
def m135 (a k : Nat) : Prop := a = 1262 ∧ 13 ≤ k ∧ k ≤ 15
def tyM (j na a k : Nat) : Prop := (a = 1262 ∧ ((13 ≤ k ∧ k ≤ 15) ∨ k = 46)) ∨ (1286 ≤ a ∧ a ≤ 1288 ∧ k = j) ∨ (1295 ≤ a ∧ a ≤ 1297 ∧ k = na)
/-- the type of the table's field that is being read: known, or awaited -/
def FTy (c t a j na na1 : Nat) (g h : XH) : Prop := (na1 = na ∧ ∃ so o e : Nat, (hi g a 3 = nI so ∧ hi g a 4 = nI o ∧ hi g a 5 = nI e - 1) ∧ (hi h 1286 j = nI so ∧ hi h 1287 j = nI o ∧ hi h 1288 j = nI e - 1) ∧ ((e = 0 ∧ ((so = 0 ∧ o < 11) ∨ (so = 1 ∧ o = 0))) ∨ (so = 5 ∧ ((e = 1 ∧ o < 11) ∨ (e = 2 ∧ o = 0))))) ∨ (na1 = na + 1 ∧ hr g (t + 1) na = some a ∧ ∃ k0 w, k0 < c ∧ hi g 8 k0 = 2 ∧ hi g a 2 = nI k0 ∧ hi h 1295 na = nI k0 ∧ hi h 1296 na = nI w ∧ hi h 1297 na = nI j ∧ ((w = 0 ∧ hi g a 3 = -1 ∧ hi g a 5 = -1 ∧ hi h 1288 j = -1 ∧ hi h 1286 j = 3) ∨ (w = 1 ∧ hi g a 3 = 5 ∧ hi h 1286 j = 5)))
section Ty
variable {T : Nat → Nat} {n c S t k a j na : Nat} {g h u p : XH}
theorem FTy.fr {na1 : Nat} {P J W P2 J2 W2 : Nat → Nat → Prop} (A : FTy c t a j na na1 g h) (F : FRX P J W g u) (G : FRX P2 J2 W2 h p) (w : (∀ k, 2 ≤ k → k ≤ 5 → ¬ P a k) ∧ (∀ k, ¬ P 8 k) ∧ ¬ W (t + 1) na) (v : (∀ b, 1286 ≤ b → b ≤ 1288 → ¬ P2 b j) ∧ ∀ b, 1295 ≤ b → b ≤ 1297 → ¬ P2 b na) : FTy c t a j na na1 u p := by
  have e : ∀ k, 2 ≤ k → k ≤ 5 → hi u a k = hi g a k := fun k h1 h2 => F.at (w.1 k h1 h2)
  have m : ∀ b, 1286 ≤ b → b ≤ 1288 → hi p b j = hi h b j := fun b h1 h2 => G.at (v.1 b h1 h2)
  have q : ∀ b, 1295 ≤ b → b ≤ 1297 → hi p b na = hi h b na := fun b h1 h2 => G.at (v.2 b h1 h2)
  have e8 : hi u 8 = hi g 8 := F.row w.2.1
  unfold FTy
  rw [e 2 (by decide) (by decide), e 3 (by decide) (by decide), e 4 (by decide) (by decide), e 5 (by decide) (by decide), m 1286 (by decide) (by decide), m 1287 (by decide) (by decide), m 1288 (by decide) (by decide), q 1295 (by decide) (by decide), q 1296 (by decide) (by decide), q 1297 (by decide) (by decide), e8, F.rf w.2.2]
  exact A
/-- behind the type's name -/
theorem ty_tail {x2 : Int32} (A : ST T n c g h t S k) (q : ¬ (hi g 8 k = 0 ∨ hi g 8 k = 1)) (ak : a < hz g ∧ hk g a = 3) (at' : S ≤ a ∧ a < S + 615) (v : x2 = 0 ∨ x2 = 1) : (∃ u p k', b_p_readType_97 t a x2 g = some (1, u) ∧ b_m_tableType_148 x2 h = some ((), p) ∧ ST T n c u p t S k' ∧ FRX (tlP t a) sJ nW g u ∧ FRX m135 sJ nW h p ∧ (x2 = 0 → ∀ k, hi u a k = hi g a k) ∧ (x2 = 1 → hi u a 5 = hi g a 3 ∧ hi u a 3 = 5 ∧ ∀ k, k ≠ 3 → k ≠ 5 → hi u a k = hi g a k)) ∨ (∃ u p, b_p_readType_97 t a x2 g = some (0, u) ∧ b_m_tableType_148 x2 h = some ((), p) ∧ FLT u p t ∧ FRX (tlP t a) sJ nW g u ∧ FRX m135 sJ nW h p) := by
  have A' := A
  obtain ⟨P, K, kc', a5, a6, m13', m14'⟩ := A'
  have t17 := P.2.1
  have S1 := P.2.2.2.1
  obtain ⟨u, u1, u2, u3⟩ := e_p_adv A q
  have G1 : FRX m135 sJ nW h (hsi h 1262 13 (nI (k + 1))) := FRX.refl.si (by simp [m135])
  have F1 : FRX (tlP t a) sJ nW g u := u3.x (fun a' k z => by unfold tP at z; unfold tlP; omega) (fun k => rfl)
  have ua : ∀ k, hi u a k = hi g a k := fun k => u3.at (by unfold tP; omega)
  unfold b_p_readType_97 b_m_tableType_148
  rcases v with v | v <;> subst v
  · exact Or.inl ⟨u, _, k + 1, o_pos P.tk (o_bind u1 (o_neg (not_not_intro rfl) rfl)), o_bind (e_m_take m14' m13') (o_pos rfl rfl), u2, F1, G1, fun _ => ua, fun z => absurd z (by decide)⟩
  · have aku : a < hz u ∧ hk u a = 3 := by rw [F1.1.1, F1.1.2.2.1]; exact ak
    obtain ⟨w, ew⟩ : ∃ w, w = hsi (hsi u a 5 (hi u a 3)) a 3 5 := ⟨_, rfl⟩
    have Fw : FRX (xP S t) (xJ S t) (wW S t) u w := by
      rw [ew]
      exact (FRX.refl.si (Or.inr (Or.inr at'))).si (Or.inr (Or.inr at'))
    have F2 : FRX (tlP t a) sJ nW g w := by
      rw [ew]
      exact (F1.si (Or.inl ⟨rfl, Or.inr rfl⟩)).si (Or.inl ⟨rfl, Or.inl rfl⟩)
    have STw := u2.con Fw (FRX.refl (P := xM) (J := nJ) (W := nW))
    rcases exp2 (x := 93) STw (by decide) with ⟨y, p, x1, x2, x3, x4, x5⟩ | ⟨y, p, x1, x2, x3, x4, x5⟩
    · have ya : ∀ k, hi y a k = hi w a k := fun k => x4.at (by unfold tP; omega)
      refine Or.inl ⟨y, p, k + 1 + 1, o_pos P.tk (o_bind u1 (o_pos one0 (o_pos aku (o_pos u2.1.tk (o_bind (v := (1, y)) (by show f_p_expect t 93 (hsi (hsi u a 5 (hi u a 3)) a 3 5) = _; rw [← ew]; exact x1) (o_pos (Or.inr rfl) rfl)))))), o_bind (e_m_take m14' m13') (o_neg one0 (o_bind x2 rfl)), x3, F2.trans (x4.x (fun a' k z => by unfold tP at z; unfold tlP; omega) (fun k => rfl)), G1.trans (x5.x (fun a' k z => by unfold m13 at z; unfold m135; omega) (fun k => rfl)), fun z => absurd z (by decide), fun _ => ⟨?_, ?_, fun k k3 k5 => ?_⟩⟩
      · rw [ya, ew, hi_nk (by decide), hi_at, ua]
      · rw [ya, ew, hi_at]
      · rw [ya, ew, hi_nk k3, hi_nk k5, ua]
    · exact Or.inr ⟨y, p, o_pos P.tk (o_bind u1 (o_pos one0 (o_pos aku (o_pos u2.1.tk (o_bind (v := (0, y)) (by show f_p_expect t 93 (hsi (hsi u a 5 (hi u a 3)) a 3 5) = _; rw [← ew]; exact x1) (o_pos (Or.inl rfl) rfl)))))), o_bind (e_m_take m14' m13') (o_neg one0 (o_bind x2 rfl)), x3, F2.trans (x4.x (fun a' k z => by unfold tF at z; unfold tlP; omega) (fun k => rfl)), G1.trans (x5.x (fun a' k z => by unfold m14 at z; unfold m135; omega) (fun k => rfl))⟩
/-- what comes of a type -/
def TYO (T : Nat → Nat) (n c S t a j na : Nat) (g h : XH) (rc : Option (Int32 × XH)) (rm : Option (Unit × XH)) : Prop := (∃ u p k' na1, rc = some (1, u) ∧ rm = some ((), p) ∧ ST T n c u p t S k' ∧ FTy c t a j na na1 u p ∧ hi u t 3 = nI na1 ∧ hi p 1262 46 = nI na1 ∧ FRX (tyP t a) sJ (tyW t na) g u ∧ FRX (tyM j na) sJ nW h p) ∨ (∃ u p, rc = some (0, u) ∧ rm = some ((), p) ∧ FLT u p t ∧ FRX (tyP t a) sJ (tyW t na) g u ∧ FRX (tyM j na) sJ nW h p)
theorem e_m_isWord {w : Nat} (A : ST T n c g h t S k) (w0 : 11 ≤ w) (w1 : w < 17) : (hi g 8 k = nI (kc w) ∧ f_m_isWord (nI w) h = some (1, h)) ∨ (¬ hi g 8 k = nI (kc w) ∧ f_m_isWord (nI w) h = some (0, h)) := by
  obtain ⟨P, K, kc', a5, a6, m13', m14'⟩ := A
  have c4 := K.2.2.2.1
  have i := (K.2.2.2.2.1 k kc').word w0 w1
  unfold f_m_isWord
  rw [m13', nI_clamp (show k < 2 ^ 31 by omega)]
  by_cases q : hi g 8 k = nI (kc w)
  · obtain ⟨i1, i2⟩ := i.mp q
    exact Or.inl ⟨q, o_neg (not_not_intro m14') (o_pos (by (first | (simp (maxSteps := 4000000) (disch := omega) only [n_0, n_1, n_2, n_3, n_4, n_5, n_6, n_7, n_8, n_9, n_10, n_11, n_12, n_13, n_14, n_15, n_16, n_18, n_20, n_24, n_31, n_32, n_34, n_40, n_41, n_44, n_45, n_47, n_48, n_57, n_58, n_59, n_61, n_63, n_64, n_65, n_68, n_90, n_91, n_93, n_95, n_97, n_100, n_122, n_123, n_125, n_128, n_144, n_200, n_255, n_256, n_300, n_400, n_600, n_1536, n_3980, n_4000, n_4001, n_4300, n_65536, l_0, l_1, l_2, l_3, l_4, l_10, l_48, l_63, l_255, l_300, nI_ltI, nI_leI, nI_eq, nI_clamp, nI_add, pk_sub, pk_mul, nI_ne1, ne1_nI, nI_pge, nI_nlt0, nI_l, lN_i, lN_add, lN_mul, lN_sub, pk_lLT, pk_lLE, pk_lEQ, lg_lt, lg_ge, lg_eq0, lg_le, lg_gt, lg_ltn, lg_gen, lg_eq0n, lg_len, lg_gtn, Nat.zero_le, Nat.not_lt_zero, not_false_eq_true, not_true_eq_false, true_and, and_true]; done) | (simp (maxSteps := 4000000) (disch := omega) only [n_0, n_1, n_2, n_3, n_4, n_5, n_6, n_7, n_8, n_9, n_10, n_11, n_12, n_13, n_14, n_15, n_16, n_18, n_20, n_24, n_31, n_32, n_34, n_40, n_41, n_44, n_45, n_47, n_48, n_57, n_58, n_59, n_61, n_63, n_64, n_65, n_68, n_90, n_91, n_93, n_95, n_97, n_100, n_122, n_123, n_125, n_128, n_144, n_200, n_255, n_256, n_300, n_400, n_600, n_1536, n_3980, n_4000, n_4001, n_4300, n_65536, l_0, l_1, l_2, l_3, l_4, l_10, l_48, l_63, l_255, l_300, nI_ltI, nI_leI, nI_eq, nI_clamp, nI_add, pk_sub, pk_mul, nI_ne1, ne1_nI, nI_pge, nI_nlt0, nI_l, lN_i, lN_add, lN_mul, lN_sub, pk_lLT, pk_lLE, pk_lEQ, lg_lt, lg_ge, lg_eq0, lg_le, lg_gt, lg_ltn, lg_gen, lg_eq0n, lg_len, lg_gtn, Nat.zero_le, Nat.not_lt_zero, not_false_eq_true, not_true_eq_false, true_and, and_true]; omega) | omega)) (o_neg (not_not_intro i1) (o_neg (not_not_intro i2) rfl)))⟩
  · refine Or.inr ⟨q, o_neg (not_not_intro m14') (o_pos (by (first | (simp (maxSteps := 4000000) (disch := omega) only [n_0, n_1, n_2, n_3, n_4, n_5, n_6, n_7, n_8, n_9, n_10, n_11, n_12, n_13, n_14, n_15, n_16, n_18, n_20, n_24, n_31, n_32, n_34, n_40, n_41, n_44, n_45, n_47, n_48, n_57, n_58, n_59, n_61, n_63, n_64, n_65, n_68, n_90, n_91, n_93, n_95, n_97, n_100, n_122, n_123, n_125, n_128, n_144, n_200, n_255, n_256, n_300, n_400, n_600, n_1536, n_3980, n_4000, n_4001, n_4300, n_65536, l_0, l_1, l_2, l_3, l_4, l_10, l_48, l_63, l_255, l_300, nI_ltI, nI_leI, nI_eq, nI_clamp, nI_add, pk_sub, pk_mul, nI_ne1, ne1_nI, nI_pge, nI_nlt0, nI_l, lN_i, lN_add, lN_mul, lN_sub, pk_lLT, pk_lLE, pk_lEQ, lg_lt, lg_ge, lg_eq0, lg_le, lg_gt, lg_ltn, lg_gen, lg_eq0n, lg_len, lg_gtn, Nat.zero_le, Nat.not_lt_zero, not_false_eq_true, not_true_eq_false, true_and, and_true]; done) | (simp (maxSteps := 4000000) (disch := omega) only [n_0, n_1, n_2, n_3, n_4, n_5, n_6, n_7, n_8, n_9, n_10, n_11, n_12, n_13, n_14, n_15, n_16, n_18, n_20, n_24, n_31, n_32, n_34, n_40, n_41, n_44, n_45, n_47, n_48, n_57, n_58, n_59, n_61, n_63, n_64, n_65, n_68, n_90, n_91, n_93, n_95, n_97, n_100, n_122, n_123, n_125, n_128, n_144, n_200, n_255, n_256, n_300, n_400, n_600, n_1536, n_3980, n_4000, n_4001, n_4300, n_65536, l_0, l_1, l_2, l_3, l_4, l_10, l_48, l_63, l_255, l_300, nI_ltI, nI_leI, nI_eq, nI_clamp, nI_add, pk_sub, pk_mul, nI_ne1, ne1_nI, nI_pge, nI_nlt0, nI_l, lN_i, lN_add, lN_mul, lN_sub, pk_lLT, pk_lLE, pk_lEQ, lg_lt, lg_ge, lg_eq0, lg_le, lg_gt, lg_ltn, lg_gen, lg_eq0n, lg_len, lg_gtn, Nat.zero_le, Nat.not_lt_zero, not_false_eq_true, not_true_eq_false, true_and, and_true]; omega) | omega)) ?_)⟩
    by_cases s1 : hi h 1266 k = 2
    · exact o_neg (not_not_intro s1) (o_pos (fun z => q (i.mpr ⟨s1, z⟩)) rfl)
    · exact o_pos s1 rfl
/-- the type's name -/
theorem ty_core {x2 : Int32} (A : ST T n c g h t S k) (ak : a < hz g ∧ hk g a = 3) (at' : S ≤ a ∧ a < S + 615) (hj' : j < 256) (hna : na < 321) (v : x2 = 0 ∨ x2 = 1) (e3 : hi g t 3 = nI na) (e46 : hi h 1262 46 = nI na) (g3 : hi g a 3 = -1) (g4 : hi g a 4 = 0) (g5 : hi g a 5 = -1) (m87 : hi h 1287 j = 0) (m88 : hi h 1288 j = -1) : TYO T n c S t a j na g h (b_p_readType_23 t a x2 g) (b_m_tableType_37 (nI j) x2 h) := by
  have A' := A
  obtain ⟨P, K, kc', a5, a6, m13', m14'⟩ := A'
  have t17 := P.2.1
  have S1 := P.2.2.2.1
  have c4 := K.2.2.2.1
  have jc : (nI j).toNatClampNeg = j := nI_clamp (by omega)
  have j256 : (0 : Int32) ≤ nI j ∧ nI j < nI 256 := ⟨nI_pos' (by omega), by (first | (simp (maxSteps := 4000000) (disch := omega) only [n_0, n_1, n_2, n_3, n_4, n_5, n_6, n_7, n_8, n_9, n_10, n_11, n_12, n_13, n_14, n_15, n_16, n_18, n_20, n_24, n_31, n_32, n_34, n_40, n_41, n_44, n_45, n_47, n_48, n_57, n_58, n_59, n_61, n_63, n_64, n_65, n_68, n_90, n_91, n_93, n_95, n_97, n_100, n_122, n_123, n_125, n_128, n_144, n_200, n_255, n_256, n_300, n_400, n_600, n_1536, n_3980, n_4000, n_4001, n_4300, n_65536, l_0, l_1, l_2, l_3, l_4, l_10, l_48, l_63, l_255, l_300, nI_ltI, nI_leI, nI_eq, nI_clamp, nI_add, pk_sub, pk_mul, nI_ne1, ne1_nI, nI_pge, nI_nlt0, nI_l, lN_i, lN_add, lN_mul, lN_sub, pk_lLT, pk_lLE, pk_lEQ, lg_lt, lg_ge, lg_eq0, lg_le, lg_gt, lg_ltn, lg_gen, lg_eq0n, lg_len, lg_gtn, Nat.zero_le, Nat.not_lt_zero, not_false_eq_true, not_true_eq_false, true_and, and_true]; done) | (simp (maxSteps := 4000000) (disch := omega) only [n_0, n_1, n_2, n_3, n_4, n_5, n_6, n_7, n_8, n_9, n_10, n_11, n_12, n_13, n_14, n_15, n_16, n_18, n_20, n_24, n_31, n_32, n_34, n_40, n_41, n_44, n_45, n_47, n_48, n_57, n_58, n_59, n_61, n_63, n_64, n_65, n_68, n_90, n_91, n_93, n_95, n_97, n_100, n_122, n_123, n_125, n_128, n_144, n_200, n_255, n_256, n_300, n_400, n_600, n_1536, n_3980, n_4000, n_4001, n_4300, n_65536, l_0, l_1, l_2, l_3, l_4, l_10, l_48, l_63, l_255, l_300, nI_ltI, nI_leI, nI_eq, nI_clamp, nI_add, pk_sub, pk_mul, nI_ne1, ne1_nI, nI_pge, nI_nlt0, nI_l, lN_i, lN_add, lN_mul, lN_sub, pk_lLT, pk_lLE, pk_lEQ, lg_lt, lg_ge, lg_eq0, lg_le, lg_gt, lg_ltn, lg_gen, lg_eq0n, lg_len, lg_gtn, Nat.zero_le, Nat.not_lt_zero, not_false_eq_true, not_true_eq_false, true_and, and_true]; omega) | omega)⟩
  -- from the sort on: g1, h1 stand for both heaps behind the first writes
  have go : ∀ (x : Int32) (g1 h1 : XH) (na1 : Nat), ST T n c g1 h1 t S k → FRX (tyP t a) sJ (tyW t na) g g1 → FRX (tyM j na) sJ nW h h1 → ¬ (hi g 8 k = 0 ∨ hi g 8 k = 1) → hi g1 t 3 = nI na1 → hi h1 1262 46 = nI na1 → (∀ (u p : XH) (y z : Int32), (x2 = 0 → hi p 1286 j = x ∧ hi p 1288 j = -1) → (x2 = 1 → hi p 1286 j = 5 ∧ hi p 1288 j = x) → (∀ b k, b ≠ 1262 → (b ≠ 1286 ∧ b ≠ 1288) → hi p b k = hi h1 b k) → (x2 = 0 → ∀ k, hi u a k = hi g1 a k) → (x2 = 1 → hi u a 5 = hi g1 a 3 ∧ hi u a 3 = 5 ∧ ∀ k, k ≠ 3 → k ≠ 5 → hi u a k = hi g1 a k) → (∀ k, hi u 8 k = hi g 8 k) → hr u (t + 1) na = hr g1 (t + 1) na → FTy c t a j na na1 u p) → hi h1 1288 j = -1 → TYO T n c S t a j na g h (b_p_readType_97 t a x2 g1) (b_m_tableType_122 (nI j) x2 x h1) := by
    intro x g1 h1 na1 ST1 F1 G1 nq t3 m46 fin h88
    have ak1 : a < hz g1 ∧ hk g1 a = 3 := by rw [F1.1.1, F1.1.2.2.1]; exact ak
    obtain ⟨h2, eh2⟩ : ∃ h2, h2 = (if x2 = 0 then hsi h1 1286 j x else hsi (hsi h1 1286 j 5) 1288 j x) := ⟨_, rfl⟩
    have cm : b_m_tableType_122 (nI j) x2 x h1 = b_m_tableType_148 x2 h2 := by
      unfold b_m_tableType_122 b_m_tableType_136
      rw [jc]
      rcases v with v | v <;> subst v
      · have e : h2 = hsi h1 1286 j x := eh2.trans (if_pos rfl)
        rw [e]
        exact o_pos rfl (o_pos j256 (o_pos rfl rfl))
      · have e : h2 = hsi (hsi h1 1286 j 5) 1288 j x := eh2.trans (if_neg one0)
        rw [e]
        exact o_neg one0 (o_pos j256 (o_neg one0 (o_pos j256 rfl)))
    have G2 : FRX (tyM j na) sJ nW h1 h2 := by
      rw [eh2]
      rcases v with v | v <;> subst v
      · rw [if_pos rfl]; exact FRX.refl.si (by simp [tyM])
      · rw [if_neg one0]; exact (FRX.refl.si (by simp [tyM])).si (by simp [tyM])
    have Gx : FRX xM nJ nW h1 h2 := by
      rw [eh2]
      rcases v with v | v <;> subst v
      · rw [if_pos rfl]; exact FRX.refl.si (by simp [xM])
      · rw [if_neg one0]; exact (FRX.refl.si (by simp [xM])).si (by simp [xM])
    have ST2 := ST1.con (FRX.refl (P := xP S t) (J := xJ S t) (W := wW S t)) Gx
    have n8 : ∀ k, hi g1 8 k = hi g 8 k := fun k => F1.at (by unfold tyP; omega)
    rw [cm]
    rcases ty_tail (x2 := x2) ST2 (by rw [n8]; exact nq) ak1 at' v with ⟨u, p, k', w1, w2, w3, w4, w5, w6, w7⟩ | ⟨u, p, w1, w2, w3, w4, w5⟩
    · have pb : ∀ b k, b ≠ 1262 → hi p b k = hi h2 b k := fun b k hb => w5.at (fun z => hb z.1)
      refine Or.inl ⟨u, p, k', na1, w1, w2, w3, fin u p 0 0 (fun z => ?_) (fun z => ?_) (fun b k b1 b2 => ?_) w6 w7 (fun k => ?_) (w4.rf id), ?_, ?_, F1.trans (w4.mono (fun a' k z => by unfold tlP at z; unfold tyP; omega) (fun _ _ z => z) (fun _ _ z => z.elim)), G1.trans (G2.trans (w5.mono (fun a' k z => Or.inl ⟨z.1, Or.inl z.2⟩) (fun _ _ z => z) (fun _ _ z => z)))⟩
      · rw [pb _ _ (by decide), pb _ _ (by decide), eh2, if_pos z]
        exact ⟨hi_at, by rw [hi_hsi_ne (by decide)]; exact h88⟩
      · rw [pb _ _ (by decide), pb _ _ (by decide), eh2, if_neg (by rw [z]; decide)]
        exact ⟨by rw [hi_hsi_ne (by decide), hi_at], hi_at⟩
      · rw [pb _ _ b1, eh2]
        by_cases cx : x2 = 0
        · rw [if_pos cx, hi_hsi_ne b2.1]
        · rw [if_neg cx, hi_hsi_ne b2.2, hi_hsi_ne b2.1]
      · rw [w4.at (by unfold tlP; omega), n8]
      · rw [w4.at (by unfold tlP; omega)]; exact t3
      · rw [w5.at (by simp [m135]), eh2]
        by_cases cx : x2 = 0
        · rw [if_pos cx, hi_hsi_ne (by decide)]; exact m46
        · rw [if_neg cx, hi_hsi_ne (by decide), hi_hsi_ne (by decide)]; exact m46
    · exact Or.inr ⟨u, p, w1, w2, w3, F1.trans (w4.mono (fun a' k z => by unfold tlP at z; unfold tyP; omega) (fun _ _ z => z) (fun _ _ z => z.elim)), G1.trans (G2.trans (w5.mono (fun a' k z => Or.inl ⟨z.1, Or.inl z.2⟩) (fun _ _ z => z) (fun _ _ z => z)))⟩
  have e1m : nI 0 - 1 = -1 := by decide
  have e1n : nI 1 - 1 = 0 := by decide
  have e1o : nI 2 - 1 = 1 := by decide
  unfold b_p_readType_23 b_m_tableType_37
  rcases e_m_isScalar A with ⟨q, w, w1, w2, w3, w4⟩ | ⟨q, w4⟩
  · -- a scalar
    have tw : Int64.toInt32 (lN w) = nI w := by (first | (simp (maxSteps := 4000000) (disch := omega) only [n_0, n_1, n_2, n_3, n_4, n_5, n_6, n_7, n_8, n_9, n_10, n_11, n_12, n_13, n_14, n_15, n_16, n_18, n_20, n_24, n_31, n_32, n_34, n_40, n_41, n_44, n_45, n_47, n_48, n_57, n_58, n_59, n_61, n_63, n_64, n_65, n_68, n_90, n_91, n_93, n_95, n_97, n_100, n_122, n_123, n_125, n_128, n_144, n_200, n_255, n_256, n_300, n_400, n_600, n_1536, n_3980, n_4000, n_4001, n_4300, n_65536, l_0, l_1, l_2, l_3, l_4, l_10, l_48, l_63, l_255, l_300, nI_ltI, nI_leI, nI_eq, nI_clamp, nI_add, pk_sub, pk_mul, nI_ne1, ne1_nI, nI_pge, nI_nlt0, nI_l, lN_i, lN_add, lN_mul, lN_sub, pk_lLT, pk_lLE, pk_lEQ, lg_lt, lg_ge, lg_eq0, lg_le, lg_gt, lg_ltn, lg_gen, lg_eq0n, lg_len, lg_gtn, Nat.zero_le, Nat.not_lt_zero, not_false_eq_true, not_true_eq_false, true_and, and_true]; done) | (simp (maxSteps := 4000000) (disch := omega) only [n_0, n_1, n_2, n_3, n_4, n_5, n_6, n_7, n_8, n_9, n_10, n_11, n_12, n_13, n_14, n_15, n_16, n_18, n_20, n_24, n_31, n_32, n_34, n_40, n_41, n_44, n_45, n_47, n_48, n_57, n_58, n_59, n_61, n_63, n_64, n_65, n_68, n_90, n_91, n_93, n_95, n_97, n_100, n_122, n_123, n_125, n_128, n_144, n_200, n_255, n_256, n_300, n_400, n_600, n_1536, n_3980, n_4000, n_4001, n_4300, n_65536, l_0, l_1, l_2, l_3, l_4, l_10, l_48, l_63, l_255, l_300, nI_ltI, nI_leI, nI_eq, nI_clamp, nI_add, pk_sub, pk_mul, nI_ne1, ne1_nI, nI_pge, nI_nlt0, nI_l, lN_i, lN_add, lN_mul, lN_sub, pk_lLT, pk_lLE, pk_lEQ, lg_lt, lg_ge, lg_eq0, lg_le, lg_gt, lg_ltn, lg_gen, lg_eq0n, lg_len, lg_gtn, Nat.zero_le, Nat.not_lt_zero, not_false_eq_true, not_true_eq_false, true_and, and_true]; omega) | omega)
    obtain ⟨g1, eg1⟩ : ∃ g1, g1 = hsi (hsi g a 3 0) a 4 (nI w) := ⟨_, rfl⟩
    obtain ⟨h1, eh1⟩ : ∃ h1, h1 = hsi h 1287 j (nI w) := ⟨_, rfl⟩
    have Fx : FRX (xP S t) (xJ S t) (wW S t) g g1 := by
      rw [eg1]
      exact (FRX.refl.si (Or.inr (Or.inr at'))).si (Or.inr (Or.inr at'))
    have Gx : FRX xM nJ nW h h1 := by rw [eh1]; exact FRX.refl.si (by simp [xM])
    have r := go 0 g1 h1 na (A.con Fx Gx) (by rw [eg1]; exact (FRX.refl.si (Or.inl ⟨rfl, by decide, by decide⟩)).si (Or.inl ⟨rfl, by decide, by decide⟩)) (by rw [eh1]; exact FRX.refl.si (by simp [tyM])) (by rw [q]; decide) (by rw [eg1, hi_hsi_ne (by omega), hi_hsi_ne (by omega)]; exact e3) (by rw [eh1, hi_hsi_ne (by decide)]; exact e46) (by
      intro u p y z f0 f1 f2 f3 f4 f5 f6
      have p87 : hi p 1287 j = nI w := by rw [f2 _ _ (by decide) (by decide), eh1, hi_at]
      have x3 : hi g1 a 3 = 0 := by rw [eg1, hi_nk (by decide), hi_at]
      have x4 : hi g1 a 4 = nI w := by rw [eg1, hi_at]
      have x5 : hi g1 a 5 = -1 := by rw [eg1, hi_nk (by decide), hi_nk (by decide)]; exact g5
      rcases v with v | v
      · exact Or.inl ⟨rfl, 0, w, 0, ⟨by rw [f3 v]; exact x3, by rw [f3 v]; exact x4, by rw [f3 v, x5, e1m]⟩, ⟨(f0 v).1, p87, by rw [(f0 v).2, e1m]⟩, Or.inl ⟨rfl, Or.inl ⟨rfl, w1⟩⟩⟩
      · obtain ⟨y1, y2, y3⟩ := f4 v
        exact Or.inl ⟨rfl, 5, w, 1, ⟨y2, by rw [y3 4 (by decide) (by decide)]; exact x4, by rw [y1, x3, e1n]⟩, ⟨(f1 v).1, p87, by rw [(f1 v).2, e1n]⟩, Or.inr ⟨rfl, Or.inl ⟨rfl, w1⟩⟩⟩) (by rw [eh1, hi_hsi_ne (by decide)]; exact m88)
    have hd : f_x_head (hi g t 5) (hsi g a 3 0) = some (lN w, hsi g a 3 0) := by
      rw [a5, e_x_head (u := hsi g a 3 0) K kc' (by rw [hi_hsi_ne (by omega)]), hj_hsi, w2]
    have c1 : (if t < hz g ∧ hk g t = 7 then (if ¬ (hi g t 6) = 4 then (if ¬ (hi g t 6) = 5 then (if ¬ (hi g t 6) = 2 then (Option.bind (f_p_fail t 2 g) fun r16 => (if r16.1 = 0 ∨ r16.1 = 1 then (some (r16.1, r16.2)) else none)) else (Option.bind (f_p_awaitDefinition t a (hi g t 5) g) fun r20 => (b_p_readType_97 t a x2 r20.2))) else (if a < hz g ∧ hk g a = 3 then (b_p_readType_97 t a x2 (hsi g a 3 1)) else none)) else (if a < hz g ∧ hk g a = 3 then (Option.bind (hr g t 0) fun b25 => (if b25 = 7 then (Option.bind (f_x_head (hi g t 5) (hsi g a 3 0)) fun r28 => (if a < hz r28.2 ∧ hk r28.2 a = 3 then (b_p_readType_97 t a x2 (hsi r28.2 a 4 (Int64.toInt32 r28.1))) else none)) else none)) else none)) else none) = b_p_readType_97 t a x2 g1 := by
      refine o_pos P.tk (o_neg (not_not_intro (by rw [a6]; exact q)) (o_pos ak (o_bind P.2.2.2.2.2.1 (o_pos rfl (o_bind hd (o_pos ak ?_))))))
      show b_p_readType_97 t a x2 (hsi (hsi g a 3 0) a 4 (Int64.toInt32 (lN w))) = _
      rw [tw, ← eg1]
    have c2 : (Option.bind (f_m_isScalar h) fun r28 => (if r28.1 = 0 then (Option.bind (f_m_isWord 16 r28.2) fun r32 => (if r32.1 = 0 then (b_m_tableType_62 (nI j) x2 3 r32.2) else (b_m_tableType_62 (nI j) x2 1 r32.2))) else (b_m_tableType_62 (nI j) x2 0 r28.2))) = b_m_tableType_122 (nI j) x2 0 h1 := by
      refine o_bind w4 (o_neg one0 ?_)
      unfold b_m_tableType_62 b_m_tableType_80 b_m_tableType_99
      rw [m13', nI_clamp (show k < 2 ^ 31 by omega), jc, w3, ← eh1]
      exact o_pos (by decide) (o_neg (not_not_intro rfl) (o_pos (by (first | (simp (maxSteps := 4000000) (disch := omega) only [n_0, n_1, n_2, n_3, n_4, n_5, n_6, n_7, n_8, n_9, n_10, n_11, n_12, n_13, n_14, n_15, n_16, n_18, n_20, n_24, n_31, n_32, n_34, n_40, n_41, n_44, n_45, n_47, n_48, n_57, n_58, n_59, n_61, n_63, n_64, n_65, n_68, n_90, n_91, n_93, n_95, n_97, n_100, n_122, n_123, n_125, n_128, n_144, n_200, n_255, n_256, n_300, n_400, n_600, n_1536, n_3980, n_4000, n_4001, n_4300, n_65536, l_0, l_1, l_2, l_3, l_4, l_10, l_48, l_63, l_255, l_300, nI_ltI, nI_leI, nI_eq, nI_clamp, nI_add, pk_sub, pk_mul, nI_ne1, ne1_nI, nI_pge, nI_nlt0, nI_l, lN_i, lN_add, lN_mul, lN_sub, pk_lLT, pk_lLE, pk_lEQ, lg_lt, lg_ge, lg_eq0, lg_le, lg_gt, lg_ltn, lg_gen, lg_eq0n, lg_len, lg_gtn, Nat.zero_le, Nat.not_lt_zero, not_false_eq_true, not_true_eq_false, true_and, and_true]; done) | (simp (maxSteps := 4000000) (disch := omega) only [n_0, n_1, n_2, n_3, n_4, n_5, n_6, n_7, n_8, n_9, n_10, n_11, n_12, n_13, n_14, n_15, n_16, n_18, n_20, n_24, n_31, n_32, n_34, n_40, n_41, n_44, n_45, n_47, n_48, n_57, n_58, n_59, n_61, n_63, n_64, n_65, n_68, n_90, n_91, n_93, n_95, n_97, n_100, n_122, n_123, n_125, n_128, n_144, n_200, n_255, n_256, n_300, n_400, n_600, n_1536, n_3980, n_4000, n_4001, n_4300, n_65536, l_0, l_1, l_2, l_3, l_4, l_10, l_48, l_63, l_255, l_300, nI_ltI, nI_leI, nI_eq, nI_clamp, nI_add, pk_sub, pk_mul, nI_ne1, ne1_nI, nI_pge, nI_nlt0, nI_l, lN_i, lN_add, lN_mul, lN_sub, pk_lLT, pk_lLE, pk_lEQ, lg_lt, lg_ge, lg_eq0, lg_le, lg_gt, lg_ltn, lg_gen, lg_eq0n, lg_len, lg_gtn, Nat.zero_le, Nat.not_lt_zero, not_false_eq_true, not_true_eq_false, true_and, and_true]; omega) | omega)) (o_pos j256 (o_pos (by decide) rfl))))
    rw [c1, c2]
    exact r
  · rcases e_m_isWord (w := 16) A (by decide) (by decide) with ⟨q2, w5⟩ | ⟨q2, w5⟩
    · -- the text
      have q2' : hi g t 6 = 5 := by rw [a6, q2]; rfl
      obtain ⟨g1, eg1⟩ : ∃ g1, g1 = hsi g a 3 1 := ⟨_, rfl⟩
      have Fx : FRX (xP S t) (xJ S t) (wW S t) g g1 := by
        rw [eg1]
        exact FRX.refl.si (Or.inr (Or.inr at'))
      have r := go 1 g1 h na (A.con Fx FRX.refl) (by rw [eg1]; exact FRX.refl.si (Or.inl ⟨rfl, by decide, by decide⟩)) FRX.refl (by rw [q2]; decide) (by rw [eg1, hi_hsi_ne (by omega)]; exact e3) e46 (by
        intro u p y z f0 f1 f2 f3 f4 f5 f6
        have p87 : hi p 1287 j = 0 := by rw [f2 _ _ (by decide) (by decide)]; exact m87
        have x3 : hi g1 a 3 = 1 := by rw [eg1, hi_at]
        have x4 : hi g1 a 4 = 0 := by rw [eg1, hi_nk (by decide)]; exact g4
        have x5 : hi g1 a 5 = -1 := by rw [eg1, hi_nk (by decide)]; exact g5
        rcases v with v | v
        · exact Or.inl ⟨rfl, 1, 0, 0, ⟨by rw [f3 v]; exact x3, by rw [f3 v]; exact x4, by rw [f3 v, x5, e1m]⟩, ⟨(f0 v).1, p87, by rw [(f0 v).2, e1m]⟩, Or.inl ⟨rfl, Or.inr ⟨rfl, rfl⟩⟩⟩
        · obtain ⟨y1, y2, y3⟩ := f4 v
          exact Or.inl ⟨rfl, 5, 0, 2, ⟨y2, by rw [y3 4 (by decide) (by decide)]; exact x4, by rw [y1, x3, e1o]⟩, ⟨(f1 v).1, p87, by rw [(f1 v).2, e1o]⟩, Or.inr ⟨rfl, Or.inr ⟨rfl, rfl⟩⟩⟩) m88
      have c1 : (if t < hz g ∧ hk g t = 7 then (if ¬ (hi g t 6) = 4 then (if ¬ (hi g t 6) = 5 then (if ¬ (hi g t 6) = 2 then (Option.bind (f_p_fail t 2 g) fun r16 => (if r16.1 = 0 ∨ r16.1 = 1 then (some (r16.1, r16.2)) else none)) else (Option.bind (f_p_awaitDefinition t a (hi g t 5) g) fun r20 => (b_p_readType_97 t a x2 r20.2))) else (if a < hz g ∧ hk g a = 3 then (b_p_readType_97 t a x2 (hsi g a 3 1)) else none)) else (if a < hz g ∧ hk g a = 3 then (Option.bind (hr g t 0) fun b25 => (if b25 = 7 then (Option.bind (f_x_head (hi g t 5) (hsi g a 3 0)) fun r28 => (if a < hz r28.2 ∧ hk r28.2 a = 3 then (b_p_readType_97 t a x2 (hsi r28.2 a 4 (Int64.toInt32 r28.1))) else none)) else none)) else none)) else none) = b_p_readType_97 t a x2 g1 := by
        rw [eg1]
        exact o_pos P.tk (o_pos (by rw [a6]; exact q) (o_neg (not_not_intro q2') (o_pos ak rfl)))
      have c2 : (Option.bind (f_m_isScalar h) fun r28 => (if r28.1 = 0 then (Option.bind (f_m_isWord 16 r28.2) fun r32 => (if r32.1 = 0 then (b_m_tableType_62 (nI j) x2 3 r32.2) else (b_m_tableType_62 (nI j) x2 1 r32.2))) else (b_m_tableType_62 (nI j) x2 0 r28.2))) = b_m_tableType_122 (nI j) x2 1 h := by
        refine o_bind w4 (o_pos rfl (o_bind w5 (o_neg one0 ?_)))
        unfold b_m_tableType_62 b_m_tableType_80 b_m_tableType_99
        exact o_pos (by decide) (o_pos one0 (o_pos (by decide) rfl))
      rw [c1, c2]
      exact r
    · have q2' : ¬ hi g t 6 = 5 := by rw [a6]; exact q2
      rcases e_m_isName A with ⟨q3, w6⟩ | ⟨q3, w6⟩
      · -- a name
        have aw := e_p_await (x := hi g t 5) P ak e3 hna (by omega)
        obtain ⟨g1, eg1⟩ : ∃ g1, g1 = hsi (hsr (hsi g a 2 (hi g t 5)) (t + 1) na (some a)) t 3 (nI (na + 1)) := ⟨_, rfl⟩
        rw [← eg1] at aw
        obtain ⟨way, eway⟩ : ∃ way : Nat, (x2 = 0 ∧ way = 0) ∨ (x2 = 1 ∧ way = 1) := by
          rcases v with v | v
          · exact ⟨0, Or.inl ⟨v, rfl⟩⟩
          · exact ⟨1, Or.inr ⟨v, rfl⟩⟩
        have ask := e_m_ask (x := nI k) (y := nI way) (z := nI j) m14' e46 (by omega)
        obtain ⟨h1, eh1⟩ : ∃ h1, h1 = hsi (hsi (hsi (hsi h 1295 na (nI k)) 1296 na (nI way)) 1297 na (nI j)) 1262 46 (nI (na + 1)) := ⟨_, rfl⟩
        rw [← eh1] at ask
        have Fx : FRX (xP S t) (xJ S t) (wW S t) g g1 := by
          rw [eg1]
          exact ((FRX.refl.si (Or.inr (Or.inr at'))).sr (Or.inr rfl)).si (Or.inl ⟨rfl, rfl⟩)
        have Gx : FRX xM nJ nW h h1 := by rw [eh1]; exact (((FRX.refl.si (by simp [xM])).si (by simp [xM])).si (by simp [xM])).si (by simp [xM])
        have r := go 3 g1 h1 (na + 1) (A.con Fx Gx) (by rw [eg1]; exact ((FRX.refl.si (Or.inl ⟨rfl, by decide, by decide⟩)).sr ⟨rfl, rfl⟩).si (Or.inr ⟨rfl, Or.inl rfl⟩)) (by rw [eh1]; exact (((FRX.refl.si (by simp [tyM])).si (by simp [tyM])).si (by simp [tyM])).si (by simp [tyM])) (by rw [q3]; decide) (by rw [eg1, hi_at]) (by rw [eh1, hi_at]) (by
          intro u p y z f0 f1 f2 f3 f4 f5 f6
          have x2' : hi g1 a 2 = nI k := by rw [eg1, hi_hsi_ne (by omega), hi_hsr, hi_at, a5]
          have x3 : hi g1 a 3 = -1 := by rw [eg1, hi_hsi_ne (by omega), hi_hsr, hi_nk (by decide)]; exact g3
          have x5 : hi g1 a 5 = -1 := by rw [eg1, hi_hsi_ne (by omega), hi_hsr, hi_nk (by decide)]; exact g5
          have p95 : hi p 1295 na = nI k := by rw [f2 _ _ (by decide) (by decide), eh1, hi_hsi_ne (by decide), hi_hsi_ne (by decide), hi_hsi_ne (by decide), hi_at]
          have p96 : hi p 1296 na = nI way := by rw [f2 _ _ (by decide) (by decide), eh1, hi_hsi_ne (by decide), hi_hsi_ne (by decide), hi_at]
          have p97 : hi p 1297 na = nI j := by rw [f2 _ _ (by decide) (by decide), eh1, hi_hsi_ne (by decide), hi_at]
          refine Or.inr ⟨rfl, by rw [f6, eg1, hr_hsi, hr_hsr_eq], k, way, kc', by rw [f5]; exact q3, ?_, p95, p96, p97, ?_⟩
          · rcases v with v | v
            · rw [f3 v]; exact x2'
            · rw [(f4 v).2.2 2 (by decide) (by decide)]; exact x2'
          · rcases eway with ⟨v, w⟩ | ⟨v, w⟩
            · exact Or.inl ⟨w, by rw [f3 v]; exact x3, by rw [f3 v]; exact x5, (f0 v).2, (f0 v).1⟩
            · exact Or.inr ⟨w, (f4 v).2.1, (f1 v).1⟩) (by rw [eh1, hi_hsi_ne (by decide), hi_hsi_ne (by decide), hi_hsi_ne (by decide), hi_hsi_ne (by decide)]; exact m88)
        have c1 : (if t < hz g ∧ hk g t = 7 then (if ¬ (hi g t 6) = 4 then (if ¬ (hi g t 6) = 5 then (if ¬ (hi g t 6) = 2 then (Option.bind (f_p_fail t 2 g) fun r16 => (if r16.1 = 0 ∨ r16.1 = 1 then (some (r16.1, r16.2)) else none)) else (Option.bind (f_p_awaitDefinition t a (hi g t 5) g) fun r20 => (b_p_readType_97 t a x2 r20.2))) else (if a < hz g ∧ hk g a = 3 then (b_p_readType_97 t a x2 (hsi g a 3 1)) else none)) else (if a < hz g ∧ hk g a = 3 then (Option.bind (hr g t 0) fun b25 => (if b25 = 7 then (Option.bind (f_x_head (hi g t 5) (hsi g a 3 0)) fun r28 => (if a < hz r28.2 ∧ hk r28.2 a = 3 then (b_p_readType_97 t a x2 (hsi r28.2 a 4 (Int64.toInt32 r28.1))) else none)) else none)) else none)) else none) = b_p_readType_97 t a x2 g1 :=
          o_pos P.tk (o_pos (by rw [a6]; exact q) (o_pos q2' (o_neg (not_not_intro (by rw [a6]; exact q3)) (o_bind aw rfl))))
        have c2 : (Option.bind (f_m_isScalar h) fun r28 => (if r28.1 = 0 then (Option.bind (f_m_isWord 16 r28.2) fun r32 => (if r32.1 = 0 then (b_m_tableType_62 (nI j) x2 3 r32.2) else (b_m_tableType_62 (nI j) x2 1 r32.2))) else (b_m_tableType_62 (nI j) x2 0 r28.2))) = b_m_tableType_122 (nI j) x2 3 h1 := by
          refine o_bind w4 (o_pos rfl (o_bind w5 (o_pos rfl ?_)))
          unfold b_m_tableType_62 b_m_tableType_80 b_m_tableType_99 b_m_tableType_118
          refine o_neg (not_not_intro rfl) (o_bind w6 (o_pos one0 (o_pos (by decide) (o_neg (not_not_intro rfl) ?_))))
          rw [m13']
          rcases eway with ⟨v, w⟩ | ⟨v, w⟩ <;> subst w
          · exact o_pos v (o_bind ask rfl)
          · exact o_neg (by rw [v]; exact one0) (o_bind ask rfl)
        rw [c1, c2]
        exact r
      · obtain ⟨u, p, s1, s2, s3, s4, s5, s6⟩ := A.mis
        refine Or.inr ⟨u, p, o_pos P.tk (o_pos (by rw [a6]; exact q) (o_pos q2' (o_pos (by rw [a6]; exact q3) (o_bind s1 (o_pos (Or.inl rfl) rfl))))), o_bind w4 (o_pos rfl (o_bind w5 (o_pos rfl ?_))), s3, s4.x (fun a' k z => by unfold tF at z; unfold tyP; omega) (fun k => rfl), s5.x (fun a' k z => by unfold m14 at z; unfold tyM; omega) (fun k => rfl)⟩
        unfold b_m_tableType_62
        exact o_neg (not_not_intro rfl) (o_bind w6 (o_neg (not_not_intro rfl) (o_bind s2 rfl)))
/-- the type of a table's field -/
theorem type2 (A : ST T n c g h t S k) (ak : a < hz g ∧ hk g a = 3) (at' : S ≤ a ∧ a < S + 615) (hj' : j < 256) (hna : na < 321) (e3 : hi g t 3 = nI na) (e46 : hi h 1262 46 = nI na) (g3 : hi g a 3 = -1) (g4 : hi g a 4 = 0) (g5 : hi g a 5 = -1) : TYO T n c S t a j na g h (f_p_readType t a g) (f_m_tableType (nI j) h) := by
  have A' := A
  obtain ⟨P, K, kc', a5, a6, m13', m14'⟩ := A'
  have t17 := P.2.1
  have S1 := P.2.2.2.1
  obtain ⟨h0, eh0⟩ : ∃ h0, h0 = hsi (hsi h 1288 j (-1)) 1287 j 0 := ⟨_, rfl⟩
  have Gx : FRX xM nJ nW h h0 := by rw [eh0]; exact (FRX.refl.si (by simp [xM])).si (by simp [xM])
  have G0 : FRX (tyM j na) sJ nW h h0 := by rw [eh0]; exact (FRX.refl.si (by simp [tyM])).si (by simp [tyM])
  have ST0 := A.con (FRX.refl (P := xP S t) (J := xJ S t) (W := wW S t)) Gx
  have m46 : hi h0 1262 46 = nI na := by rw [eh0, hi_hsi_ne (by decide), hi_hsi_ne (by decide)]; exact e46
  have m87 : hi h0 1287 j = 0 := by rw [eh0, hi_at]
  have m88 : hi h0 1288 j = -1 := by rw [eh0, hi_hsi_ne (by decide), hi_at]
  have j256 : (0 : Int32) ≤ nI j ∧ nI j < nI 256 := ⟨nI_pos' (by omega), by (first | (simp (maxSteps := 4000000) (disch := omega) only [n_0, n_1, n_2, n_3, n_4, n_5, n_6, n_7, n_8, n_9, n_10, n_11, n_12, n_13, n_14, n_15, n_16, n_18, n_20, n_24, n_31, n_32, n_34, n_40, n_41, n_44, n_45, n_47, n_48, n_57, n_58, n_59, n_61, n_63, n_64, n_65, n_68, n_90, n_91, n_93, n_95, n_97, n_100, n_122, n_123, n_125, n_128, n_144, n_200, n_255, n_256, n_300, n_400, n_600, n_1536, n_3980, n_4000, n_4001, n_4300, n_65536, l_0, l_1, l_2, l_3, l_4, l_10, l_48, l_63, l_255, l_300, nI_ltI, nI_leI, nI_eq, nI_clamp, nI_add, pk_sub, pk_mul, nI_ne1, ne1_nI, nI_pge, nI_nlt0, nI_l, lN_i, lN_add, lN_mul, lN_sub, pk_lLT, pk_lLE, pk_lEQ, lg_lt, lg_ge, lg_eq0, lg_le, lg_gt, lg_ltn, lg_gen, lg_eq0n, lg_len, lg_gtn, Nat.zero_le, Nat.not_lt_zero, not_false_eq_true, not_true_eq_false, true_and, and_true]; done) | (simp (maxSteps := 4000000) (disch := omega) only [n_0, n_1, n_2, n_3, n_4, n_5, n_6, n_7, n_8, n_9, n_10, n_11, n_12, n_13, n_14, n_15, n_16, n_18, n_20, n_24, n_31, n_32, n_34, n_40, n_41, n_44, n_45, n_47, n_48, n_57, n_58, n_59, n_61, n_63, n_64, n_65, n_68, n_90, n_91, n_93, n_95, n_97, n_100, n_122, n_123, n_125, n_128, n_144, n_200, n_255, n_256, n_300, n_400, n_600, n_1536, n_3980, n_4000, n_4001, n_4300, n_65536, l_0, l_1, l_2, l_3, l_4, l_10, l_48, l_63, l_255, l_300, nI_ltI, nI_leI, nI_eq, nI_clamp, nI_add, pk_sub, pk_mul, nI_ne1, ne1_nI, nI_pge, nI_nlt0, nI_l, lN_i, lN_add, lN_mul, lN_sub, pk_lLT, pk_lLE, pk_lEQ, lg_lt, lg_ge, lg_eq0, lg_le, lg_gt, lg_ltn, lg_gen, lg_eq0n, lg_len, lg_gtn, Nat.zero_le, Nat.not_lt_zero, not_false_eq_true, not_true_eq_false, true_and, and_true]; omega) | omega)⟩
  have cm : ∀ {X : Option (Unit × XH)}, (Option.bind (f_m_isSign 91 h0) fun r38 => (if r38.1 = 0 then (b_m_tableType_37 (nI j) r38.1 r38.2) else (Option.bind (f_m_take r38.2) fun r42 => (b_m_tableType_37 (nI j) r38.1 r42.2)))) = X → f_m_tableType (nI j) h = X := fun r => by
    unfold f_m_tableType
    rw [nI_clamp (show j < 2 ^ 31 by omega), ← eh0]
    exact o_pos m14' (o_pos j256 r)
  rcases e_m_isSign (x := 91) ST0 (by decide) with ⟨q1, q2⟩ | ⟨q1, q2⟩
  · obtain ⟨u, u1, u2, u3⟩ := e_p_adv ST0 (by rw [q1]; decide)
    have ua : ∀ k, hi u a k = hi g a k := fun k => u3.at (by unfold tP; omega)
    have F1 : FRX (tyP t a) sJ (tyW t na) g u := u3.x (fun a' k z => by unfold tP at z; unfold tyP; omega) (fun k => rfl)
    have G1 : FRX (tyM j na) sJ nW h (hsi h0 1262 13 (nI (k + 1))) := G0.si (by simp [tyM])
    have r := ty_core (x2 := 1) (a := a) (j := j) (na := na) u2 (by rw [F1.1.1, F1.1.2.2.1]; exact ak) at' hj' hna (Or.inr rfl) (by rw [u3.at (by unfold tP; omega)]; exact e3) (by rw [hi_nk (by decide)]; exact m46) (by rw [ua]; exact g3) (by rw [ua]; exact g4) (by rw [ua]; exact g5) (by rw [hi_hsi_ne (by decide)]; exact m87) (by rw [hi_hsi_ne (by decide)]; exact m88)
    have c1 : f_p_readType t a g = b_p_readType_23 t a 1 u := by
      unfold f_p_readType b_p_readType_14
      exact o_pos P.tk (o_neg (not_not_intro (by rw [a6]; exact q1)) (o_neg one0 (o_pos P.tk (o_bind u1 rfl))))
    have c2 : f_m_tableType (nI j) h = b_m_tableType_37 (nI j) 1 (hsi h0 1262 13 (nI (k + 1))) := cm (o_bind q2 (o_neg one0 (o_bind (e_m_take ST0.2.2.2.2.2.2 ST0.2.2.2.2.2.1) rfl)))
    rw [c1, c2]
    rcases r with ⟨v, p, k', na1, r1, r2, r3, r4, r5, r6, r7, r8⟩ | ⟨v, p, r1, r2, r3, r4, r5⟩
    · exact Or.inl ⟨v, p, k', na1, r1, r2, r3, r4, r5, r6, F1.trans r7, G1.trans r8⟩
    · exact Or.inr ⟨v, p, r1, r2, r3, F1.trans r4, G1.trans r5⟩
  · have r := ty_core (x2 := 0) (a := a) (j := j) (na := na) ST0 ak at' hj' hna (Or.inl rfl) e3 m46 g3 g4 g5 m87 m88
    have c1 : f_p_readType t a g = b_p_readType_23 t a 0 g := by
      unfold f_p_readType b_p_readType_14
      exact o_pos P.tk (o_pos (by rw [a6]; exact q1) (o_pos rfl rfl))
    have c2 : f_m_tableType (nI j) h = b_m_tableType_37 (nI j) 0 h0 := cm (o_bind q2 (o_pos rfl rfl))
    rw [c1, c2]
    rcases r with ⟨v, p, k', na1, r1, r2, r3, r4, r5, r6, r7, r8⟩ | ⟨v, p, r1, r2, r3, r4, r5⟩
    · exact Or.inl ⟨v, p, k', na1, r1, r2, r3, r4, r5, r6, r7, G0.trans r8⟩
    · exact Or.inr ⟨v, p, r1, r2, r3, r4, G0.trans r5⟩
end Ty
