/-! The lexers: one lexeme on both sides -/

def FRJ (P : Nat → Nat → Prop) (J : Nat → Prop) (h g : XH) : Prop := (hz g = hz h ∧ hw g = hw h ∧ hk g = hk h ∧ hn g = hn h ∧ hr g = hr h) ∧ (∀ a, ¬ J a → hj g a = hj h a) ∧ ∀ a k, ¬ P a k → hi g a k = hi h a k
section Frj
variable {P Q : Nat → Nat → Prop} {J : Nat → Prop} {h g e : XH}
theorem FRJ.refl : FRJ P J h h := ⟨⟨rfl, rfl, rfl, rfl, rfl⟩, fun _ _ => rfl, fun _ _ _ => rfl⟩
theorem FRJ.trans (A : FRJ P J h g) (B : FRJ P J g e) : FRJ P J h e := by
  obtain ⟨⟨a1, a2, a3, a4, a5⟩, a6, a7⟩ := A
  obtain ⟨⟨b1, b2, b3, b4, b5⟩, b6, b7⟩ := B
  exact ⟨⟨b1.trans a1, b2.trans a2, b3.trans a3, b4.trans a4, b5.trans a5⟩, fun a ha => (b6 a ha).trans (a6 a ha), fun a k ha => (b7 a k ha).trans (a7 a k ha)⟩
theorem FRJ.si {a0 k0 : Nat} {v : Int32} (A : FRJ P J h g) (w : P a0 k0) : FRJ P J h (hsi g a0 k0 v) := by
  refine ⟨A.1, A.2.1, fun a k ha => ?_⟩
  rw [hi_hsi, if_neg (fun z => ha (by rw [z.1, z.2]; exact w))]
  exact A.2.2 a k ha
theorem FRJ.sj {a0 k0 : Nat} {v : Int64} (A : FRJ P J h g) (w : J a0) : FRJ P J h (hsj g a0 k0 v) :=
  ⟨A.1, fun a ha => by rw [hj_hsj_ne (fun z => ha (by rw [z]; exact w))]; exact A.2.1 a ha, A.2.2⟩
theorem FRJ.at (A : FRJ P J h g) {a k : Nat} (w : ¬ P a k) : hi g a k = hi h a k := A.2.2 a k w
theorem FRJ.row (A : FRJ P J h g) {a : Nat} (w : ∀ k, ¬ P a k) : hi g a = hi h a := funext fun k => A.2.2 a k (w k)
theorem FRJ.ly (A : FRJ P J h g) : LY g = LY h := by
  obtain ⟨⟨a1, a2, a3, a4, a5⟩, -⟩ := A
  unfold LY SC GR DF
  rw [a1, a3, a4, a5]
theorem FRJ.cbq (A : FRJ P J h g) {a k : Nat} (w : ¬ P a k) : cb g a k = cb h a k := by unfold cb; rw [A.2.2 a k w]
end Frj
def lP (a k : Nat) : Prop := (a = 7 ∧ (k = 4 ∨ k = 5)) ∨ a = 8 ∨ a = 9
def lJ (a : Nat) : Prop := a = 10 ∨ a = 11 ∨ a = 1316
def mLx (a k : Nat) : Prop := (1266 ≤ a ∧ a ≤ 1269) ∨ (a = 1262 ∧ k = 12)
theorem e75_lP {h g : XH} (F : FRM e75 h g) : FRJ lP lJ h g := ⟨F.1, fun a q => F.2.1 a (fun z => q (Or.inr (Or.inr z))), fun a k q => F.2.2 a k (fun z => q (by unfold e75 at z; unfold lP; omega))⟩
/-- digits and signs of words -/
def dgB (c : Nat) : Bool := decide (48 ≤ c ∧ c ≤ 57)
def wsB (c : Nat) : Bool := decide ((65 ≤ c ∧ c ≤ 90) ∨ (97 ≤ c ∧ c ≤ 122) ∨ c = 95 ∨ (48 ≤ c ∧ c ≤ 57))
theorem dgB_iff {c : Nat} : dgB c = true ↔ isDg c := by unfold dgB isDg; exact decide_eq_true_iff
theorem wsB_iff {c : Nat} : wsB c = true ↔ isLt c ∨ isDg c := by unfold wsB isLt isDg; rw [decide_eq_true_iff]; omega
def dE (T : Nat → Nat) : Nat → Nat → Nat
  | 0, k => k
  | d + 1, k => if dgB (T k) = true then dE T d (k + 1) else k
def wE (T : Nat → Nat) : Nat → Nat → Nat
  | 0, k => k
  | d + 1, k => if wsB (T k) = true then wE T d (k + 1) else k
/-- decimal digits together -/
def dv (T : Nat → Nat) (a : Nat) : Nat → Nat
  | 0 => 0
  | m + 1 => dv T a m * 10 + (T (a + m) - 48)
theorem dE_le {T : Nat → Nat} : ∀ d k, k ≤ dE T d k ∧ dE T d k ≤ k + d ∧ ∀ j, k ≤ j → j < dE T d k → isDg (T j)
  | 0, k => by unfold dE; exact ⟨Nat.le_refl k, Nat.le_refl k, fun j h1 h2 => by omega⟩
  | d + 1, k => by
    obtain ⟨h1, h2, h3⟩ := dE_le (T := T) d (k + 1)
    unfold dE
    by_cases c : dgB (T k) = true
    · rw [if_pos c]
      refine ⟨by omega, by omega, fun j a1 a2 => ?_⟩
      by_cases cj : j = k
      · rw [cj]; exact dgB_iff.mp c
      · exact h3 j (by omega) a2
    · rw [if_neg c]
      exact ⟨Nat.le_refl k, by omega, fun j a1 a2 => by omega⟩
theorem wE_le {T : Nat → Nat} : ∀ d k, k ≤ wE T d k ∧ wE T d k ≤ k + d ∧ ∀ j, k ≤ j → j < wE T d k → isLt (T j) ∨ isDg (T j)
  | 0, k => by unfold wE; exact ⟨Nat.le_refl k, Nat.le_refl k, fun j h1 h2 => by omega⟩
  | d + 1, k => by
    obtain ⟨h1, h2, h3⟩ := wE_le (T := T) d (k + 1)
    unfold wE
    by_cases c : wsB (T k) = true
    · rw [if_pos c]
      refine ⟨by omega, by omega, fun j a1 a2 => ?_⟩
      by_cases cj : j = k
      · rw [cj]; exact wsB_iff.mp c
      · exact h3 j (by omega) a2
    · rw [if_neg c]
      exact ⟨Nat.le_refl k, by omega, fun j a1 a2 => by omega⟩
/-- signs that are lexemes -/
def sgB (c : Nat) : Bool := [123, 125, 91, 93, 40, 41, 58, 59, 61, 44].contains c
set_option maxRecDepth 20000 in
theorem sg_x : ∀ c, c < 256 → decide (xix 10000027 (UInt32.toInt32 (Int32.toUInt32 (nI c) % 65536)) < 0) = !(sgB c) := by decide +kernel
/-- what both hold of the lexeme i -/
def TK (T : Nat → Nat) (n : Nat) (g h : XH) (i : Nat) : Prop := ∃ at' to : Nat, at' ≤ to ∧ to ≤ n ∧ hi g 9 i = nI at' ∧ hi h 1267 i = nI at' ∧ hi h 1268 i = nI to ∧ ((hi g 8 i = 0 ∧ hi h 1266 i = 0) ∨ (hi g 8 i = 1 ∧ hi h 1266 i = 1) ∨ (hi g 8 i = 2 ∧ hi h 1266 i = 2 ∧ hi h 1269 i = -1 ∧ at' < to ∧ to ≤ at' + 16 ∧ (∀ k, at' ≤ k → k < to → 0 < T k) ∧ hj g 10 i = lN (pn T at' (min (to - at') 8)) ∧ hj g 11 i = lN (pn T (at' + 8) (to - at' - 8))) ∨ (hi g 8 i = 3 ∧ hi h 1266 i = 3 ∧ ((T at' = 45 ∧ at' + 1 < to ∧ to ≤ at' + 19 ∧ (∀ k, at' + 1 ≤ k → k < to → isDg (T k)) ∧ hj g 10 i = -(lN (dv T (at' + 1) (to - at' - 1)))) ∨ (¬ T at' = 45 ∧ at' < to ∧ to ≤ at' + 18 ∧ (∀ k, at' ≤ k → k < to → isDg (T k)) ∧ hj g 10 i = lN (dv T at' (to - at'))))) ∨ (∃ w, w < 11 ∧ hi g 8 i = 4 ∧ hj g 10 i = lN w ∧ hi h 1266 i = 2 ∧ hi h 1269 i = nI w) ∨ (∃ w, 11 ≤ w ∧ w < 17 ∧ hi g 8 i = nI (kc w) ∧ hi h 1266 i = 2 ∧ hi h 1269 i = nI w) ∨ ∃ c, c < 256 ∧ sgB c = true ∧ hi g 8 i = nI c ∧ hi h 1266 i = 4 ∧ hi h 1269 i = nI c)
def sameC (g u : XH) (c : Nat) : Prop := ∀ i, i ≠ c → hi u 8 i = hi g 8 i ∧ hi u 9 i = hi g 9 i ∧ hj u 10 i = hj g 10 i ∧ hj u 11 i = hj g 11 i
def sameM (g u : XH) (c : Nat) : Prop := ∀ i, i ≠ c → hi u 1266 i = hi g 1266 i ∧ hi u 1267 i = hi g 1267 i ∧ hi u 1268 i = hi g 1268 i ∧ hi u 1269 i = hi g 1269 i
section Tk
variable {h g : XH} {T : Nat → Nat} {n c j : Nat}
theorem e_x_keep {x y : Int32} {p q : Int64} (e4 : hi g 7 4 = nI c) (c4 : c ≤ 4000) : ∃ u, f_x_keep x y p q g = some (x, u) ∧ FRJ lP lJ g u ∧ hi u 7 4 = nI (c + 1) ∧ hi u 7 5 = hi g 7 5 ∧ (hi u 8 c = x ∧ hi u 9 c = y ∧ hj u 10 c = p ∧ hj u 11 c = q) ∧ sameC g u c := by
  unfold f_x_keep
  rw [e4, nI_clamp (show c < 2 ^ 31 by omega), n_1, nI_add]
  refine ⟨_, o_neg (by (first | (simp (maxSteps := 4000000) (disch := omega) only [n_0, n_1, n_2, n_3, n_4, n_5, n_6, n_7, n_8, n_9, n_10, n_11, n_12, n_13, n_14, n_15, n_16, n_18, n_20, n_24, n_31, n_32, n_34, n_40, n_41, n_44, n_45, n_47, n_48, n_57, n_58, n_59, n_61, n_63, n_64, n_65, n_68, n_90, n_91, n_93, n_95, n_97, n_100, n_122, n_123, n_125, n_128, n_144, n_200, n_255, n_256, n_300, n_400, n_600, n_1536, n_3980, n_4000, n_4001, n_4300, n_65536, l_0, l_1, l_2, l_3, l_4, l_10, l_48, l_63, l_255, l_300, nI_ltI, nI_leI, nI_eq, nI_clamp, nI_add, pk_sub, pk_mul, nI_ne1, ne1_nI, nI_pge, nI_nlt0, nI_l, lN_i, lN_add, lN_mul, lN_sub, pk_lLT, pk_lLE, pk_lEQ, lg_lt, lg_ge, lg_eq0, lg_le, lg_gt, lg_ltn, lg_gen, lg_eq0n, lg_len, lg_gtn, Nat.zero_le, Nat.not_lt_zero, not_false_eq_true, not_true_eq_false, true_and, and_true]; done) | (simp (maxSteps := 4000000) (disch := omega) only [n_0, n_1, n_2, n_3, n_4, n_5, n_6, n_7, n_8, n_9, n_10, n_11, n_12, n_13, n_14, n_15, n_16, n_18, n_20, n_24, n_31, n_32, n_34, n_40, n_41, n_44, n_45, n_47, n_48, n_57, n_58, n_59, n_61, n_63, n_64, n_65, n_68, n_90, n_91, n_93, n_95, n_97, n_100, n_122, n_123, n_125, n_128, n_144, n_200, n_255, n_256, n_300, n_400, n_600, n_1536, n_3980, n_4000, n_4001, n_4300, n_65536, l_0, l_1, l_2, l_3, l_4, l_10, l_48, l_63, l_255, l_300, nI_ltI, nI_leI, nI_eq, nI_clamp, nI_add, pk_sub, pk_mul, nI_ne1, ne1_nI, nI_pge, nI_nlt0, nI_l, lN_i, lN_add, lN_mul, lN_sub, pk_lLT, pk_lLE, pk_lEQ, lg_lt, lg_ge, lg_eq0, lg_le, lg_gt, lg_ltn, lg_gen, lg_eq0n, lg_len, lg_gtn, Nat.zero_le, Nat.not_lt_zero, not_false_eq_true, not_true_eq_false, true_and, and_true]; omega) | omega)) (o_neg (by (first | (simp (maxSteps := 4000000) (disch := omega) only [n_0, n_1, n_2, n_3, n_4, n_5, n_6, n_7, n_8, n_9, n_10, n_11, n_12, n_13, n_14, n_15, n_16, n_18, n_20, n_24, n_31, n_32, n_34, n_40, n_41, n_44, n_45, n_47, n_48, n_57, n_58, n_59, n_61, n_63, n_64, n_65, n_68, n_90, n_91, n_93, n_95, n_97, n_100, n_122, n_123, n_125, n_128, n_144, n_200, n_255, n_256, n_300, n_400, n_600, n_1536, n_3980, n_4000, n_4001, n_4300, n_65536, l_0, l_1, l_2, l_3, l_4, l_10, l_48, l_63, l_255, l_300, nI_ltI, nI_leI, nI_eq, nI_clamp, nI_add, pk_sub, pk_mul, nI_ne1, ne1_nI, nI_pge, nI_nlt0, nI_l, lN_i, lN_add, lN_mul, lN_sub, pk_lLT, pk_lLE, pk_lEQ, lg_lt, lg_ge, lg_eq0, lg_le, lg_gt, lg_ltn, lg_gen, lg_eq0n, lg_len, lg_gtn, Nat.zero_le, Nat.not_lt_zero, not_false_eq_true, not_true_eq_false, true_and, and_true]; done) | (simp (maxSteps := 4000000) (disch := omega) only [n_0, n_1, n_2, n_3, n_4, n_5, n_6, n_7, n_8, n_9, n_10, n_11, n_12, n_13, n_14, n_15, n_16, n_18, n_20, n_24, n_31, n_32, n_34, n_40, n_41, n_44, n_45, n_47, n_48, n_57, n_58, n_59, n_61, n_63, n_64, n_65, n_68, n_90, n_91, n_93, n_95, n_97, n_100, n_122, n_123, n_125, n_128, n_144, n_200, n_255, n_256, n_300, n_400, n_600, n_1536, n_3980, n_4000, n_4001, n_4300, n_65536, l_0, l_1, l_2, l_3, l_4, l_10, l_48, l_63, l_255, l_300, nI_ltI, nI_leI, nI_eq, nI_clamp, nI_add, pk_sub, pk_mul, nI_ne1, ne1_nI, nI_pge, nI_nlt0, nI_l, lN_i, lN_add, lN_mul, lN_sub, pk_lLT, pk_lLE, pk_lEQ, lg_lt, lg_ge, lg_eq0, lg_le, lg_gt, lg_ltn, lg_gen, lg_eq0n, lg_len, lg_gtn, Nat.zero_le, Nat.not_lt_zero, not_false_eq_true, not_true_eq_false, true_and, and_true]; omega) | omega)) rfl), ((((FRJ.refl.si (by simp [lP])).si (by simp [lP])).sj (by simp [lJ])).sj (by simp [lJ])).si (by simp [lP]), hi_at, ?_, ⟨?_, ?_, ?_, ?_⟩, fun i hi' => ⟨?_, ?_, ?_, ?_⟩⟩
  · rw [hi_nk (by decide), hi_hsj, hi_hsj, hi_hsi_ne (by decide), hi_hsi_ne (by decide)]
  · rw [hi_hsi_ne (by decide), hi_hsj, hi_hsj, hi_hsi_ne (by decide), hi_at]
  · rw [hi_hsi_ne (by decide), hi_hsj, hi_hsj, hi_at]
  · rw [hj_hsi, hj_hsj_ne (by decide), hj_at]
  · rw [hj_hsi, hj_at]
  · rw [hi_hsi_ne (by decide), hi_hsj, hi_hsj, hi_hsi_ne (by decide), hi_nk hi']
  · rw [hi_hsi_ne (by decide), hi_hsj, hi_hsj, hi_nk hi', hi_hsi_ne (by decide)]
  · rw [hj_hsi, hj_hsj_ne (by decide), hj_nk hi', hj_hsi, hj_hsi]
  · rw [hj_hsi, hj_nk hi', hj_hsj_ne (by decide), hj_hsi, hj_hsi]
theorem e_m_lexeme {x0 x1 x2 x3 : Int32} (e12 : hi h 1262 12 = nI c) (c4 : c ≤ 4000) : ∃ u, f_m_lexeme x0 x1 x2 x3 h = some ((), u) ∧ FRM mLx h u ∧ hi u 1262 12 = nI (c + 1) ∧ (hi u 1266 c = x0 ∧ hi u 1267 c = x1 ∧ hi u 1268 c = x2 ∧ hi u 1269 c = x3) ∧ sameM h u c := by
  unfold f_m_lexeme
  rw [e12, nI_clamp (show c < 2 ^ 31 by omega), n_1, nI_add]
  refine ⟨_, o_pos (by (first | (simp (maxSteps := 4000000) (disch := omega) only [n_0, n_1, n_2, n_3, n_4, n_5, n_6, n_7, n_8, n_9, n_10, n_11, n_12, n_13, n_14, n_15, n_16, n_18, n_20, n_24, n_31, n_32, n_34, n_40, n_41, n_44, n_45, n_47, n_48, n_57, n_58, n_59, n_61, n_63, n_64, n_65, n_68, n_90, n_91, n_93, n_95, n_97, n_100, n_122, n_123, n_125, n_128, n_144, n_200, n_255, n_256, n_300, n_400, n_600, n_1536, n_3980, n_4000, n_4001, n_4300, n_65536, l_0, l_1, l_2, l_3, l_4, l_10, l_48, l_63, l_255, l_300, nI_ltI, nI_leI, nI_eq, nI_clamp, nI_add, pk_sub, pk_mul, nI_ne1, ne1_nI, nI_pge, nI_nlt0, nI_l, lN_i, lN_add, lN_mul, lN_sub, pk_lLT, pk_lLE, pk_lEQ, lg_lt, lg_ge, lg_eq0, lg_le, lg_gt, lg_ltn, lg_gen, lg_eq0n, lg_len, lg_gtn, Nat.zero_le, Nat.not_lt_zero, not_false_eq_true, not_true_eq_false, true_and, and_true]; done) | (simp (maxSteps := 4000000) (disch := omega) only [n_0, n_1, n_2, n_3, n_4, n_5, n_6, n_7, n_8, n_9, n_10, n_11, n_12, n_13, n_14, n_15, n_16, n_18, n_20, n_24, n_31, n_32, n_34, n_40, n_41, n_44, n_45, n_47, n_48, n_57, n_58, n_59, n_61, n_63, n_64, n_65, n_68, n_90, n_91, n_93, n_95, n_97, n_100, n_122, n_123, n_125, n_128, n_144, n_200, n_255, n_256, n_300, n_400, n_600, n_1536, n_3980, n_4000, n_4001, n_4300, n_65536, l_0, l_1, l_2, l_3, l_4, l_10, l_48, l_63, l_255, l_300, nI_ltI, nI_leI, nI_eq, nI_clamp, nI_add, pk_sub, pk_mul, nI_ne1, ne1_nI, nI_pge, nI_nlt0, nI_l, lN_i, lN_add, lN_mul, lN_sub, pk_lLT, pk_lLE, pk_lEQ, lg_lt, lg_ge, lg_eq0, lg_le, lg_gt, lg_ltn, lg_gen, lg_eq0n, lg_len, lg_gtn, Nat.zero_le, Nat.not_lt_zero, not_false_eq_true, not_true_eq_false, true_and, and_true]; omega) | omega)) rfl, ((((FRM.refl.si (by simp [mLx])).si (by simp [mLx])).si (by simp [mLx])).si (by simp [mLx])).si (by simp [mLx]), hi_at, ⟨?_, ?_, ?_, ?_⟩, fun i hi' => ⟨?_, ?_, ?_, ?_⟩⟩
  · rw [hi_hsi_ne (by decide), hi_hsi_ne (by decide), hi_hsi_ne (by decide), hi_hsi_ne (by decide), hi_at]
  · rw [hi_hsi_ne (by decide), hi_hsi_ne (by decide), hi_hsi_ne (by decide), hi_at]
  · rw [hi_hsi_ne (by decide), hi_hsi_ne (by decide), hi_at]
  · rw [hi_hsi_ne (by decide), hi_at]
  · rw [hi_hsi_ne (by decide), hi_nk hi', hi_nk hi', hi_nk hi', hi_nk hi']
  · rw [hi_hsi_ne (by decide), hi_nk hi', hi_nk hi', hi_nk hi', hi_nk hi']
  · rw [hi_hsi_ne (by decide), hi_nk hi', hi_nk hi', hi_nk hi', hi_nk hi']
  · rw [hi_hsi_ne (by decide), hi_nk hi', hi_nk hi', hi_nk hi', hi_nk hi']
/-! ends of words and of digits -/
theorem CTx.frj (C : CTx g T n) (F : FRJ lP lJ g h) : CTx h T n := ⟨by rw [F.ly]; exact C.1, by rw [F.at (by simp [lP])]; exact C.2.1, C.2.2.1, fun k => by rw [F.cbq (by simp [lP])]; exact C.2.2.2 k⟩
theorem s75_frj {v : Int32} : FRJ lP lJ g (hsi g 7 5 v) := FRJ.refl.si (by simp [lP])
theorem e_x_wEnd {a : Int32} : ∀ (d k fuel : Nat) (g : XH), k + d = n → d < fuel → CTx g T n → hi g 7 5 = nI k → ∃ u, b_x_takeWord_5 fuel 1 a g = b_x_takeWord_43 1 a u ∧ FRJ lP lJ g u ∧ hi u 7 5 = nI (wE T d k) ∧ hi u 7 4 = hi g 7 4 ∧ (∀ i, hi u 8 i = hi g 8 i ∧ hi u 9 i = hi g 9 i ∧ hj u 10 i = hj g 10 i ∧ hj u 11 i = hj g 11 i) := by
  intro d
  induction d with
  | zero =>
    intro k fuel g e hf C e5
    obtain ⟨f, rfl, -⟩ := fuel_pos hf
    have n4 := C.2.2.1
    refine ⟨g, ?_, FRJ.refl, by unfold wE; exact e5, rfl, fun i => ⟨rfl, rfl, rfl, rfl⟩⟩
    show s_x_takeWord_5 (b_x_takeWord_5 f) _ _ _ = _
    unfold s_x_takeWord_5
    rw [e5, C.2.1]
    exact o_pos ⟨C.1.b1.1, C.1.b1.2.1⟩ (o_pos (by (first | (simp (maxSteps := 4000000) (disch := omega) only [n_0, n_1, n_2, n_3, n_4, n_5, n_6, n_7, n_8, n_9, n_10, n_11, n_12, n_13, n_14, n_15, n_16, n_18, n_20, n_24, n_31, n_32, n_34, n_40, n_41, n_44, n_45, n_47, n_48, n_57, n_58, n_59, n_61, n_63, n_64, n_65, n_68, n_90, n_91, n_93, n_95, n_97, n_100, n_122, n_123, n_125, n_128, n_144, n_200, n_255, n_256, n_300, n_400, n_600, n_1536, n_3980, n_4000, n_4001, n_4300, n_65536, l_0, l_1, l_2, l_3, l_4, l_10, l_48, l_63, l_255, l_300, nI_ltI, nI_leI, nI_eq, nI_clamp, nI_add, pk_sub, pk_mul, nI_ne1, ne1_nI, nI_pge, nI_nlt0, nI_l, lN_i, lN_add, lN_mul, lN_sub, pk_lLT, pk_lLE, pk_lEQ, lg_lt, lg_ge, lg_eq0, lg_le, lg_gt, lg_ltn, lg_gen, lg_eq0n, lg_len, lg_gtn, Nat.zero_le, Nat.not_lt_zero, not_false_eq_true, not_true_eq_false, true_and, and_true]; done) | (simp (maxSteps := 4000000) (disch := omega) only [n_0, n_1, n_2, n_3, n_4, n_5, n_6, n_7, n_8, n_9, n_10, n_11, n_12, n_13, n_14, n_15, n_16, n_18, n_20, n_24, n_31, n_32, n_34, n_40, n_41, n_44, n_45, n_47, n_48, n_57, n_58, n_59, n_61, n_63, n_64, n_65, n_68, n_90, n_91, n_93, n_95, n_97, n_100, n_122, n_123, n_125, n_128, n_144, n_200, n_255, n_256, n_300, n_400, n_600, n_1536, n_3980, n_4000, n_4001, n_4300, n_65536, l_0, l_1, l_2, l_3, l_4, l_10, l_48, l_63, l_255, l_300, nI_ltI, nI_leI, nI_eq, nI_clamp, nI_add, pk_sub, pk_mul, nI_ne1, ne1_nI, nI_pge, nI_nlt0, nI_l, lN_i, lN_add, lN_mul, lN_sub, pk_lLT, pk_lLE, pk_lEQ, lg_lt, lg_ge, lg_eq0, lg_le, lg_gt, lg_ltn, lg_gen, lg_eq0n, lg_len, lg_gtn, Nat.zero_le, Nat.not_lt_zero, not_false_eq_true, not_true_eq_false, true_and, and_true]; omega) | omega)) rfl)
  | succ d ih =>
    intro k fuel g e hf C e5
    obtain ⟨f, rfl, -⟩ := fuel_pos hf
    have n4 := C.2.2.1
    have lT : T k < 256 := by rw [← C.2.2.2]; exact cb_lt g 2 k
    have oc := e_b_octet (i := k) C.1.b1 (by omega)
    rw [C.2.2.2] at oc
    have ws : ∃ r : Int32, f_x_isWordSign (nI (T k)) g = some (r, g) ∧ ((r = 0 ∧ ¬ (isLt (T k) ∨ isDg (T k))) ∨ (¬ r = 0 ∧ (isLt (T k) ∨ isDg (T k)))) := by
      unfold f_x_isWordSign b_x_isWordSign_14
      rcases e_x_isLetter (h := g) lT with ⟨q1, q2⟩ | ⟨q1, q2⟩
      · exact ⟨1, o_bind q2 (o_pos one0 rfl), Or.inr ⟨one0, Or.inl q1⟩⟩
      · rcases e_x_isDigit (h := g) lT with ⟨p1, p2⟩ | ⟨p1, p2⟩
        · exact ⟨1, o_bind q2 (o_neg (not_not_intro rfl) (o_bind p2 (o_neg one0 rfl))), Or.inr ⟨one0, Or.inr p1⟩⟩
        · exact ⟨0, o_bind q2 (o_neg (not_not_intro rfl) (o_bind p2 (o_pos rfl rfl))), Or.inl ⟨rfl, fun z => z.elim q1 p1⟩⟩
    obtain ⟨r, w1, w2⟩ := ws
    have st : ∀ X : Option (Int32 × XH), (if r = 0 then (b_x_takeWord_43 1 a g) else (b_x_takeWord_5 f 1 a (hsi g 7 5 (nI (k + 1))))) = X → b_x_takeWord_5 (f + 1) 1 a g = X := by
      intro X q
      show s_x_takeWord_5 (b_x_takeWord_5 f) _ _ _ = _
      unfold s_x_takeWord_5
      rw [e5, C.2.1]
      refine o_pos ⟨C.1.b1.1, C.1.b1.2.1⟩ (o_neg (by (first | (simp (maxSteps := 4000000) (disch := omega) only [n_0, n_1, n_2, n_3, n_4, n_5, n_6, n_7, n_8, n_9, n_10, n_11, n_12, n_13, n_14, n_15, n_16, n_18, n_20, n_24, n_31, n_32, n_34, n_40, n_41, n_44, n_45, n_47, n_48, n_57, n_58, n_59, n_61, n_63, n_64, n_65, n_68, n_90, n_91, n_93, n_95, n_97, n_100, n_122, n_123, n_125, n_128, n_144, n_200, n_255, n_256, n_300, n_400, n_600, n_1536, n_3980, n_4000, n_4001, n_4300, n_65536, l_0, l_1, l_2, l_3, l_4, l_10, l_48, l_63, l_255, l_300, nI_ltI, nI_leI, nI_eq, nI_clamp, nI_add, pk_sub, pk_mul, nI_ne1, ne1_nI, nI_pge, nI_nlt0, nI_l, lN_i, lN_add, lN_mul, lN_sub, pk_lLT, pk_lLE, pk_lEQ, lg_lt, lg_ge, lg_eq0, lg_le, lg_gt, lg_ltn, lg_gen, lg_eq0n, lg_len, lg_gtn, Nat.zero_le, Nat.not_lt_zero, not_false_eq_true, not_true_eq_false, true_and, and_true]; done) | (simp (maxSteps := 4000000) (disch := omega) only [n_0, n_1, n_2, n_3, n_4, n_5, n_6, n_7, n_8, n_9, n_10, n_11, n_12, n_13, n_14, n_15, n_16, n_18, n_20, n_24, n_31, n_32, n_34, n_40, n_41, n_44, n_45, n_47, n_48, n_57, n_58, n_59, n_61, n_63, n_64, n_65, n_68, n_90, n_91, n_93, n_95, n_97, n_100, n_122, n_123, n_125, n_128, n_144, n_200, n_255, n_256, n_300, n_400, n_600, n_1536, n_3980, n_4000, n_4001, n_4300, n_65536, l_0, l_1, l_2, l_3, l_4, l_10, l_48, l_63, l_255, l_300, nI_ltI, nI_leI, nI_eq, nI_clamp, nI_add, pk_sub, pk_mul, nI_ne1, ne1_nI, nI_pge, nI_nlt0, nI_l, lN_i, lN_add, lN_mul, lN_sub, pk_lLT, pk_lLE, pk_lEQ, lg_lt, lg_ge, lg_eq0, lg_le, lg_gt, lg_ltn, lg_gen, lg_eq0n, lg_len, lg_gtn, Nat.zero_le, Nat.not_lt_zero, not_false_eq_true, not_true_eq_false, true_and, and_true]; omega) | omega)) (o_bind oc (o_bind w1 ?_)))
      dsimp only
      rw [e5, n_1, nI_add]
      exact q
    rcases w2 with ⟨r0, nw⟩ | ⟨r1, yw⟩
    · refine ⟨g, st _ (if_pos r0), FRJ.refl, ?_, rfl, fun i => ⟨rfl, rfl, rfl, rfl⟩⟩
      rw [wE, if_neg (fun z => nw (wsB_iff.mp z))]
      exact e5
    · obtain ⟨u, z1, z2, z3, z4, z5⟩ := ih (k + 1) f (hsi g 7 5 (nI (k + 1))) (by omega) (by omega) (C.frj s75_frj) hi_at
      refine ⟨u, (st _ (if_neg r1)).trans z1, s75_frj.trans z2, ?_, by rw [z4, hi_nk (by decide)], fun i => ?_⟩
      · rw [wE, if_pos (wsB_iff.mpr yw)]
        exact z3
      · obtain ⟨a1, a2, a3, a4⟩ := z5 i
        exact ⟨by rw [a1, hi_hsi_ne (by decide)], by rw [a2, hi_hsi_ne (by decide)], by rw [a3]; rfl, by rw [a4]; rfl⟩
theorem e_m_wEnd {a : Nat} (M : MTx h T n) : ∀ (d k fuel : Nat), k + d = n → d < fuel → a ≤ k → b_m_one_18 fuel (nI a) (nI k) h = (if (nI (wE T d k) - nI a) ≤ 16 then (b_m_one_60 (nI a) (nI (wE T d k)) 2 h) else (b_m_one_60 (nI a) (nI (wE T d k)) 1 h)) := by
  have n4 := M.2.1
  intro d
  induction d with
  | zero =>
    intro k fuel e hf ak
    obtain ⟨f, rfl, -⟩ := fuel_pos hf
    have sg := e_m_signAtN (k := k) M (by omega) (by omega)
    show s_m_one_18 (b_m_one_18 f) _ _ _ = _
    unfold s_m_one_18
    exact o_bind sg (o_bind e_m_isLetterN (o_neg (not_not_intro rfl) (o_bind sg (o_bind e_m_isDigitN (o_pos rfl rfl)))))
  | succ d ih =>
    intro k fuel e hf ak
    obtain ⟨f, rfl, -⟩ := fuel_pos hf
    have lT := M.2.2.1 k
    have sg := e_m_signAt (k := k) M (by omega)
    have nx := ih (k + 1) f (by omega) (by omega) (by omega)
    show s_m_one_18 (b_m_one_18 f) _ _ _ = _
    unfold s_m_one_18 b_m_one_40
    rw [n_1, nI_add, wE]
    rcases e_m_isLetter (h := h) lT with ⟨q1, q2⟩ | ⟨q1, q2⟩
    · rw [if_pos (wsB_iff.mpr (Or.inl q1))]
      exact o_bind sg (o_bind q2 (o_pos one0 nx))
    · rcases e_m_isDigit (h := h) lT with ⟨p1, p2⟩ | ⟨p1, p2⟩
      · rw [if_pos (wsB_iff.mpr (Or.inr p1))]
        exact o_bind sg (o_bind q2 (o_neg (not_not_intro rfl) (o_bind sg (o_bind p2 (o_neg one0 nx)))))
      · rw [if_neg (fun z => (wsB_iff.mp z).elim q1 p1)]
        exact o_bind sg (o_bind q2 (o_neg (not_not_intro rfl) (o_bind sg (o_bind p2 (o_pos rfl rfl)))))
theorem e_x_dEnd {x2 x3 : Int32} {s : Nat} : ∀ (d k fuel : Nat) (g : XH), k + d = n → d < fuel → s ≤ k → CTx g T n → hi g 7 5 = nI k → ∃ u, b_x_takeWhole_44 fuel 1 x2 x3 (nI s) (lN (dv T s (k - s))) g = b_x_takeWhole_103 x2 x3 (nI s) (lN (dv T s (dE T d k - s))) u ∧ FRJ lP lJ g u ∧ hi u 7 5 = nI (dE T d k) ∧ hi u 7 4 = hi g 7 4 ∧ (∀ i, hi u 8 i = hi g 8 i ∧ hi u 9 i = hi g 9 i ∧ hj u 10 i = hj g 10 i ∧ hj u 11 i = hj g 11 i) := by
  intro d
  induction d with
  | zero =>
    intro k fuel g e hf sk C e5
    obtain ⟨f, rfl, -⟩ := fuel_pos hf
    have n4 := C.2.2.1
    refine ⟨g, ?_, FRJ.refl, by unfold dE; exact e5, rfl, fun i => ⟨rfl, rfl, rfl, rfl⟩⟩
    show s_x_takeWhole_44 (b_x_takeWhole_44 f) _ _ _ _ _ _ = _
    unfold s_x_takeWhole_44
    rw [e5, C.2.1]
    exact o_pos ⟨C.1.b1.1, C.1.b1.2.1⟩ (o_pos (by (first | (simp (maxSteps := 4000000) (disch := omega) only [n_0, n_1, n_2, n_3, n_4, n_5, n_6, n_7, n_8, n_9, n_10, n_11, n_12, n_13, n_14, n_15, n_16, n_18, n_20, n_24, n_31, n_32, n_34, n_40, n_41, n_44, n_45, n_47, n_48, n_57, n_58, n_59, n_61, n_63, n_64, n_65, n_68, n_90, n_91, n_93, n_95, n_97, n_100, n_122, n_123, n_125, n_128, n_144, n_200, n_255, n_256, n_300, n_400, n_600, n_1536, n_3980, n_4000, n_4001, n_4300, n_65536, l_0, l_1, l_2, l_3, l_4, l_10, l_48, l_63, l_255, l_300, nI_ltI, nI_leI, nI_eq, nI_clamp, nI_add, pk_sub, pk_mul, nI_ne1, ne1_nI, nI_pge, nI_nlt0, nI_l, lN_i, lN_add, lN_mul, lN_sub, pk_lLT, pk_lLE, pk_lEQ, lg_lt, lg_ge, lg_eq0, lg_le, lg_gt, lg_ltn, lg_gen, lg_eq0n, lg_len, lg_gtn, Nat.zero_le, Nat.not_lt_zero, not_false_eq_true, not_true_eq_false, true_and, and_true]; done) | (simp (maxSteps := 4000000) (disch := omega) only [n_0, n_1, n_2, n_3, n_4, n_5, n_6, n_7, n_8, n_9, n_10, n_11, n_12, n_13, n_14, n_15, n_16, n_18, n_20, n_24, n_31, n_32, n_34, n_40, n_41, n_44, n_45, n_47, n_48, n_57, n_58, n_59, n_61, n_63, n_64, n_65, n_68, n_90, n_91, n_93, n_95, n_97, n_100, n_122, n_123, n_125, n_128, n_144, n_200, n_255, n_256, n_300, n_400, n_600, n_1536, n_3980, n_4000, n_4001, n_4300, n_65536, l_0, l_1, l_2, l_3, l_4, l_10, l_48, l_63, l_255, l_300, nI_ltI, nI_leI, nI_eq, nI_clamp, nI_add, pk_sub, pk_mul, nI_ne1, ne1_nI, nI_pge, nI_nlt0, nI_l, lN_i, lN_add, lN_mul, lN_sub, pk_lLT, pk_lLE, pk_lEQ, lg_lt, lg_ge, lg_eq0, lg_le, lg_gt, lg_ltn, lg_gen, lg_eq0n, lg_len, lg_gtn, Nat.zero_le, Nat.not_lt_zero, not_false_eq_true, not_true_eq_false, true_and, and_true]; omega) | omega)) rfl)
  | succ d ih =>
    intro k fuel g e hf sk C e5
    obtain ⟨f, rfl, -⟩ := fuel_pos hf
    have n4 := C.2.2.1
    have lT : T k < 256 := by rw [← C.2.2.2]; exact cb_lt g 2 k
    have oc := e_b_octet (i := k) C.1.b1 (by omega)
    rw [C.2.2.2] at oc
    rcases e_x_isDigit (h := g) lT with ⟨p1, p2⟩ | ⟨p1, p2⟩
    · obtain ⟨u, z1, z2, z3, z4, z5⟩ := ih (k + 1) f (hsi g 7 5 (nI (k + 1))) (by omega) (by omega) (by omega) (C.frj s75_frj) hi_at
      have ev : lN (dv T s (k - s)) * 10 + Int32.toInt64 (nI (T k) - 48) = lN (dv T s (k + 1 - s)) := by
        unfold isDg at p1
        rw [n_48, pk_sub p1.1, nI_l (by omega), l_10, lN_mul, lN_add, show k + 1 - s = (k - s) + 1 by omega, dv, show s + (k - s) = k by omega]
      refine ⟨u, ?_, s75_frj.trans z2, ?_, by rw [z4, hi_nk (by decide)], fun i => ?_⟩
      · rw [dE, if_pos (dgB_iff.mpr p1), ← z1]
        show s_x_takeWhole_44 (b_x_takeWhole_44 f) _ _ _ _ _ _ = _
        unfold s_x_takeWhole_44
        rw [e5, C.2.1]
        refine o_pos ⟨C.1.b1.1, C.1.b1.2.1⟩ (o_neg (by (first | (simp (maxSteps := 4000000) (disch := omega) only [n_0, n_1, n_2, n_3, n_4, n_5, n_6, n_7, n_8, n_9, n_10, n_11, n_12, n_13, n_14, n_15, n_16, n_18, n_20, n_24, n_31, n_32, n_34, n_40, n_41, n_44, n_45, n_47, n_48, n_57, n_58, n_59, n_61, n_63, n_64, n_65, n_68, n_90, n_91, n_93, n_95, n_97, n_100, n_122, n_123, n_125, n_128, n_144, n_200, n_255, n_256, n_300, n_400, n_600, n_1536, n_3980, n_4000, n_4001, n_4300, n_65536, l_0, l_1, l_2, l_3, l_4, l_10, l_48, l_63, l_255, l_300, nI_ltI, nI_leI, nI_eq, nI_clamp, nI_add, pk_sub, pk_mul, nI_ne1, ne1_nI, nI_pge, nI_nlt0, nI_l, lN_i, lN_add, lN_mul, lN_sub, pk_lLT, pk_lLE, pk_lEQ, lg_lt, lg_ge, lg_eq0, lg_le, lg_gt, lg_ltn, lg_gen, lg_eq0n, lg_len, lg_gtn, Nat.zero_le, Nat.not_lt_zero, not_false_eq_true, not_true_eq_false, true_and, and_true]; done) | (simp (maxSteps := 4000000) (disch := omega) only [n_0, n_1, n_2, n_3, n_4, n_5, n_6, n_7, n_8, n_9, n_10, n_11, n_12, n_13, n_14, n_15, n_16, n_18, n_20, n_24, n_31, n_32, n_34, n_40, n_41, n_44, n_45, n_47, n_48, n_57, n_58, n_59, n_61, n_63, n_64, n_65, n_68, n_90, n_91, n_93, n_95, n_97, n_100, n_122, n_123, n_125, n_128, n_144, n_200, n_255, n_256, n_300, n_400, n_600, n_1536, n_3980, n_4000, n_4001, n_4300, n_65536, l_0, l_1, l_2, l_3, l_4, l_10, l_48, l_63, l_255, l_300, nI_ltI, nI_leI, nI_eq, nI_clamp, nI_add, pk_sub, pk_mul, nI_ne1, ne1_nI, nI_pge, nI_nlt0, nI_l, lN_i, lN_add, lN_mul, lN_sub, pk_lLT, pk_lLE, pk_lEQ, lg_lt, lg_ge, lg_eq0, lg_le, lg_gt, lg_ltn, lg_gen, lg_eq0n, lg_len, lg_gtn, Nat.zero_le, Nat.not_lt_zero, not_false_eq_true, not_true_eq_false, true_and, and_true]; omega) | omega)) (o_bind oc (o_bind p2 (o_neg one0 (o_pos ⟨C.1.b1.1, C.1.b1.2.1⟩ ?_)))))
        dsimp only
        rw [e5]
        refine o_bind oc ?_
        dsimp only
        rw [e5, ev, n_1, nI_add]
      · rw [dE, if_pos (dgB_iff.mpr p1)]
        exact z3
      · obtain ⟨a1, a2, a3, a4⟩ := z5 i
        exact ⟨by rw [a1, hi_hsi_ne (by decide)], by rw [a2, hi_hsi_ne (by decide)], by rw [a3]; rfl, by rw [a4]; rfl⟩
    · refine ⟨g, ?_, FRJ.refl, ?_, rfl, fun i => ⟨rfl, rfl, rfl, rfl⟩⟩
      · rw [dE, if_neg (fun z => p1 (dgB_iff.mp z))]
        show s_x_takeWhole_44 (b_x_takeWhole_44 f) _ _ _ _ _ _ = _
        unfold s_x_takeWhole_44
        rw [e5, C.2.1]
        exact o_pos ⟨C.1.b1.1, C.1.b1.2.1⟩ (o_neg (by (first | (simp (maxSteps := 4000000) (disch := omega) only [n_0, n_1, n_2, n_3, n_4, n_5, n_6, n_7, n_8, n_9, n_10, n_11, n_12, n_13, n_14, n_15, n_16, n_18, n_20, n_24, n_31, n_32, n_34, n_40, n_41, n_44, n_45, n_47, n_48, n_57, n_58, n_59, n_61, n_63, n_64, n_65, n_68, n_90, n_91, n_93, n_95, n_97, n_100, n_122, n_123, n_125, n_128, n_144, n_200, n_255, n_256, n_300, n_400, n_600, n_1536, n_3980, n_4000, n_4001, n_4300, n_65536, l_0, l_1, l_2, l_3, l_4, l_10, l_48, l_63, l_255, l_300, nI_ltI, nI_leI, nI_eq, nI_clamp, nI_add, pk_sub, pk_mul, nI_ne1, ne1_nI, nI_pge, nI_nlt0, nI_l, lN_i, lN_add, lN_mul, lN_sub, pk_lLT, pk_lLE, pk_lEQ, lg_lt, lg_ge, lg_eq0, lg_le, lg_gt, lg_ltn, lg_gen, lg_eq0n, lg_len, lg_gtn, Nat.zero_le, Nat.not_lt_zero, not_false_eq_true, not_true_eq_false, true_and, and_true]; done) | (simp (maxSteps := 4000000) (disch := omega) only [n_0, n_1, n_2, n_3, n_4, n_5, n_6, n_7, n_8, n_9, n_10, n_11, n_12, n_13, n_14, n_15, n_16, n_18, n_20, n_24, n_31, n_32, n_34, n_40, n_41, n_44, n_45, n_47, n_48, n_57, n_58, n_59, n_61, n_63, n_64, n_65, n_68, n_90, n_91, n_93, n_95, n_97, n_100, n_122, n_123, n_125, n_128, n_144, n_200, n_255, n_256, n_300, n_400, n_600, n_1536, n_3980, n_4000, n_4001, n_4300, n_65536, l_0, l_1, l_2, l_3, l_4, l_10, l_48, l_63, l_255, l_300, nI_ltI, nI_leI, nI_eq, nI_clamp, nI_add, pk_sub, pk_mul, nI_ne1, ne1_nI, nI_pge, nI_nlt0, nI_l, lN_i, lN_add, lN_mul, lN_sub, pk_lLT, pk_lLE, pk_lEQ, lg_lt, lg_ge, lg_eq0, lg_le, lg_gt, lg_ltn, lg_gen, lg_eq0n, lg_len, lg_gtn, Nat.zero_le, Nat.not_lt_zero, not_false_eq_true, not_true_eq_false, true_and, and_true]; omega) | omega)) (o_bind oc (o_bind p2 (o_pos rfl rfl))))
      · rw [dE, if_neg (fun z => p1 (dgB_iff.mp z))]
        exact e5
theorem e_m_dEnd {a : Nat} {x2 : Int32} (M : MTx h T n) : ∀ (d k fuel : Nat), k + d = n → d < fuel → a ≤ k → b_m_one_98 fuel (nI a) x2 (nI k) h = (if ¬ x2 = 45 then (b_m_one_130 (nI a) (nI (dE T d k)) (nI (dE T d k - a)) 0 h) else (b_m_one_130 (nI a) (nI (dE T d k)) (nI (dE T d k - a)) 1 h)) := by
  have n4 := M.2.1
  intro d
  induction d with
  | zero =>
    intro k fuel e hf ak
    obtain ⟨f, rfl, -⟩ := fuel_pos hf
    have sg := e_m_signAtN (k := k) M (by omega) (by omega)
    show s_m_one_98 (b_m_one_98 f) _ _ _ _ = _
    unfold s_m_one_98
    rw [pk_sub ak]
    exact o_bind sg (o_bind e_m_isDigitN (o_pos rfl rfl))
  | succ d ih =>
    intro k fuel e hf ak
    obtain ⟨f, rfl, -⟩ := fuel_pos hf
    have lT := M.2.2.1 k
    have sg := e_m_signAt (k := k) M (by omega)
    have nx := ih (k + 1) f (by omega) (by omega) (by omega)
    show s_m_one_98 (b_m_one_98 f) _ _ _ _ = _
    unfold s_m_one_98
    rw [pk_sub ak, nI_1, dE]
    rcases e_m_isDigit (h := h) lT with ⟨p1, p2⟩ | ⟨p1, p2⟩
    · rw [if_pos (dgB_iff.mpr p1)]
      exact o_bind sg (o_bind p2 (o_neg one0 nx))
    · rw [if_neg (fun z => p1 (dgB_iff.mp z))]
      exact o_bind sg (o_bind p2 (o_pos rfl rfl))
end Tk
