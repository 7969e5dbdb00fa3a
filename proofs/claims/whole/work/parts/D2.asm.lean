/-! The builder: what a call leaves of it; text -/

/-- what the building calls may write -/
def bP (a k : Nat) : Prop := a = 1244 ∨ (1246 ≤ a ∧ a ≤ 1254) ∨ (1299 ≤ a ∧ a ≤ 1307) ∨ a = 1309 ∨ (a = 1262 ∧ (k = 0 ∨ k = 2 ∨ k = 55 ∨ (57 ≤ k ∧ k ≤ 68))) ∨ (a = 1 ∧ k = 1) ∨ (a = 5 ∧ k = 1)
/-- what they may write where they throw -/
def cP (a k : Nat) : Prop := (a = 1244 ∧ 12 ≤ k) ∨ a = 1254 ∨ a = 1309 ∨ (a = 1262 ∧ (k = 0 ∨ k = 2 ∨ k = 55)) ∨ (a = 1 ∧ k = 1) ∨ (a = 5 ∧ k = 1)
/-- what a new thing and the row write -/
def bT (tc a k : Nat) : Prop := a = 1246 ∨ (a = 1244 ∧ (k = 1 ∨ k = 2 ∨ k = 7)) ∨ (1247 ≤ a ∧ a ≤ 1250 ∧ k = tc) ∨ a = 1299 ∨ (a = 1262 ∧ (k = 0 ∨ k = 2 ∨ k = 55 ∨ k = 57 ∨ k = 58 ∨ k = 59)) ∨ (1300 ≤ a ∧ a ≤ 1303 ∧ k = tc) ∨ (a = 1 ∧ k = 1) ∨ (a = 5 ∧ k = 1)
def FX (P : Nat → Nat → Prop) (h g : XH) : Prop := LY g ∧ (hr g 0 4 = hr h 0 4 ∧ hr g 0 5 = hr h 0 5) ∧ (∀ a k, a < 1316 → ¬ P a k → hi g a k = hi h a k) ∧ (∀ a, a < 1316 → hj g a = hj h a) ∧ RM h g
section Bld
variable {P : Nat → Nat → Prop} {h g : XH} {S : Nat} {sg : SGT} {sd : Nat → Int64}
theorem FRM.fx (A : FRM P h g) (L : LY h) : FX P h g := ⟨by rw [A.ly]; exact L, by rw [A.1.2.2.2.2]; exact ⟨rfl, rfl⟩, fun a k _ w => A.2.2 a k w, fun a ha => A.2.1 a (by omega), RM.same A.1.1 A.1.2.1⟩
theorem FRM.fxt {hc g1 g2 : XH} (A : FRM P h hc) (L : LY h) (hm : hz h < 900000) (W : OW (hthr hc) g1) (M : FRM P g1 g2) : FX P h g2 := by
  have Lc : LY hc := by rw [A.ly]; exact L
  have l0 := L.1
  have l1 : 1317 ≤ hz hc := by rw [A.1.1]; exact l0
  have W2 : FRM P (hthr hc) g1 := FRM.refl.ow W
  have V := W2.trans M
  have Lt : LY (hthr hc) := Lc.thr (by rw [A.1.1]; omega)
  refine ⟨by rw [V.ly]; exact Lt, ?_, fun a k ha w => ?_, fun a ha => ?_, ?_⟩
  · rw [V.1.2.2.2.2, hthr_hr (by omega), A.1.2.2.2.2]
    exact ⟨rfl, rfl⟩
  · rw [V.2.2 a k w, hthr_hi (by omega)]
    exact A.2.2 a k w
  · rw [V.2.1 a (by omega), hthr_hj (by omega)]
    exact A.2.1 a (by omega)
  · refine ⟨?_, ?_⟩
    · rw [V.1.1, hthr_z, A.1.1]; omega
    · rw [V.1.2.1, hthr_w, A.1.2.1]; omega
theorem FX.row (A : FX P h g) {a : Nat} (ha : a < 1316) (w : ∀ k, ¬ P a k) : hi g a = hi h a := funext fun k => A.2.2.1 a k ha (w k)
theorem RA.bld (H : RA h S sg sd) (A : FX bP h g) (t : RT g) (v : RV g) (b : RB g sg) : RA g S sg sd := by
  have hS := H.sS
  obtain ⟨L, K, a1, a2, a3, a4, a5, a6, a7⟩ := H
  have sc : SC g S := by
    rcases K.2.2 with q | q <;> subst q
    · exact A.1.2.2.2.2.2.1
    · exact A.1.2.2.2.2.2.2
  have at' := A.2.2.1
  have jj := A.2.2.2.1
  exact ⟨A.1, by rw [A.2.1.1, A.2.1.2]; exact K, t, v, a3.cg (at' 3 1 (by omega) (by unfold bP; omega)) (at' 1262 72 (by omega) (by unfold bP; omega)) (A.row (by omega) (fun k => by unfold bP; omega)) (A.row (by omega) (fun k => by unfold bP; omega)), a4.cg (fun k _ _ => at' 0 k (by omega) (by unfold bP; omega)) (fun k _ => at' 1262 k (by omega) (by unfold bP; omega)), a5.cg sc (fun a h1 h2 => A.row (by omega) (fun k => by unfold bP; omega)) (fun a h1 h2 => jj a (by omega)) (fun k _ _ => at' 1262 k (by omega) (by unfold bP; omega)) (fun a h1 h2 => A.row (by omega) (fun k => by unfold bP; omega)) (jj _ (by omega)), b, a7.cg (at' 1255 5 (by omega) (by unfold bP; omega)) (at' 1256 1 (by omega) (by unfold bP; omega)) (fun a h1 h2 => A.row (by omega) (fun k => by unfold bP; omega)) (fun k _ => at' 1262 k (by omega) (by unfold bP; omega)) (fun a h1 h2 => A.row (by omega) (fun k => by unfold bP; omega))⟩
theorem cP_bP {a k : Nat} : cP a k → bP a k := by unfold cP bP; omega
theorem bT_bP {tc a k : Nat} : bT tc a k → bP a k := by unfold bT bP; omega
theorem FX.mono {Q : Nat → Nat → Prop} (A : FX P h g) (w : ∀ a k, P a k → Q a k) : FX Q h g := ⟨A.1, A.2.1, fun a k ha q => A.2.2.1 a k ha (fun z => q (w a k z)), A.2.2.2⟩
theorem RA.kept (H : RA h S sg sd) (A : FX cP h g) (t : RT g) (v : RV g) : RA g S sg sd := by
  have at' := A.2.2.1
  refine H.bld (A.mono fun a k => cP_bP) t v (RB.cg H.2.2.2.2.2.2.2.1 (fun k hk' => at' 1244 k (by omega) (by unfold cP; omega)) (fun a h1 h2 => A.row (by omega) (fun k => by unfold cP; omega)) (fun k hk' => at' 1262 k (by omega) (by unfold cP; omega)) (fun a h1 h2 => A.row (by omega) (fun k => by unfold cP; omega)))
theorem RT.zero (e1 : hi g 1 1 = 0) (e2 : hi g 1262 2 = 0) : RT g := ⟨0, by decide, e1, e2, fun k hk' => absurd hk' (Nat.not_lt_zero k)⟩
theorem RV.zero (e1 : hi g 5 1 = 0) (e2 : hi g 1262 55 = 0) : RV g := ⟨0, by decide, e1, e2, fun k hk' => absurd hk' (Nat.not_lt_zero k)⟩
theorem RT.fx (H : RT h) (A : FX P h g) (w : ¬ P 1 1 ∧ ¬ P 1262 2 ∧ ∀ k, ¬ P 2 k ∧ ¬ P 1263 k) : RT g := H.cg (A.2.2.1 1 1 (by omega) w.1) (A.2.2.1 1262 2 (by omega) w.2.1) (A.row (by omega) (fun k => (w.2.2 k).1)) (A.row (by omega) (fun k => (w.2.2 k).2))
theorem RV.fx (H : RV h) (A : FX P h g) (w : ¬ P 5 1 ∧ ¬ P 1262 55) : RV g := H.cg (A.2.2.1 5 1 (by omega) w.1) (A.2.2.1 1262 55 (by omega) w.2) (A.2.2.2.1 _ (by omega)) (A.2.2.2.1 _ (by omega))
/-- a thing is new -/
theorem RB.add {n tc N so : Nat} (b1 : RBr h n) (b3 : RBt h n tc sg) (b4 : RBl h n tc) (o : hi h 1244 10 = -1 ∧ hi h 1262 67 = -1) (F : ∀ a k, a < 1316 → ¬ bT tc a k → hi g a k = hi h a k) (hN : n ≤ N ∧ N ≤ 4000 ∧ 0 < N) (e1 : hi g 1244 1 = nI N) (e57 : hi g 1262 57 = nI N) (row : ∀ i, i < N → hi g 1299 i = nI (cb g 1246 (3999 - i))) (old : ∀ m, 4000 - n ≤ m → m < 4000 → cb g 1246 m = cb h 1246 m) (G : RBg g) (e7 : hi g 1244 7 = nI (tc + 1)) (e59 : hi g 1262 59 = nI (tc + 1)) (tc3 : tc < 300) (hso : so = 1 ∨ so = 3 ∨ so = 5) (s3 : so = 3 → hi h 1262 7 = 1) (t1 : hi g 1247 tc = nI so) (t2 : hi g 1300 tc = nI so) (t3 : hi g 1248 tc = hi g 1302 tc) (t4 : hi g 1249 tc = hi g 1301 tc) (t5 : hi g 1250 tc = nI N) (t6 : hi g 1303 tc = nI N) : RB g sg := by
  have i7 : hi g 1262 7 = hi h 1262 7 := F 1262 7 (by omega) (by unfold bT; omega)
  refine ⟨N, tc + 1, ⟨hN.2.1, e1, e57, row⟩, G, ⟨by omega, e7, e59, fun t ht => ?_⟩, ?_, Or.inl ?_⟩
  · by_cases c : t = tc
    · subst c
      exact ⟨so, N, hso, hN.2.2, Nat.le_refl N, t1, t2, t3, t4, t5, t6, fun q => by rw [i7]; exact s3 q⟩
    · obtain ⟨s, st, q1, q2, q3, q4, q5, q6, q7, q8, q9, q10⟩ := b3.2.2.2 t (by omega)
      rw [F 1247 t (by omega) (by unfold bT; omega), F 1248 t (by omega) (by unfold bT; omega), F 1249 t (by omega) (by unfold bT; omega), F 1250 t (by omega) (by unfold bT; omega), F 1300 t (by omega) (by unfold bT; omega), F 1301 t (by omega) (by unfold bT; omega), F 1302 t (by omega) (by unfold bT; omega), F 1303 t (by omega) (by unfold bT; omega), i7]
      exact ⟨s, st, q1, q2, by omega, q4, q5, q6, q7, q8, q9, q10⟩
  · obtain ⟨lc, l1, l2, l3, l4⟩ := b4
    refine ⟨lc, by omega, by rw [F 1244 9 (by omega) (by unfold bT; omega)]; exact l2, by rw [F 1262 64 (by omega) (by unfold bT; omega)]; exact l3, fun l hl => ?_⟩
    obtain ⟨ls, ln, q1, q2, q3, q4, q5, q6, q7, q8, q9⟩ := l4 l hl
    have n4 := b1.1
    refine ⟨ls, ln, by rw [F 1251 l (by omega) (by unfold bT; omega)]; exact q1, by rw [F 1304 l (by omega) (by unfold bT; omega)]; exact q2, by rw [F 1305 l (by omega) (by unfold bT; omega)]; exact q3, q4, q5, q6, q7, by omega, ?_⟩
    rw [← q9]
    exact nb_congr 2 _ (fun j h1 h2 => old j (by omega) (by omega))
  · rw [F 1244 10 (by omega) (by unfold bT; omega), F 1262 67 (by omega) (by unfold bT; omega)]
    exact o
theorem RA.hs (H : RA h S sg sd) (e : hi h 1262 7 = 1) : CS h S sg sd ∧ MS h sg sd ∧ WF sg sd ∧ NM h S sg := by
  rcases H.2.2.2.2.2.2.1 with ⟨q1, -⟩ | ⟨q1, q2, q3, q4, q5, q6⟩
  · rw [e] at q1
    exact absurd q1 one0
  · exact ⟨q2, q3, q4, q5⟩
/-- open or not, on both sides -/
theorem RA.op (H : RA h S sg sd) : (hi h 1244 10 = -1 ∧ hi h 1262 67 = -1) ∨ ∃ t, t < sg 0 1 ∧ t < 16 ∧ hi h 1262 7 = 1 ∧ hi h 1244 10 = nI t ∧ hi h 1262 67 = nI t ∧ ¬ hi h 1244 10 = -1 ∧ ¬ hi h 1262 67 = -1 := by
  obtain ⟨n, tc, b1, b2, b3, b4, b5⟩ := H.2.2.2.2.2.2.2.1
  rcases b5 with q | ⟨t, lo, q1, q2, q3, q4, q5, q6, q7, q8, q9⟩
  · exact Or.inl q
  · have w := (H.hs q2).2.2.1.1
    have t31 : t < 2 ^ 31 := by omega
    exact Or.inr ⟨t, q1, by omega, q2, q3, q4, by rw [q3]; exact nI_n1 t31, by rw [q4]; exact nI_n1 t31⟩
theorem v8_0 {t : Nat} (ht : t < 256) : v8 (lN t) 0 = t := by
  unfold v8 tl
  rw [lN_tn (by omega), Nat.pow_zero, Nat.div_one, Nat.mod_eq_of_lt ht]
theorem e_u_isOpen0 (e : hi h 1244 10 = -1) : f_u_isOpen h = some (0, h) := by unfold f_u_isOpen; exact o_pos e rfl
theorem e_u_isOpen1 (e : ¬ hi h 1244 10 = -1) : f_u_isOpen h = some (1, h) := by unfold f_u_isOpen; exact o_neg e rfl
theorem e_u_room {N tc : Nat} (e : hi h 1244 7 = nI tc) (ht : tc ≤ 300) (hN : N < 1000000) : (tc < 300 ∧ N ≤ 4000 ∧ f_u_hasRoomForThing (nI N) h = some (1, h)) ∨ ((tc = 300 ∨ 4000 < N) ∧ f_u_hasRoomForThing (nI N) h = some (0, h)) := by
  unfold f_u_hasRoomForThing
  rw [e]
  by_cases c : tc = 300
  · exact Or.inr ⟨Or.inl c, o_pos (by (first | (simp (maxSteps := 4000000) (disch := omega) only [n_0, n_1, n_2, n_3, n_4, n_5, n_6, n_7, n_8, n_9, n_10, n_11, n_12, n_13, n_14, n_15, n_16, n_18, n_20, n_24, n_31, n_32, n_34, n_40, n_41, n_44, n_45, n_47, n_48, n_57, n_58, n_59, n_61, n_63, n_64, n_65, n_68, n_90, n_91, n_93, n_95, n_97, n_100, n_122, n_123, n_125, n_128, n_144, n_200, n_255, n_256, n_300, n_400, n_600, n_1536, n_3980, n_4000, n_4001, n_4300, n_65536, l_0, l_1, l_2, l_3, l_4, l_10, l_48, l_63, l_255, l_300, nI_ltI, nI_leI, nI_eq, nI_clamp, nI_add, pk_sub, pk_mul, nI_ne1, ne1_nI, nI_pge, nI_nlt0, nI_l, lN_i, lN_add, lN_mul, lN_sub, pk_lLT, pk_lLE, pk_lEQ, lg_lt, lg_ge, lg_eq0, lg_le, lg_gt, lg_ltn, lg_gen, lg_eq0n, lg_len, lg_gtn, Nat.zero_le, Nat.not_lt_zero, not_false_eq_true, not_true_eq_false, true_and, and_true]; done) | (simp (maxSteps := 4000000) (disch := omega) only [n_0, n_1, n_2, n_3, n_4, n_5, n_6, n_7, n_8, n_9, n_10, n_11, n_12, n_13, n_14, n_15, n_16, n_18, n_20, n_24, n_31, n_32, n_34, n_40, n_41, n_44, n_45, n_47, n_48, n_57, n_58, n_59, n_61, n_63, n_64, n_65, n_68, n_90, n_91, n_93, n_95, n_97, n_100, n_122, n_123, n_125, n_128, n_144, n_200, n_255, n_256, n_300, n_400, n_600, n_1536, n_3980, n_4000, n_4001, n_4300, n_65536, l_0, l_1, l_2, l_3, l_4, l_10, l_48, l_63, l_255, l_300, nI_ltI, nI_leI, nI_eq, nI_clamp, nI_add, pk_sub, pk_mul, nI_ne1, ne1_nI, nI_pge, nI_nlt0, nI_l, lN_i, lN_add, lN_mul, lN_sub, pk_lLT, pk_lLE, pk_lEQ, lg_lt, lg_ge, lg_eq0, lg_le, lg_gt, lg_ltn, lg_gen, lg_eq0n, lg_len, lg_gtn, Nat.zero_le, Nat.not_lt_zero, not_false_eq_true, not_true_eq_false, true_and, and_true]; omega) | omega)) rfl⟩
  · by_cases c2 : N ≤ 4000
    · exact Or.inl ⟨by omega, c2, o_neg (by (first | (simp (maxSteps := 4000000) (disch := omega) only [n_0, n_1, n_2, n_3, n_4, n_5, n_6, n_7, n_8, n_9, n_10, n_11, n_12, n_13, n_14, n_15, n_16, n_18, n_20, n_24, n_31, n_32, n_34, n_40, n_41, n_44, n_45, n_47, n_48, n_57, n_58, n_59, n_61, n_63, n_64, n_65, n_68, n_90, n_91, n_93, n_95, n_97, n_100, n_122, n_123, n_125, n_128, n_144, n_200, n_255, n_256, n_300, n_400, n_600, n_1536, n_3980, n_4000, n_4001, n_4300, n_65536, l_0, l_1, l_2, l_3, l_4, l_10, l_48, l_63, l_255, l_300, nI_ltI, nI_leI, nI_eq, nI_clamp, nI_add, pk_sub, pk_mul, nI_ne1, ne1_nI, nI_pge, nI_nlt0, nI_l, lN_i, lN_add, lN_mul, lN_sub, pk_lLT, pk_lLE, pk_lEQ, lg_lt, lg_ge, lg_eq0, lg_le, lg_gt, lg_ltn, lg_gen, lg_eq0n, lg_len, lg_gtn, Nat.zero_le, Nat.not_lt_zero, not_false_eq_true, not_true_eq_false, true_and, and_true]; done) | (simp (maxSteps := 4000000) (disch := omega) only [n_0, n_1, n_2, n_3, n_4, n_5, n_6, n_7, n_8, n_9, n_10, n_11, n_12, n_13, n_14, n_15, n_16, n_18, n_20, n_24, n_31, n_32, n_34, n_40, n_41, n_44, n_45, n_47, n_48, n_57, n_58, n_59, n_61, n_63, n_64, n_65, n_68, n_90, n_91, n_93, n_95, n_97, n_100, n_122, n_123, n_125, n_128, n_144, n_200, n_255, n_256, n_300, n_400, n_600, n_1536, n_3980, n_4000, n_4001, n_4300, n_65536, l_0, l_1, l_2, l_3, l_4, l_10, l_48, l_63, l_255, l_300, nI_ltI, nI_leI, nI_eq, nI_clamp, nI_add, pk_sub, pk_mul, nI_ne1, ne1_nI, nI_pge, nI_nlt0, nI_l, lN_i, lN_add, lN_mul, lN_sub, pk_lLT, pk_lLE, pk_lEQ, lg_lt, lg_ge, lg_eq0, lg_le, lg_gt, lg_ltn, lg_gen, lg_eq0n, lg_len, lg_gtn, Nat.zero_le, Nat.not_lt_zero, not_false_eq_true, not_true_eq_false, true_and, and_true]; omega) | omega)) (o_neg (by (first | (simp (maxSteps := 4000000) (disch := omega) only [n_0, n_1, n_2, n_3, n_4, n_5, n_6, n_7, n_8, n_9, n_10, n_11, n_12, n_13, n_14, n_15, n_16, n_18, n_20, n_24, n_31, n_32, n_34, n_40, n_41, n_44, n_45, n_47, n_48, n_57, n_58, n_59, n_61, n_63, n_64, n_65, n_68, n_90, n_91, n_93, n_95, n_97, n_100, n_122, n_123, n_125, n_128, n_144, n_200, n_255, n_256, n_300, n_400, n_600, n_1536, n_3980, n_4000, n_4001, n_4300, n_65536, l_0, l_1, l_2, l_3, l_4, l_10, l_48, l_63, l_255, l_300, nI_ltI, nI_leI, nI_eq, nI_clamp, nI_add, pk_sub, pk_mul, nI_ne1, ne1_nI, nI_pge, nI_nlt0, nI_l, lN_i, lN_add, lN_mul, lN_sub, pk_lLT, pk_lLE, pk_lEQ, lg_lt, lg_ge, lg_eq0, lg_le, lg_gt, lg_ltn, lg_gen, lg_eq0n, lg_len, lg_gtn, Nat.zero_le, Nat.not_lt_zero, not_false_eq_true, not_true_eq_false, true_and, and_true]; done) | (simp (maxSteps := 4000000) (disch := omega) only [n_0, n_1, n_2, n_3, n_4, n_5, n_6, n_7, n_8, n_9, n_10, n_11, n_12, n_13, n_14, n_15, n_16, n_18, n_20, n_24, n_31, n_32, n_34, n_40, n_41, n_44, n_45, n_47, n_48, n_57, n_58, n_59, n_61, n_63, n_64, n_65, n_68, n_90, n_91, n_93, n_95, n_97, n_100, n_122, n_123, n_125, n_128, n_144, n_200, n_255, n_256, n_300, n_400, n_600, n_1536, n_3980, n_4000, n_4001, n_4300, n_65536, l_0, l_1, l_2, l_3, l_4, l_10, l_48, l_63, l_255, l_300, nI_ltI, nI_leI, nI_eq, nI_clamp, nI_add, pk_sub, pk_mul, nI_ne1, ne1_nI, nI_pge, nI_nlt0, nI_l, lN_i, lN_add, lN_mul, lN_sub, pk_lLT, pk_lLE, pk_lEQ, lg_lt, lg_ge, lg_eq0, lg_le, lg_gt, lg_ltn, lg_gen, lg_eq0n, lg_len, lg_gtn, Nat.zero_le, Nat.not_lt_zero, not_false_eq_true, not_true_eq_false, true_and, and_true]; omega) | omega)) rfl)⟩
    · exact Or.inr ⟨Or.inr (by omega), o_neg (by (first | (simp (maxSteps := 4000000) (disch := omega) only [n_0, n_1, n_2, n_3, n_4, n_5, n_6, n_7, n_8, n_9, n_10, n_11, n_12, n_13, n_14, n_15, n_16, n_18, n_20, n_24, n_31, n_32, n_34, n_40, n_41, n_44, n_45, n_47, n_48, n_57, n_58, n_59, n_61, n_63, n_64, n_65, n_68, n_90, n_91, n_93, n_95, n_97, n_100, n_122, n_123, n_125, n_128, n_144, n_200, n_255, n_256, n_300, n_400, n_600, n_1536, n_3980, n_4000, n_4001, n_4300, n_65536, l_0, l_1, l_2, l_3, l_4, l_10, l_48, l_63, l_255, l_300, nI_ltI, nI_leI, nI_eq, nI_clamp, nI_add, pk_sub, pk_mul, nI_ne1, ne1_nI, nI_pge, nI_nlt0, nI_l, lN_i, lN_add, lN_mul, lN_sub, pk_lLT, pk_lLE, pk_lEQ, lg_lt, lg_ge, lg_eq0, lg_le, lg_gt, lg_ltn, lg_gen, lg_eq0n, lg_len, lg_gtn, Nat.zero_le, Nat.not_lt_zero, not_false_eq_true, not_true_eq_false, true_and, and_true]; done) | (simp (maxSteps := 4000000) (disch := omega) only [n_0, n_1, n_2, n_3, n_4, n_5, n_6, n_7, n_8, n_9, n_10, n_11, n_12, n_13, n_14, n_15, n_16, n_18, n_20, n_24, n_31, n_32, n_34, n_40, n_41, n_44, n_45, n_47, n_48, n_57, n_58, n_59, n_61, n_63, n_64, n_65, n_68, n_90, n_91, n_93, n_95, n_97, n_100, n_122, n_123, n_125, n_128, n_144, n_200, n_255, n_256, n_300, n_400, n_600, n_1536, n_3980, n_4000, n_4001, n_4300, n_65536, l_0, l_1, l_2, l_3, l_4, l_10, l_48, l_63, l_255, l_300, nI_ltI, nI_leI, nI_eq, nI_clamp, nI_add, pk_sub, pk_mul, nI_ne1, ne1_nI, nI_pge, nI_nlt0, nI_l, lN_i, lN_add, lN_mul, lN_sub, pk_lLT, pk_lLE, pk_lEQ, lg_lt, lg_ge, lg_eq0, lg_le, lg_gt, lg_ltn, lg_gen, lg_eq0n, lg_len, lg_gtn, Nat.zero_le, Nat.not_lt_zero, not_false_eq_true, not_true_eq_false, true_and, and_true]; omega) | omega)) (o_pos (by (first | (simp (maxSteps := 4000000) (disch := omega) only [n_0, n_1, n_2, n_3, n_4, n_5, n_6, n_7, n_8, n_9, n_10, n_11, n_12, n_13, n_14, n_15, n_16, n_18, n_20, n_24, n_31, n_32, n_34, n_40, n_41, n_44, n_45, n_47, n_48, n_57, n_58, n_59, n_61, n_63, n_64, n_65, n_68, n_90, n_91, n_93, n_95, n_97, n_100, n_122, n_123, n_125, n_128, n_144, n_200, n_255, n_256, n_300, n_400, n_600, n_1536, n_3980, n_4000, n_4001, n_4300, n_65536, l_0, l_1, l_2, l_3, l_4, l_10, l_48, l_63, l_255, l_300, nI_ltI, nI_leI, nI_eq, nI_clamp, nI_add, pk_sub, pk_mul, nI_ne1, ne1_nI, nI_pge, nI_nlt0, nI_l, lN_i, lN_add, lN_mul, lN_sub, pk_lLT, pk_lLE, pk_lEQ, lg_lt, lg_ge, lg_eq0, lg_le, lg_gt, lg_ltn, lg_gen, lg_eq0n, lg_len, lg_gtn, Nat.zero_le, Nat.not_lt_zero, not_false_eq_true, not_true_eq_false, true_and, and_true]; done) | (simp (maxSteps := 4000000) (disch := omega) only [n_0, n_1, n_2, n_3, n_4, n_5, n_6, n_7, n_8, n_9, n_10, n_11, n_12, n_13, n_14, n_15, n_16, n_18, n_20, n_24, n_31, n_32, n_34, n_40, n_41, n_44, n_45, n_47, n_48, n_57, n_58, n_59, n_61, n_63, n_64, n_65, n_68, n_90, n_91, n_93, n_95, n_97, n_100, n_122, n_123, n_125, n_128, n_144, n_200, n_255, n_256, n_300, n_400, n_600, n_1536, n_3980, n_4000, n_4001, n_4300, n_65536, l_0, l_1, l_2, l_3, l_4, l_10, l_48, l_63, l_255, l_300, nI_ltI, nI_leI, nI_eq, nI_clamp, nI_add, pk_sub, pk_mul, nI_ne1, ne1_nI, nI_pge, nI_nlt0, nI_l, lN_i, lN_add, lN_mul, lN_sub, pk_lLT, pk_lLE, pk_lEQ, lg_lt, lg_ge, lg_eq0, lg_le, lg_gt, lg_ltn, lg_gen, lg_eq0n, lg_len, lg_gtn, Nat.zero_le, Nat.not_lt_zero, not_false_eq_true, not_true_eq_false, true_and, and_true]; omega) | omega)) rfl)⟩
theorem cb_q {x y : XH} {k : Nat} (q : hi x 1246 k = hi y 1246 k) : cb x 1246 k = cb y 1246 k := by unfold cb; rw [q]
/-- the class's cells, the model's -/
def lt62 (a _k : Nat) : Prop := a < 1262
def ge62 (a _k : Nat) : Prop := 1262 ≤ a
theorem FRM.lo (F : FRM ge62 h g) {a k : Nat} (ha : a < 1262) : hi g a k = hi h a k := F.at (Nat.not_le.mpr ha)
theorem FRM.up (F : FRM lt62 h g) {a k : Nat} (ha : 1262 ≤ a) : hi g a k = hi h a k := F.at (Nat.not_lt.mpr ha)
def uA (tc a k : Nat) : Prop := a = 1246 ∨ (a = 1244 ∧ (k = 1 ∨ k = 2 ∨ k = 7)) ∨ (1247 ≤ a ∧ a ≤ 1250 ∧ k = tc)
def mA (tc a k : Nat) : Prop := a = 1299 ∨ (a = 1262 ∧ (k = 57 ∨ k = 58 ∨ k = 59)) ∨ (1300 ≤ a ∧ a ≤ 1303 ∧ k = tc)
section Mono
variable {tc a k : Nat}
theorem e46_uA (q : a = 1246) : uA tc a k := Or.inl q
theorem uP_uA (q : uP a k) : uA tc a k := by unfold uP at q; unfold uA; omega
theorem uTh_uA (q : uTh tc a k) : uA tc a k := by unfold uTh at q; unfold uA; omega
theorem mP_mA (q : mP a k) : mA tc a k := by unfold mP at q; unfold mA; omega
theorem mTh_mA (q : mTh tc a k) : mA tc a k := by unfold mTh at q; unfold mA; omega
theorem uA_bT (q : uA tc a k) : bT tc a k := by unfold uA at q; unfold bT; omega
theorem mA_bT (q : mA tc a k) : bT tc a k := by unfold mA at q; unfold bT; omega
theorem uA_62 (q : uA tc a k) : lt62 a k := by unfold uA at q; unfold lt62; omega
theorem mA_62 (q : mA tc a k) : ge62 a k := by unfold mA at q; unfold ge62; omega
theorem uP_62 (q : uP a k) : lt62 a k := by unfold uP at q; unfold lt62; omega
theorem mP_62 (q : mP a k) : ge62 a k := by unfold mP at q; unfold ge62; omega
theorem e1_cP (q : a = 1 ∧ k = 1) : cP a k := by unfold cP; omega
theorem e5_cP (q : a = 5 ∧ k = 1) : cP a k := by unfold cP; omega
theorem e1_bT (q : a = 1 ∧ k = 1) : bT tc a k := by unfold bT; omega
theorem e5_bT (q : a = 5 ∧ k = 1) : bT tc a k := by unfold bT; omega
theorem e1_62 (q : a = 1 ∧ k = 1) : lt62 a k := by unfold lt62; omega
theorem e5_62 (q : a = 5 ∧ k = 1) : lt62 a k := by unfold lt62; omega
end Mono
end Bld
