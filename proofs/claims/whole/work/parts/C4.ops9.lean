/-! Calls: size -/

section Ops
variable {h : XH} {S : Nat} {sg : SGT} {sd : Nat → Int64}
theorem op_size {x y : Int32} (H : RX h) : ∃ r h1 h2, f_t_size x y h = some (r, h1) ∧ f_m_size x y h1 = some (r, h2) ∧ RX h2 ∧ RM h h2 := by
  obtain ⟨S, sg, sd, H⟩ := H
  have sc := H.sc rfl
  have s1 : S < hz h := by have := sc.1; omega
  have k9 : hk h S = 9 := sc.2.2.1
  have us1 : S + 1 < hz h := by have := sc.1; omega
  have us2 : hk h (S + 1) = 4 := sc.gS.2.2.2.1
  have ut1 : S + 195 < hz h := by have := sc.1; omega
  have ut2 : hk h (S + 195) = 4 := sc.gT.2.2.2.1
  have uu1 : S + 517 < hz h := by have := sc.1; omega
  have uu2 : hk h (S + 517) = 4 := sc.gU.2.2.2.1
  have r0 := sc.2.2.2.1
  have r1 := sc.2.2.2.2.1
  have r2 := sc.2.2.2.2.2.1
  have h4 := H.2.1.1
  have fin : ∀ r : Int32, f_t_size x y h = some (r, h) → f_m_size x y h = some (r, hsi h 1262 0 0) → ∃ r h1 h2, f_t_size x y h = some (r, h1) ∧ f_m_size x y h1 = some (r, h2) ∧ RX h2 ∧ RM h h2 := fun r z1 z2 => ⟨r, h, _, z1, z2, ⟨S, sg, sd, H.th⟩, RM.same rfl rfl⟩
  unfold f_t_size f_m_size at fin
  -- the counts
  have cnt : ∃ (a b c d : Int32), hi h (S + 1) 1 = a ∧ hi h (S + 195) 1 = b ∧ hi h (S + 517) 1 = c ∧ hi h S 5 = d ∧ (if hi h 1262 7 = 0 then some ((0 : Int32), hsi h 1262 0 0) else some (hi h 1262 20, hsi h 1262 0 0)) = some (a, hsi h 1262 0 0) ∧ (if hi h 1262 7 = 0 then some ((0 : Int32), hsi h 1262 0 0) else some (hi h 1262 31, hsi h 1262 0 0)) = some (b, hsi h 1262 0 0) ∧ (if hi h 1262 7 = 0 then some ((0 : Int32), hsi h 1262 0 0) else some (hi h 1262 41, hsi h 1262 0 0)) = some (c, hsi h 1262 0 0) ∧ (if hi h 1262 7 = 0 then some ((-1 : Int32), hsi h 1262 0 0) else some (hi h 1262 45, hsi h 1262 0 0)) = some (d, hsi h 1262 0 0) := by
    refine ⟨_, _, _, _, rfl, rfl, rfl, rfl, ?_⟩
    rcases H.2.2.2.2.2.2.1 with ⟨q1, q2, q3, q4, q5⟩ | ⟨q1, q2, q3, q4, q5, q6⟩
    · rw [if_pos q1, if_pos q1, if_pos q1, if_pos q1, q2, q3, q4, q5.1]
      exact ⟨rfl, rfl, rfl, rfl⟩
    · have h7 : ¬ hi h 1262 7 = 0 := by rw [q1]; exact one0
      rw [if_neg h7, if_neg h7, if_neg h7, if_neg h7, q2.2.1.1, q2.2.1.2.1, q2.2.1.2.2.1, q2.2.1.2.2.2, q3.1.1, q3.1.2.1, q3.1.2.2.1, q3.1.2.2.2]
      exact ⟨rfl, rfl, rfl, rfl⟩
  obtain ⟨a, b, c, d, e1, e2, e3, e4, g1, g2, g3, g4⟩ := cnt
  rw [g1, g2, g3, g4] at fin
  by_cases x0 : x = 0
  · refine fin a (o_pos x0 (o_bind h4 (o_pos ⟨s1, k9⟩ (o_bind r0 (o_pos ⟨us1, us2⟩ ?_))))) (o_pos x0 rfl)
    rw [e1]
  · by_cases x1 : x = 1
    · refine fin b (o_neg x0 (o_pos x1 (o_bind h4 (o_pos ⟨s1, k9⟩ (o_bind r1 (o_pos ⟨ut1, ut2⟩ ?_)))))) (o_neg x0 (o_pos x1 rfl))
      rw [e2]
    · by_cases x2 : x = 2
      · refine fin c (o_neg x0 (o_neg x1 (o_pos x2 (o_bind h4 (o_pos ⟨s1, k9⟩ (o_bind r2 (o_pos ⟨uu1, uu2⟩ ?_))))))) (o_neg x0 (o_neg x1 (o_pos x2 rfl)))
        rw [e3]
      · by_cases x3 : x = 3
        · refine fin d (o_neg x0 (o_neg x1 (o_neg x2 (o_pos x3 (o_bind h4 (o_pos ⟨s1, k9⟩ ?_)))))) (o_neg x0 (o_neg x1 (o_neg x2 (o_pos x3 rfl))))
          rw [e4]
        · -- structs
          have st : ∀ (k : Nat) (m : Nat), (x = 4 ∧ k = 3 ∧ m = 1273) ∨ (x = 5 ∧ k = 6 ∧ m = 1274) ∨ (x = 6 ∧ k = 7 ∧ m = 1275) → ∃ r : Int32, b_t_size_97 x y h = some (r, h) ∧ (Option.bind (f_m_isStruct y (hsi h 1262 0 0)) fun r6 => if r6.1 = 0 then some ((-1 : Int32), r6.2) else if 0 ≤ y ∧ y < nI 12 then some (hi r6.2 m y.toNatClampNeg, r6.2) else none) = some (r, hsi h 1262 0 0) := by
            intro k m hx
            unfold b_t_size_97 f_t_structSize
            rcases H.lkS y with ⟨a1, a2⟩ | ⟨t, ht, ey, W, C, M, a2⟩
            · exact ⟨-1, o_bind h4 (o_pos ⟨s1, k9⟩ (o_bind r0 (o_pos ⟨us1, us2⟩ (o_bind a1 (o_bind (o_elimn rfl) rfl))))), o_bind a2 (o_pos rfl rfl)⟩
            · subst ey
              have D := C.1.ddS (Nat.lt_of_lt_of_le ht W.1.1)
              have d1 : dS S t < hz h := by have := D.1; omega
              have w0 := W.1
              have cm : ∀ m, m ≠ 1262 → hi (hsi h 1262 0 0) m (nI t).toNatClampNeg = hi h m t := fun m hm => by rw [nI_clamp (by omega), hi_hsi_ne hm]
              obtain ⟨k1, k2, k3, k4⟩ := (C.2.2.1 t ht).1
              obtain ⟨j1, j2, j3, j4⟩ := (M.2.1 t ht).1
              refine ⟨hi h (dS S t) k, o_bind h4 (o_pos ⟨s1, k9⟩ (o_bind r0 (o_pos ⟨us1, us2⟩ (o_bind (C.atS W ht) (o_bind (v := (hi h (dS S t) k, h)) (o_elim ?_) rfl))))), o_bind a2 (o_neg one0 (o_pos (by (first | (simp (maxSteps := 4000000) (disch := omega) only [n_0, n_1, n_2, n_3, n_4, n_5, n_6, n_7, n_8, n_9, n_10, n_11, n_12, n_13, n_14, n_15, n_16, n_18, n_20, n_24, n_31, n_32, n_34, n_40, n_41, n_44, n_45, n_47, n_48, n_57, n_58, n_59, n_61, n_63, n_64, n_65, n_68, n_90, n_91, n_93, n_95, n_97, n_100, n_122, n_123, n_125, n_128, n_144, n_200, n_255, n_256, n_300, n_400, n_600, n_1536, n_3980, n_4000, n_4001, n_4300, n_65536, l_0, l_1, l_2, l_3, l_4, l_10, l_48, l_63, l_255, l_300, nI_ltI, nI_leI, nI_eq, nI_clamp, nI_add, pk_sub, pk_mul, nI_ne1, ne1_nI, nI_pge, nI_nlt0, nI_l, lN_i, lN_add, lN_mul, lN_sub, pk_lLT, pk_lLE, pk_lEQ, lg_lt, lg_ge, lg_eq0, lg_le, lg_gt, lg_ltn, lg_gen, lg_eq0n, lg_len, lg_gtn, Nat.zero_le, Nat.not_lt_zero, not_false_eq_true, not_true_eq_false, true_and, and_true]; done) | (simp (maxSteps := 4000000) (disch := omega) only [n_0, n_1, n_2, n_3, n_4, n_5, n_6, n_7, n_8, n_9, n_10, n_11, n_12, n_13, n_14, n_15, n_16, n_18, n_20, n_24, n_31, n_32, n_34, n_40, n_41, n_44, n_45, n_47, n_48, n_57, n_58, n_59, n_61, n_63, n_64, n_65, n_68, n_90, n_91, n_93, n_95, n_97, n_100, n_122, n_123, n_125, n_128, n_144, n_200, n_255, n_256, n_300, n_400, n_600, n_1536, n_3980, n_4000, n_4001, n_4300, n_65536, l_0, l_1, l_2, l_3, l_4, l_10, l_48, l_63, l_255, l_300, nI_ltI, nI_leI, nI_eq, nI_clamp, nI_add, pk_sub, pk_mul, nI_ne1, ne1_nI, nI_pge, nI_nlt0, nI_l, lN_i, lN_add, lN_mul, lN_sub, pk_lLT, pk_lLE, pk_lEQ, lg_lt, lg_ge, lg_eq0, lg_le, lg_gt, lg_ltn, lg_gen, lg_eq0n, lg_len, lg_gtn, Nat.zero_le, Nat.not_lt_zero, not_false_eq_true, not_true_eq_false, true_and, and_true]; omega) | omega)) ?_))⟩
              · rcases hx with ⟨q1, q2, q3⟩ | ⟨q1, q2, q3⟩ | ⟨q1, q2, q3⟩ <;> subst q1 <;> subst q2
                · exact o_neg (by decide) (o_pos ⟨d1, D.2.2.2.2.1⟩ rfl)
                · exact o_pos (by decide) (o_neg (by decide) (o_pos ⟨d1, D.2.2.2.2.1⟩ rfl))
                · exact o_pos (by decide) (o_pos (by decide) (o_pos ⟨d1, D.2.2.2.2.1⟩ rfl))
              · dsimp only
                rcases hx with ⟨q1, q2, q3⟩ | ⟨q1, q2, q3⟩ | ⟨q1, q2, q3⟩ <;> subst q2 <;> subst q3
                · rw [cm _ (by decide), k1, j1]
                · rw [cm _ (by decide), k2, j2]
                · rw [cm _ (by decide), k3, j3]
          have tb : ∀ (k : Nat) (m : Nat), (x = 7 ∧ k = 3 ∧ m = 1283) ∨ (x = 8 ∧ k = 8 ∧ m = 1284) → ∃ r : Int32, b_t_size_113 x y h = some (r, h) ∧ (Option.bind (f_m_isTable y (hsi h 1262 0 0)) fun r6 => if r6.1 = 0 then some ((-1 : Int32), r6.2) else if 0 ≤ y ∧ y < nI 16 then some (hi r6.2 m y.toNatClampNeg, r6.2) else none) = some (r, hsi h 1262 0 0) := by
            intro k m hx
            unfold b_t_size_113 f_t_tableSize
            rcases H.lkT y with ⟨a1, a2⟩ | ⟨t, ht, ey, W, C, M, a2⟩
            · exact ⟨-1, o_bind h4 (o_pos ⟨s1, k9⟩ (o_bind r1 (o_pos ⟨ut1, ut2⟩ (o_bind a1 (o_bind (o_elimn rfl) rfl))))), o_bind a2 (o_pos rfl rfl)⟩
            · subst ey
              have D := C.1.ddT (Nat.lt_of_lt_of_le ht W.1.2.1)
              have d1 : dT S t < hz h := by have := D.1; omega
              have w0 := W.1
              have cm : ∀ m, m ≠ 1262 → hi (hsi h 1262 0 0) m (nI t).toNatClampNeg = hi h m t := fun m hm => by rw [nI_clamp (by omega), hi_hsi_ne hm]
              obtain ⟨k1, k2⟩ := (C.2.2.2.1 t ht).1
              obtain ⟨j1, j2⟩ := (M.2.2.1 t ht).1
              refine ⟨hi h (dT S t) k, o_bind h4 (o_pos ⟨s1, k9⟩ (o_bind r1 (o_pos ⟨ut1, ut2⟩ (o_bind (C.atT W ht) (o_bind (v := (hi h (dT S t) k, h)) (o_elim ?_) rfl))))), o_bind a2 (o_neg one0 (o_pos (by (first | (simp (maxSteps := 4000000) (disch := omega) only [n_0, n_1, n_2, n_3, n_4, n_5, n_6, n_7, n_8, n_9, n_10, n_11, n_12, n_13, n_14, n_15, n_16, n_18, n_20, n_24, n_31, n_32, n_34, n_40, n_41, n_44, n_45, n_47, n_48, n_57, n_58, n_59, n_61, n_63, n_64, n_65, n_68, n_90, n_91, n_93, n_95, n_97, n_100, n_122, n_123, n_125, n_128, n_144, n_200, n_255, n_256, n_300, n_400, n_600, n_1536, n_3980, n_4000, n_4001, n_4300, n_65536, l_0, l_1, l_2, l_3, l_4, l_10, l_48, l_63, l_255, l_300, nI_ltI, nI_leI, nI_eq, nI_clamp, nI_add, pk_sub, pk_mul, nI_ne1, ne1_nI, nI_pge, nI_nlt0, nI_l, lN_i, lN_add, lN_mul, lN_sub, pk_lLT, pk_lLE, pk_lEQ, lg_lt, lg_ge, lg_eq0, lg_le, lg_gt, lg_ltn, lg_gen, lg_eq0n, lg_len, lg_gtn, Nat.zero_le, Nat.not_lt_zero, not_false_eq_true, not_true_eq_false, true_and, and_true]; done) | (simp (maxSteps := 4000000) (disch := omega) only [n_0, n_1, n_2, n_3, n_4, n_5, n_6, n_7, n_8, n_9, n_10, n_11, n_12, n_13, n_14, n_15, n_16, n_18, n_20, n_24, n_31, n_32, n_34, n_40, n_41, n_44, n_45, n_47, n_48, n_57, n_58, n_59, n_61, n_63, n_64, n_65, n_68, n_90, n_91, n_93, n_95, n_97, n_100, n_122, n_123, n_125, n_128, n_144, n_200, n_255, n_256, n_300, n_400, n_600, n_1536, n_3980, n_4000, n_4001, n_4300, n_65536, l_0, l_1, l_2, l_3, l_4, l_10, l_48, l_63, l_255, l_300, nI_ltI, nI_leI, nI_eq, nI_clamp, nI_add, pk_sub, pk_mul, nI_ne1, ne1_nI, nI_pge, nI_nlt0, nI_l, lN_i, lN_add, lN_mul, lN_sub, pk_lLT, pk_lLE, pk_lEQ, lg_lt, lg_ge, lg_eq0, lg_le, lg_gt, lg_ltn, lg_gen, lg_eq0n, lg_len, lg_gtn, Nat.zero_le, Nat.not_lt_zero, not_false_eq_true, not_true_eq_false, true_and, and_true]; omega) | omega)) ?_))⟩
              · rcases hx with ⟨q1, q2, q3⟩ | ⟨q1, q2, q3⟩ <;> subst q1 <;> subst q2
                · exact o_neg (by decide) (o_pos ⟨d1, D.2.2.2.2.1⟩ rfl)
                · exact o_pos (by decide) (o_pos ⟨d1, D.2.2.2.2.1⟩ rfl)
              · dsimp only
                rcases hx with ⟨q1, q2, q3⟩ | ⟨q1, q2, q3⟩ <;> subst q2 <;> subst q3
                · rw [cm _ (by decide), k1, j1]
                · rw [cm _ (by decide), k2, j2]
          by_cases x4 : x = 4
          · obtain ⟨r, z1, z2⟩ := st 3 1273 (Or.inl ⟨x4, rfl, rfl⟩)
            exact fin r (o_neg x0 (o_neg x1 (o_neg x2 (o_neg x3 (o_pos x4 z1))))) (o_neg x0 (o_neg x1 (o_neg x2 (o_neg x3 (o_pos x4 z2)))))
          · by_cases x5 : x = 5
            · obtain ⟨r, z1, z2⟩ := st 6 1274 (Or.inr (Or.inl ⟨x5, rfl, rfl⟩))
              exact fin r (o_neg x0 (o_neg x1 (o_neg x2 (o_neg x3 (o_neg x4 (o_pos x5 z1)))))) (o_neg x0 (o_neg x1 (o_neg x2 (o_neg x3 (o_neg x4 (o_pos x5 z2))))))
            · by_cases x6 : x = 6
              · obtain ⟨r, z1, z2⟩ := st 7 1275 (Or.inr (Or.inr ⟨x6, rfl, rfl⟩))
                exact fin r (o_neg x0 (o_neg x1 (o_neg x2 (o_neg x3 (o_neg x4 (o_neg x5 (o_pos x6 z1))))))) (o_neg x0 (o_neg x1 (o_neg x2 (o_neg x3 (o_neg x4 (o_neg x5 (o_pos x6 z2)))))))
              · by_cases x7 : x = 7
                · obtain ⟨r, z1, z2⟩ := tb 3 1283 (Or.inl ⟨x7, rfl, rfl⟩)
                  exact fin r (o_neg x0 (o_neg x1 (o_neg x2 (o_neg x3 (o_neg x4 (o_neg x5 (o_neg x6 (o_pos x7 z1)))))))) (o_neg x0 (o_neg x1 (o_neg x2 (o_neg x3 (o_neg x4 (o_neg x5 (o_neg x6 (o_pos x7 z2))))))))
                · by_cases x8 : x = 8
                  · obtain ⟨r, z1, z2⟩ := tb 8 1284 (Or.inr ⟨x8, rfl, rfl⟩)
                    exact fin r (o_neg x0 (o_neg x1 (o_neg x2 (o_neg x3 (o_neg x4 (o_neg x5 (o_neg x6 (o_neg x7 (o_pos x8 z1))))))))) (o_neg x0 (o_neg x1 (o_neg x2 (o_neg x3 (o_neg x4 (o_neg x5 (o_neg x6 (o_neg x7 (o_pos x8 z2)))))))))
                  · by_cases x9 : x = 9
                    · have go : ∀ r : Int32, (Option.bind (f_g_at (S + 517) y h) fun r53 => Option.bind (f_t_memberCount r53.1 r53.2) fun r56 => some (r56.1, r56.2)) = some (r, h) → _ → _ := fun r w1 w2 => fin r (o_neg x0 (o_neg x1 (o_neg x2 (o_neg x3 (o_neg x4 (o_neg x5 (o_neg x6 (o_neg x7 (o_neg x8 (o_pos x9 (o_bind h4 (o_pos ⟨s1, k9⟩ (o_bind r2 (o_pos ⟨uu1, uu2⟩ w1)))))))))))))) (o_neg x0 (o_neg x1 (o_neg x2 (o_neg x3 (o_neg x4 (o_neg x5 (o_neg x6 (o_neg x7 (o_neg x8 (o_pos x9 w2))))))))))
                      unfold f_t_memberCount at go
                      rcases H.2.2.2.2.2.2.1 with ⟨q1, q2, q3, q4, q5⟩ | ⟨q1, q2, q3, q4, q5, q6⟩
                      · have eN : f_g_at (S + 517) y h = some (none, h) := by
                          refine e_g_atN (n := 0) sc.gU (by rw [q4]; rfl) ?_
                          rw [nI_0]
                          by_cases c : y < 0
                          · exact Or.inl c
                          · exact Or.inr (Int32.not_lt.mp c)
                        exact go (-1) (o_bind eN (o_bind (o_elimn rfl) rfl)) (o_pos q1 rfl)
                      · have h7 : ¬ hi h 1262 7 = 0 := by rw [q1]; exact one0
                        have w0 := q4.1
                        rcases x32 y (sg 0 2) (by omega) with c | c | ⟨j, hj', ej⟩
                        · exact go (-1) (o_bind (e_g_atN sc.gU q2.2.1.2.2.1 (Or.inl c)) (o_bind (o_elimn rfl) rfl)) (o_neg h7 (o_pos c rfl))
                        · refine go (-1) (o_bind (e_g_atN sc.gU q2.2.1.2.2.1 (Or.inr c)) (o_bind (o_elimn rfl) rfl)) (o_neg h7 ?_)
                          by_cases cy : y < 0
                          · exact o_pos cy rfl
                          · exact o_neg cy (o_pos (by rw [q3.1.2.2.1]; exact c) rfl)
                        · subst ej
                          have D := q2.1.ddU (Nat.lt_of_lt_of_le hj' w0.2.2.1)
                          have d1 : dU S j < hz h := by have := D.1; omega
                          refine go (nI (sg 17 j)) (o_bind (q2.atU q4 hj') (o_bind (v := (nI (sg 17 j), h)) (o_elim (o_pos ⟨d1, D.2.2.2.2.1⟩ ?_)) rfl)) (o_neg h7 (o_neg (by (first | (simp (maxSteps := 4000000) (disch := omega) only [n_0, n_1, n_2, n_3, n_4, n_5, n_6, n_7, n_8, n_9, n_10, n_11, n_12, n_13, n_14, n_15, n_16, n_18, n_20, n_24, n_31, n_32, n_34, n_40, n_41, n_44, n_45, n_47, n_48, n_57, n_58, n_59, n_61, n_63, n_64, n_65, n_68, n_90, n_91, n_93, n_95, n_97, n_100, n_122, n_123, n_125, n_128, n_144, n_200, n_255, n_256, n_300, n_400, n_600, n_1536, n_3980, n_4000, n_4001, n_4300, n_65536, l_0, l_1, l_2, l_3, l_4, l_10, l_48, l_63, l_255, l_300, nI_ltI, nI_leI, nI_eq, nI_clamp, nI_add, pk_sub, pk_mul, nI_ne1, ne1_nI, nI_pge, nI_nlt0, nI_l, lN_i, lN_add, lN_mul, lN_sub, pk_lLT, pk_lLE, pk_lEQ, lg_lt, lg_ge, lg_eq0, lg_le, lg_gt, lg_ltn, lg_gen, lg_eq0n, lg_len, lg_gtn, Nat.zero_le, Nat.not_lt_zero, not_false_eq_true, not_true_eq_false, true_and, and_true]; done) | (simp (maxSteps := 4000000) (disch := omega) only [n_0, n_1, n_2, n_3, n_4, n_5, n_6, n_7, n_8, n_9, n_10, n_11, n_12, n_13, n_14, n_15, n_16, n_18, n_20, n_24, n_31, n_32, n_34, n_40, n_41, n_44, n_45, n_47, n_48, n_57, n_58, n_59, n_61, n_63, n_64, n_65, n_68, n_90, n_91, n_93, n_95, n_97, n_100, n_122, n_123, n_125, n_128, n_144, n_200, n_255, n_256, n_300, n_400, n_600, n_1536, n_3980, n_4000, n_4001, n_4300, n_65536, l_0, l_1, l_2, l_3, l_4, l_10, l_48, l_63, l_255, l_300, nI_ltI, nI_leI, nI_eq, nI_clamp, nI_add, pk_sub, pk_mul, nI_ne1, ne1_nI, nI_pge, nI_nlt0, nI_l, lN_i, lN_add, lN_mul, lN_sub, pk_lLT, pk_lLE, pk_lEQ, lg_lt, lg_ge, lg_eq0, lg_le, lg_gt, lg_ltn, lg_gen, lg_eq0n, lg_len, lg_gtn, Nat.zero_le, Nat.not_lt_zero, not_false_eq_true, not_true_eq_false, true_and, and_true]; omega) | omega)) (o_neg ?_ (o_pos (by (first | (simp (maxSteps := 4000000) (disch := omega) only [n_0, n_1, n_2, n_3, n_4, n_5, n_6, n_7, n_8, n_9, n_10, n_11, n_12, n_13, n_14, n_15, n_16, n_18, n_20, n_24, n_31, n_32, n_34, n_40, n_41, n_44, n_45, n_47, n_48, n_57, n_58, n_59, n_61, n_63, n_64, n_65, n_68, n_90, n_91, n_93, n_95, n_97, n_100, n_122, n_123, n_125, n_128, n_144, n_200, n_255, n_256, n_300, n_400, n_600, n_1536, n_3980, n_4000, n_4001, n_4300, n_65536, l_0, l_1, l_2, l_3, l_4, l_10, l_48, l_63, l_255, l_300, nI_ltI, nI_leI, nI_eq, nI_clamp, nI_add, pk_sub, pk_mul, nI_ne1, ne1_nI, nI_pge, nI_nlt0, nI_l, lN_i, lN_add, lN_mul, lN_sub, pk_lLT, pk_lLE, pk_lEQ, lg_lt, lg_ge, lg_eq0, lg_le, lg_gt, lg_ltn, lg_gen, lg_eq0n, lg_len, lg_gtn, Nat.zero_le, Nat.not_lt_zero, not_false_eq_true, not_true_eq_false, true_and, and_true]; done) | (simp (maxSteps := 4000000) (disch := omega) only [n_0, n_1, n_2, n_3, n_4, n_5, n_6, n_7, n_8, n_9, n_10, n_11, n_12, n_13, n_14, n_15, n_16, n_18, n_20, n_24, n_31, n_32, n_34, n_40, n_41, n_44, n_45, n_47, n_48, n_57, n_58, n_59, n_61, n_63, n_64, n_65, n_68, n_90, n_91, n_93, n_95, n_97, n_100, n_122, n_123, n_125, n_128, n_144, n_200, n_255, n_256, n_300, n_400, n_600, n_1536, n_3980, n_4000, n_4001, n_4300, n_65536, l_0, l_1, l_2, l_3, l_4, l_10, l_48, l_63, l_255, l_300, nI_ltI, nI_leI, nI_eq, nI_clamp, nI_add, pk_sub, pk_mul, nI_ne1, ne1_nI, nI_pge, nI_nlt0, nI_l, lN_i, lN_add, lN_mul, lN_sub, pk_lLT, pk_lLE, pk_lEQ, lg_lt, lg_ge, lg_eq0, lg_le, lg_gt, lg_ltn, lg_gen, lg_eq0n, lg_len, lg_gtn, Nat.zero_le, Nat.not_lt_zero, not_false_eq_true, not_true_eq_false, true_and, and_true]; omega) | omega)) ?_))))
                          · rw [(q2.2.2.2.2 j hj').1]
                          · rw [q3.1.2.2.1]; (first | (simp (maxSteps := 4000000) (disch := omega) only [n_0, n_1, n_2, n_3, n_4, n_5, n_6, n_7, n_8, n_9, n_10, n_11, n_12, n_13, n_14, n_15, n_16, n_18, n_20, n_24, n_31, n_32, n_34, n_40, n_41, n_44, n_45, n_47, n_48, n_57, n_58, n_59, n_61, n_63, n_64, n_65, n_68, n_90, n_91, n_93, n_95, n_97, n_100, n_122, n_123, n_125, n_128, n_144, n_200, n_255, n_256, n_300, n_400, n_600, n_1536, n_3980, n_4000, n_4001, n_4300, n_65536, l_0, l_1, l_2, l_3, l_4, l_10, l_48, l_63, l_255, l_300, nI_ltI, nI_leI, nI_eq, nI_clamp, nI_add, pk_sub, pk_mul, nI_ne1, ne1_nI, nI_pge, nI_nlt0, nI_l, lN_i, lN_add, lN_mul, lN_sub, pk_lLT, pk_lLE, pk_lEQ, lg_lt, lg_ge, lg_eq0, lg_le, lg_gt, lg_ltn, lg_gen, lg_eq0n, lg_len, lg_gtn, Nat.zero_le, Nat.not_lt_zero, not_false_eq_true, not_true_eq_false, true_and, and_true]; done) | (simp (maxSteps := 4000000) (disch := omega) only [n_0, n_1, n_2, n_3, n_4, n_5, n_6, n_7, n_8, n_9, n_10, n_11, n_12, n_13, n_14, n_15, n_16, n_18, n_20, n_24, n_31, n_32, n_34, n_40, n_41, n_44, n_45, n_47, n_48, n_57, n_58, n_59, n_61, n_63, n_64, n_65, n_68, n_90, n_91, n_93, n_95, n_97, n_100, n_122, n_123, n_125, n_128, n_144, n_200, n_255, n_256, n_300, n_400, n_600, n_1536, n_3980, n_4000, n_4001, n_4300, n_65536, l_0, l_1, l_2, l_3, l_4, l_10, l_48, l_63, l_255, l_300, nI_ltI, nI_leI, nI_eq, nI_clamp, nI_add, pk_sub, pk_mul, nI_ne1, ne1_nI, nI_pge, nI_nlt0, nI_l, lN_i, lN_add, lN_mul, lN_sub, pk_lLT, pk_lLE, pk_lEQ, lg_lt, lg_ge, lg_eq0, lg_le, lg_gt, lg_ltn, lg_gen, lg_eq0n, lg_len, lg_gtn, Nat.zero_le, Nat.not_lt_zero, not_false_eq_true, not_true_eq_false, true_and, and_true]; omega) | omega)
                          · rw [nI_clamp (by omega), (q3.2.2.2 j hj').1]
                    · exact fin (-1) (o_neg x0 (o_neg x1 (o_neg x2 (o_neg x3 (o_neg x4 (o_neg x5 (o_neg x6 (o_neg x7 (o_neg x8 (o_neg x9 rfl)))))))))) (o_neg x0 (o_neg x1 (o_neg x2 (o_neg x3 (o_neg x4 (o_neg x5 (o_neg x6 (o_neg x7 (o_neg x8 (o_neg x9 rfl))))))))))
end Ops
