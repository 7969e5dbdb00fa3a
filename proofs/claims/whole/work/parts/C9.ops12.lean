/-! Calls: write, its cases -/

section Wr
variable {h g : XH} {S n a : Nat} {sg : SGT} {sd : Nat → Int64}
theorem e_t_write_no {x : Int32} {v : Int64} (hr0 : hr h 0 4 = some S) (z1 : f_r_locate S x h = some (0, g)) : f_t_write x v h = some (0, g) := by
  unfold f_t_write
  exact o_bind hr0 (o_bind z1 (o_pos rfl rfl))
theorem e_t_write_sort {x : Int32} {v : Int64} {s : Nat} (hr0 : hr h 0 4 = some S) (z1 : f_r_locate S x h = some (1, g)) (e6 : hi g 1255 6 = nI s) (s5 : s = 1 ∨ s = 2 ∨ s = 3 ∨ s = 4 ∨ s = 5 ∨ s = 6) : f_t_write x v h = some (0, g) := by
  unfold f_t_write
  exact o_bind hr0 (o_bind z1 (o_neg one0 (o_pos (by rw [e6]; rcases s5 with q | q | q | q | q | q <;> subst q <;> decide) rfl)))
theorem e_t_write_at {x : Int32} {v : Int64} (hr0 : hr h 0 4 = some S) (z1 : f_r_locate S x h = some (1, g)) (e6 : hi g 1255 6 = nI 0) (e8 : hi g 1255 8 = -1) : f_t_write x v h = some (0, g) := by
  unfold f_t_write
  exact o_bind hr0 (o_bind z1 (o_neg one0 (o_neg (not_not_intro e6) (o_pos e8 rfl))))
theorem e_m_write_no {x : Int32} {v : Int64} (z1 : f_m_isPart x (hsi h 1262 0 0) = some (0, hsi h 1262 0 0)) : f_m_write x v h = some (0, hsi h 1262 0 0) := by
  unfold f_m_write
  exact o_bind z1 (o_pos rfl rfl)
theorem e_m_write_sort {x : Int32} {v : Int64} {y : Nat → Nat} {s0 o0 e0 p0 s : Nat} (R : MR (hsi h 1262 0 0) n a y sg sd s0 o0 e0 p0) (s1 : s0 ≠ 1) (s2 : s0 < 10) (z1 : f_m_isPart x (hsi h 1262 0 0) = some (1, hsi h 1262 0 0)) (z2 : f_m_partSort x (hsi h 1262 0 0) = some (nI s, hsi h 1262 0 0)) (s5 : s = 1 ∨ s = 2 ∨ s = 3 ∨ s = 4 ∨ s = 5 ∨ s = 6) : f_m_write x v h = some (0, hsi h 1262 0 0) := by
  unfold f_m_write
  exact o_bind z1 (o_neg one0 (o_bind (e_m_sort R) (o_neg (show ¬ nI s0 = 1 by rw [show (1 : Int32) = nI 1 from rfl]; (first | (simp (maxSteps := 4000000) (disch := omega) only [n_0, n_1, n_2, n_3, n_4, n_5, n_6, n_7, n_8, n_9, n_10, n_11, n_12, n_13, n_14, n_15, n_16, n_18, n_20, n_24, n_31, n_32, n_34, n_40, n_41, n_44, n_45, n_47, n_48, n_57, n_58, n_59, n_61, n_63, n_64, n_65, n_68, n_90, n_91, n_93, n_95, n_97, n_100, n_122, n_123, n_125, n_128, n_144, n_200, n_255, n_256, n_300, n_400, n_600, n_1536, n_3980, n_4000, n_4001, n_4300, n_65536, l_0, l_1, l_2, l_3, l_4, l_10, l_48, l_63, l_255, l_300, nI_ltI, nI_leI, nI_eq, nI_clamp, nI_add, pk_sub, pk_mul, nI_ne1, ne1_nI, nI_pge, nI_nlt0, nI_l, lN_i, lN_add, lN_mul, lN_sub, pk_lLT, pk_lLE, pk_lEQ, lg_lt, lg_ge, lg_eq0, lg_le, lg_gt, lg_ltn, lg_gen, lg_eq0n, lg_len, lg_gtn, Nat.zero_le, Nat.not_lt_zero, not_false_eq_true, not_true_eq_false, true_and, and_true]; done) | (simp (maxSteps := 4000000) (disch := omega) only [n_0, n_1, n_2, n_3, n_4, n_5, n_6, n_7, n_8, n_9, n_10, n_11, n_12, n_13, n_14, n_15, n_16, n_18, n_20, n_24, n_31, n_32, n_34, n_40, n_41, n_44, n_45, n_47, n_48, n_57, n_58, n_59, n_61, n_63, n_64, n_65, n_68, n_90, n_91, n_93, n_95, n_97, n_100, n_122, n_123, n_125, n_128, n_144, n_200, n_255, n_256, n_300, n_400, n_600, n_1536, n_3980, n_4000, n_4001, n_4300, n_65536, l_0, l_1, l_2, l_3, l_4, l_10, l_48, l_63, l_255, l_300, nI_ltI, nI_leI, nI_eq, nI_clamp, nI_add, pk_sub, pk_mul, nI_ne1, ne1_nI, nI_pge, nI_nlt0, nI_l, lN_i, lN_add, lN_mul, lN_sub, pk_lLT, pk_lLE, pk_lEQ, lg_lt, lg_ge, lg_eq0, lg_le, lg_gt, lg_ltn, lg_gen, lg_eq0n, lg_len, lg_gtn, Nat.zero_le, Nat.not_lt_zero, not_false_eq_true, not_true_eq_false, true_and, and_true]; omega) | omega)) (o_bind z2 (o_neg (show ¬ nI s = 0 by rcases s5 with q | q | q | q | q | q <;> subst q <;> decide) rfl)))))
theorem e_m_write_at {x : Int32} {v : Int64} {y : Nat → Nat} {s0 o0 e0 p0 oo : Nat} (R : MR (hsi h 1262 0 0) n a y sg sd s0 o0 e0 p0) (s1 : s0 ≠ 1) (s2 : s0 < 10) (z1 : f_m_isPart x (hsi h 1262 0 0) = some (1, hsi h 1262 0 0)) (z2 : f_m_partSort x (hsi h 1262 0 0) = some (0, hsi h 1262 0 0)) (z4 : f_m_partOf x (hsi h 1262 0 0) = some (nI oo, hsi h 1262 0 0)) (z3 : f_m_partAt x (hsi h 1262 0 0) = some (-1, hsi h 1262 0 0)) : f_m_write x v h = some (0, hsi h 1262 0 0) := by
  unfold f_m_write
  exact o_bind z1 (o_neg one0 (o_bind (e_m_sort R) (o_neg (show ¬ nI s0 = 1 by rw [show (1 : Int32) = nI 1 from rfl]; (first | (simp (maxSteps := 4000000) (disch := omega) only [n_0, n_1, n_2, n_3, n_4, n_5, n_6, n_7, n_8, n_9, n_10, n_11, n_12, n_13, n_14, n_15, n_16, n_18, n_20, n_24, n_31, n_32, n_34, n_40, n_41, n_44, n_45, n_47, n_48, n_57, n_58, n_59, n_61, n_63, n_64, n_65, n_68, n_90, n_91, n_93, n_95, n_97, n_100, n_122, n_123, n_125, n_128, n_144, n_200, n_255, n_256, n_300, n_400, n_600, n_1536, n_3980, n_4000, n_4001, n_4300, n_65536, l_0, l_1, l_2, l_3, l_4, l_10, l_48, l_63, l_255, l_300, nI_ltI, nI_leI, nI_eq, nI_clamp, nI_add, pk_sub, pk_mul, nI_ne1, ne1_nI, nI_pge, nI_nlt0, nI_l, lN_i, lN_add, lN_mul, lN_sub, pk_lLT, pk_lLE, pk_lEQ, lg_lt, lg_ge, lg_eq0, lg_le, lg_gt, lg_ltn, lg_gen, lg_eq0n, lg_len, lg_gtn, Nat.zero_le, Nat.not_lt_zero, not_false_eq_true, not_true_eq_false, true_and, and_true]; done) | (simp (maxSteps := 4000000) (disch := omega) only [n_0, n_1, n_2, n_3, n_4, n_5, n_6, n_7, n_8, n_9, n_10, n_11, n_12, n_13, n_14, n_15, n_16, n_18, n_20, n_24, n_31, n_32, n_34, n_40, n_41, n_44, n_45, n_47, n_48, n_57, n_58, n_59, n_61, n_63, n_64, n_65, n_68, n_90, n_91, n_93, n_95, n_97, n_100, n_122, n_123, n_125, n_128, n_144, n_200, n_255, n_256, n_300, n_400, n_600, n_1536, n_3980, n_4000, n_4001, n_4300, n_65536, l_0, l_1, l_2, l_3, l_4, l_10, l_48, l_63, l_255, l_300, nI_ltI, nI_leI, nI_eq, nI_clamp, nI_add, pk_sub, pk_mul, nI_ne1, ne1_nI, nI_pge, nI_nlt0, nI_l, lN_i, lN_add, lN_mul, lN_sub, pk_lLT, pk_lLE, pk_lEQ, lg_lt, lg_ge, lg_eq0, lg_le, lg_gt, lg_ltn, lg_gen, lg_eq0n, lg_len, lg_gtn, Nat.zero_le, Nat.not_lt_zero, not_false_eq_true, not_true_eq_false, true_and, and_true]; omega) | omega)) (o_bind z2 (o_pos rfl (o_bind z4 (o_bind z3 (o_pos rfl rfl))))))))
theorem e_m_write_X {x : Int32} {v : Int64} {y : Nat → Nat} {o0 e0 p0 : Nat} (R : MR (hsi h 1262 0 0) n a y sg sd 1 o0 e0 p0) (z1 : f_m_isPart x (hsi h 1262 0 0) = some (1, hsi h 1262 0 0)) : f_m_write x v h = some (0, hsi h 1262 0 0) := by
  unfold f_m_write
  exact o_bind z1 (o_neg one0 (o_bind (e_m_sort R) (o_pos rfl rfl)))
theorem op_write {x : Int32} {w : Int64} (H : RX h) (hm : hz h < 900000) : ∃ r h1 h2, f_t_write x w h = some (r, h1) ∧ f_m_write x w h1 = some (r, h2) ∧ RX h2 ∧ RM h h2 := by
  obtain ⟨S, sg, sd, H⟩ := H
  have l := H.1.1
  have h4 := H.2.1.1
  rcases H.rd with ⟨q1, q2, q3⟩ | ⟨n, a, so, o, e, p, W, q1, q2, R, M, v⟩
  · exact write_no H (LC.refl h) rfl (e_t_write_no h4 (e_r_locate0 q2)) (e_m_write_no (e_m_isPart0 (by rw [hi_nk (by decide)]; exact q1)))
  · have pl := v.pcl W q1.2.2.2.1
    have n4 := q1.2.2.2.1
    have ea := R.1.1
    have ml : ∀ {g : XH}, LC h g → MR (hsi g 1262 0 0) n a (cb h 1257) sg sd (so a) (o a) (e a) (p a) := fun C => (M.lc C).th
    rcases x32 x (pc sg (cb h 1257) (so a) (o a) (p a)) (by omega) with c | c | ⟨k, hk', ek⟩
    · exact write_no H (LC.refl h) rfl (e_t_write_no h4 (e_r_locate_no R W v (Or.inl c))) (e_m_write_no (e_m_isPart_no (ml (LC.refl h)) W v (Or.inl c)))
    · exact write_no H (LC.refl h) rfl (e_t_write_no h4 (e_r_locate_no R W v (Or.inr c))) (e_m_write_no (e_m_isPart_no (ml (LC.refl h)) W v (Or.inr c)))
    · subst ek
      have v2 := v
      generalize es : so a = sa at *
      generalize eo : o a = oa at *
      generalize ee : e a = ef at *
      generalize ep : p a = pa at *
      rcases v2 with ⟨s3, e0, d, d2, T⟩ | ⟨s3, e1, d, d2, T⟩ | ⟨s3, e0, o0, d2, T⟩ | ⟨s3, e0, ho, d2, T⟩
      · subst s3
        subst e0
        have hk2 : k < sg 10 oa := hk'
        have ho := T.2.2.2.1
        have jj := jl_ok T.2.2.1
        by_cases h4' : sg 12 (16 * oa + k) = 4
        · have C : LC h (fndU h sg sd (cb h 1257) pa (16 * oa + k)) := (((fnd_lc.sj).si).si).si
          have fu := fndU_hi (h := h) (sg := sg) (sd := sd) (y := cb h 1257) (p := pa) (i := 16 * oa + k)
          exact write_no H C fu.1 (e_t_write_sort h4 (e_r_locate_U R W T d2 hk2 h4') fu.2.1 (by omega)) (e_m_write_sort (ml C) (by decide) (by decide) (e_m_isPart (ml C) W v hk') (e_m_partSort_T (ml C) W ho hk2) (by omega))
        · have C : LC h (hsj (fnd h (nI (sg 12 (16 * oa + k))) (nI (sg 13 (16 * oa + k))) (nI (sg 14 (16 * oa + k)) - 1) (sA (cb h 1257) pa (sg 15 (16 * oa + k)))) 1255 10 (sd (16 * oa + k))) := fnd_lc.sj
          have fu := fndT_hi (h := h) (a0 := nI (sg 12 (16 * oa + k))) (a1 := nI (sg 13 (16 * oa + k))) (a2 := nI (sg 14 (16 * oa + k)) - 1) (a3 := sA (cb h 1257) pa (sg 15 (16 * oa + k))) (w := sd (16 * oa + k))
          have sn := sA_n (s := sg 15 (16 * oa + k)) (show pa ≤ 4000 by have := T.2.1; omega) (cb_lt h 1257)
          have lo := e_r_locate_T R W T d2 hk2 h4'
          by_cases c0 : sg 12 (16 * oa + k) = 0
          · have o11 : sg 13 (16 * oa + k) < 11 := by
              rcases W.fk ho hk2 with z | ⟨-, -, z⟩ | z
              · omega
              · rcases z with ⟨z, zo⟩ | ⟨z, zo⟩ | ⟨z, zo⟩ | ⟨z, zo⟩ <;> omega
              · omega
            have zs : ∀ {g : XH}, LC h g → f_m_partSort (nI k) (hsi g 1262 0 0) = some (0, hsi g 1262 0 0) := fun C => by
              have z2 := e_m_partSort_T (ml C) W ho hk2
              rw [c0] at z2
              exact z2
            by_cases c : fr (cb h 1257) (la (cb h 1257) pa) (sg 15 (16 * oa + k)) = 0
            · have e9 : sA (cb h 1257) pa (sg 15 (16 * oa + k)) = -1 := sn.mpr c
              have z3 := (e_m_partAt_T (ml C) W T hk2).trans (congrArg (fun q : Int32 => some (q, _)) e9)
              exact write_no H C fu.1 (e_t_write_at h4 lo (by rw [fu.2.1, c0]) (by rw [fu.2.2.2.1, e9])) (e_m_write_at (ml C) (by decide) (by decide) (e_m_isPart (ml C) W v hk') (zs C) (e_m_partOf_T (ml C) W ho hk2) z3)
            · have e9 : sA (cb h 1257) pa (sg 15 (16 * oa + k)) = nI (pa + fr (cb h 1257) (la (cb h 1257) pa) (sg 15 (16 * oa + k))) := if_neg c
              obtain ⟨f1, -, -⟩ := (T.2.2.2.2 k hk2).fld h4' c
              have jk := jw_ok f1
              have fn := fr_ne c
              have zz : zO sg (sg 12 (16 * oa + k)) (sg 13 (16 * oa + k)) = bO (sg 13 (16 * oa + k)) := by rw [c0]; rfl
              have bb := bO_le (sg 13 (16 * oa + k))
              have hq : pa + fr (cb h 1257) (la (cb h 1257) pa) (sg 15 (16 * oa + k)) + bO (sg 13 (16 * oa + k)) ≤ n := by omega
              refine write_go H hm C fu.1 lo (by rw [fu.2.1, c0]) fu.2.2.1 (by rw [fu.2.2.2.1, e9]) o11 hq W q1 ea q2 M (by decide) (by decide) (fun m M2 => ?_)
              have z2 := e_m_partSort_T M2 W ho hk2
              have z3 := e_m_partAt_T M2 W T hk2
              rw [c0] at z2
              rw [e9] at z3
              exact ⟨e_m_isPart M2 W v hk', z2, z3, e_m_partOf_T M2 W ho hk2⟩
          · have s5 : sg 12 (16 * oa + k) = 1 ∨ sg 12 (16 * oa + k) = 2 ∨ sg 12 (16 * oa + k) = 3 ∨ sg 12 (16 * oa + k) = 4 ∨ sg 12 (16 * oa + k) = 5 ∨ sg 12 (16 * oa + k) = 6 := by rcases W.fk ho hk2 with k | ⟨-, -, ⟨e, -⟩ | ⟨e, -⟩ | ⟨e, -⟩ | ⟨e, -⟩⟩ | k <;> omega
            exact write_no H C fu.1 (e_t_write_sort h4 lo fu.2.1 s5) (e_m_write_sort (ml C) (by decide) (by decide) (e_m_isPart (ml C) W v hk') (e_m_partSort_T (ml C) W ho hk2) s5)
      · subst s3
        have hk2 : k < nb (cb h 1257) 4 pa := hk'
        have C : LC h (fnd h (nI (ef - 1)) (nI oa) (-1) (nI (pa + 4 + k * zO sg (ef - 1) oa))) := fnd_lc
        have fu := fnd_hi (h := h) (a0 := nI (ef - 1)) (a1 := nI oa) (a2 := -1) (a3 := nI (pa + 4 + k * zO sg (ef - 1) oa))
        have lo := e_r_locate_V R W e1 T d2 hk2
        have kz : (k + 1) * zO sg (ef - 1) oa ≤ nb (cb h 1257) 4 pa * zO sg (ef - 1) oa := Nat.mul_le_mul_right _ (by omega)
        rw [Nat.add_mul] at kz
        have t3 := T.2.2.1
        by_cases c0 : ef - 1 = 0
        · have o11 : oa < 11 := by rcases T.2.2.2.1 with ⟨z, zo⟩ | ⟨z, zo⟩ | ⟨z, zo⟩ | ⟨z, zo⟩ <;> omega
          have zz : zO sg (ef - 1) oa = bO oa := by rw [c0]; rfl
          have bb := bO_le oa
          refine write_go H hm C fu.1 lo (by rw [fu.2.1, c0]) fu.2.2.1 fu.2.2.2.1 o11 (by omega) W q1 ea q2 M (by decide) (by decide) (fun m M2 => ?_)
          have z2 := e_m_partSort_V M2 e1 (k := k)
          rw [c0] at z2
          exact ⟨e_m_isPart M2 W v hk', z2, e_m_partAt_V M2 W e1 T.2.2.2.1, e_m_partOf_V M2⟩
        · have s5 : ef - 1 = 1 ∨ ef - 1 = 2 ∨ ef - 1 = 3 ∨ ef - 1 = 4 ∨ ef - 1 = 5 ∨ ef - 1 = 6 := by rcases T.2.2.2.1 with ⟨z, zo⟩ | ⟨z, zo⟩ | ⟨z, zo⟩ | ⟨z, zo⟩ <;> omega
          exact write_no H C fu.1 (e_t_write_sort h4 lo fu.2.1 s5) (e_m_write_sort (ml C) (by decide) (by decide) (e_m_isPart (ml C) W v hk') (e_m_partSort_V (ml C) e1) s5)
      · subst s3
        subst e0
        subst o0
        have hk2 : k < nb (cb h 1257) 4 pa := hk'
        have C : LC h (fnd h 6 0 (-1) (nI (pa + 4 + k))) := fnd_lc
        have fu := fnd_hi (h := h) (a0 := 6) (a1 := 0) (a2 := -1) (a3 := nI (pa + 4 + k))
        exact write_no H C fu.1 (e_t_write_sort (s := 6) h4 (e_r_locate_X R W v hk2) fu.2.1 (by omega)) (e_m_write_X (ml C) (e_m_isPart (ml C) W v hk'))
      · subst s3
        subst e0
        have hk2 : k < sg 1 oa := hk'
        have C : LC h (hsj (fnd h (nI (sg 4 (12 * oa + k))) (nI (sg 5 (12 * oa + k))) (-1) (nI (pa + sg 6 (12 * oa + k)))) 1255 10 (hj h (dS S oa + 2 + k) 8)) := fnd_lc.sj
        have fu := fndT_hi (h := h) (a0 := nI (sg 4 (12 * oa + k))) (a1 := nI (sg 5 (12 * oa + k))) (a2 := -1) (a3 := nI (pa + sg 6 (12 * oa + k))) (w := hj h (dS S oa + 2 + k) 8)
        have lo := e_r_locate_S R W ho v hk2
        have w1 := (W.2.1 oa ho).1
        rcases (W.2.1 oa ho).2.1 k hk2 with ⟨z, zo, zp⟩ | ⟨z, zo, zp⟩
        · refine write_go H hm C fu.1 lo (by rw [fu.2.1, z]) fu.2.2.1 fu.2.2.2.1 zo (by omega) W q1 R.1.1 q2 M (by decide) (by decide) (fun m M2 => ?_)
          have z2 := e_m_partSort_S M2 W ho hk2
          rw [z] at z2
          exact ⟨e_m_isPart M2 W v hk', z2, e_m_partAt_S M2 W ho hk2, e_m_partOf_S M2 W ho hk2⟩
        · exact write_no H C fu.1 (e_t_write_sort h4 lo fu.2.1 (by omega)) (e_m_write_sort (ml C) (by decide) (by decide) (e_m_isPart (ml C) W v hk') (e_m_partSort_S (ml C) W ho hk2) (by omega))
end Wr
