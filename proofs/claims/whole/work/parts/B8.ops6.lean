/-! Calls: read -/

/-- what is said of a call that may throw: k is the model's word for it -/
def TH {α β : Type} (h : XH) (c : XH → Option (Sum α Nat × XH)) (m : XH → Option (β × XH)) (eq : α → β → Prop) (ks : List (Nat × Nat)) : Prop := (∃ v h1, c h = some (Sum.inl v, h1) ∧ ∀ g1, OW h1 g1 → ∃ w h2, m g1 = some (w, h2) ∧ eq v w ∧ hi h2 1262 0 = 0 ∧ RX h2 ∧ RM h h2) ∨ ∃ j k h1, (j, k) ∈ ks ∧ c h = some (Sum.inr j, h1) ∧ ∀ g1, OW h1 g1 → ∃ w h2, m g1 = some (w, h2) ∧ hi h2 1262 0 = nI k ∧ RX h2 ∧ RM h h2
section Ops
variable {h g : XH} {S n a : Nat} {y : Nat → Nat} {sg : SGT} {sd : Nat → Int64}
theorem MR.thr {so o e p : Nat} (M : MR h n a y sg sd so o e p) (l : 1317 ≤ hz h) : MR (hthr h) n a y sg sd so o e p :=
  M.gen (fun a h1 h2 => hthr_hi (by omega)) (fun k hk' => by rw [hthr_hi (by omega)]) (hthr_hj (by omega))
theorem RM.ow {g g1 : XH} {v : Int32} (C : RM h g) (W : OW g g1) : RM h (hsi g1 1262 0 v) := by
  rcases W with q | ⟨w, q⟩ <;> subst q <;> exact C
theorem read_thr {x : Int32} (H : RA h S sg sd) (hm : hz h < 900000) (C : LC h g) (e5 : hi g 1255 5 = hi h 1255 5) (z1 : f_t_read x h = some (Sum.inr 3, hthr g)) (z2 : ∀ g1, OW (hthr g) g1 → f_m_read x g1 = some (0, hsi (hsi g1 1262 0 0) 1262 0 1)) : TH h (f_t_read x) (f_m_read x) (fun v w => v = w) [(3, 1)] := by
  have Hg := H.lc C e5
  have hm2 : hz g < 1000000 := by rw [C.z.1]; omega
  have Ht := Hg.thr hm2
  refine Or.inr ⟨3, 1, hthr g, List.mem_singleton.mpr rfl, z1, fun g1 W => ⟨_, _, z2 g1 W, hi_at, ⟨S, sg, sd, (Ht.ow W).th.th⟩, ?_⟩⟩
  have r : RM h (hthr g) := ⟨by rw [hthr_z, C.z.1]; omega, by rw [hthr_w, C.z.2.1]; omega⟩
  rcases W with q | ⟨w, q⟩ <;> subst q <;> exact r
theorem read_val {x : Int32} {v : Int64} (H : RA h S sg sd) (C : LC h g) (e5 : hi g 1255 5 = hi h 1255 5) (z1 : f_t_read x h = some (Sum.inl v, g)) (z2 : ∀ g1, OW g g1 → f_m_read x g1 = some (v, hsi g1 1262 0 0)) : TH h (f_t_read x) (f_m_read x) (fun v w => v = w) [(3, 1)] := by
  have Hg := H.lc C e5
  refine Or.inl ⟨v, g, z1, fun g1 W => ⟨_, _, z2 g1 W, rfl, hi_at, ⟨S, sg, sd, (Hg.ow W).th⟩, ?_⟩⟩
  have r : RM h g := RM.same C.z.1 C.z.2.1
  rcases W with q | ⟨w, q⟩ <;> subst q <;> exact r
theorem e_t_read_no {x : Int32} (z0 : hr h 0 4 = some S) (hm : hz g < 1000000) (z1 : f_r_locate S x h = some (0, g)) : f_t_read x h = some (Sum.inr 3, hthr g) := by
  unfold f_t_read b_t_read_25
  exact o_bind z0 (o_bind z1 (o_pos rfl (o_pos hm rfl)))
theorem e_t_read_bad {x : Int32} {s : Nat} (z0 : hr h 0 4 = some S) (hm : hz g < 1000000) (z1 : f_r_locate S x h = some (1, g)) (e6 : hi g 1255 6 = nI s) (s5 : s = 1 ∨ s = 2 ∨ s = 3 ∨ s = 5) : f_t_read x h = some (Sum.inr 3, hthr g) := by
  have eR : f_r_isPartReadable g = some (0, g) := by
    unfold f_r_isPartReadable
    rw [e6]
    rcases s5 with q | q | q | q <;> subst q <;> rfl
  unfold f_t_read b_t_read_25
  exact o_bind z0 (o_bind z1 (o_neg one0 (o_bind eR (o_neg (not_not_intro rfl) (o_pos hm rfl)))))
theorem e_t_read_ok {x : Int32} {s : Nat} {v : Int64} (z0 : hr h 0 4 = some S) (z1 : f_r_locate S x h = some (1, g)) (e6 : hi g 1255 6 = nI s) (s5 : s = 0 ∨ s = 4 ∨ s = 6) (z2 : f_r_partValue g = some (v, g)) : f_t_read x h = some (Sum.inl v, g) := by
  have eR : f_r_isPartReadable g = some (1, g) := by
    unfold f_r_isPartReadable b_r_isPartReadable_24
    rw [e6]
    rcases s5 with q | q | q <;> subst q <;> rfl
  unfold f_t_read
  exact o_bind z0 (o_bind z1 (o_neg one0 (o_bind eR (o_pos one0 (o_bind z2 rfl)))))
theorem e_m_read_bad {k s : Nat} (z1 : f_m_isPart (nI k) (hsi h 1262 0 0) = some (1, hsi h 1262 0 0)) (z2 : f_m_partSort (nI k) (hsi h 1262 0 0) = some (nI s, hsi h 1262 0 0)) (s5 : s = 1 ∨ s = 2 ∨ s = 3 ∨ s = 5) : f_m_read (nI k) h = some (0, hsi (hsi h 1262 0 0) 1262 0 1) := by
  unfold f_m_read b_m_read_22
  exact o_bind z1 (o_neg one0 (o_bind z2 (o_neg (show ¬ nI s = 0 by rcases s5 with q | q | q | q <;> subst q <;> decide) (o_neg (show ¬ nI s = 4 by rcases s5 with q | q | q | q <;> subst q <;> decide) rfl))))
theorem e_m_read_no {x : Int32} (z1 : f_m_isPart x (hsi h 1262 0 0) = some (0, hsi h 1262 0 0)) : f_m_read x h = some (0, hsi (hsi h 1262 0 0) 1262 0 1) := by
  unfold f_m_read b_m_read_22
  exact o_bind z1 (o_pos rfl (o_neg (by decide) (o_neg (by decide) rfl)))
theorem e_m_read_sc {k q oo : Nat} {y : Nat → Nat} (z1 : f_m_isPart (nI k) (hsi h 1262 0 0) = some (1, hsi h 1262 0 0)) (z2 : f_m_partSort (nI k) (hsi h 1262 0 0) = some (0, hsi h 1262 0 0)) (z3 : f_m_partAt (nI k) (hsi h 1262 0 0) = some (nI q, hsi h 1262 0 0)) (z4 : f_m_partOf (nI k) (hsi h 1262 0 0) = some (nI oo, hsi h 1262 0 0)) (C : MC (hsi h 1262 0 0) n y sg sd) (ho : oo < 11) (hq : q + bO oo ≤ n) : f_m_read (nI k) h = some (sV y oo q, hsi h 1262 0 0) := by
  have n4 := C.1.2
  unfold f_m_read b_m_read_22 b_m_read_39
  exact o_bind z1 (o_neg one0 (o_bind z2 (o_pos rfl (o_pos (show ¬ (0 : Int32) = 4 by decide) (o_bind z3 (o_pos (nI_n1 (by omega)) (o_bind z4 (o_bind (e_m_value C ho hq) rfl))))))))
theorem op_read {x : Int32} (H : RX h) (hm : hz h < 900000) : TH h (f_t_read x) (f_m_read x) (fun v w => v = w) [(3, 1)] := by
  obtain ⟨S, sg, sd, H⟩ := H
  have l := H.1.1
  rcases H.rd with ⟨q1, q2, q3⟩ | ⟨n, a, so, o, e, p, W, q1, q2, R, M, v⟩
  · refine read_thr H hm (LC.refl h) rfl (e_t_read_no H.2.1.1 (by omega) (e_r_locate0 q2)) (fun g1 Wg => e_m_read_no (e_m_isPart0 ?_))
    rw [hi_nk (by decide)]
    rcases Wg with q | ⟨w, q⟩ <;> subst q
    · rw [hthr_hi (by omega)]; exact q1
    · rw [hi_hsj, hthr_hi (by omega)]; exact q1
  · have pl := v.pcl W q1.2.2.2.1
    have n4 := q1.2.2.2.1
    have B := H.1.b1256
    have mthr : ∀ {g g1 : XH}, LC h g → OW (hthr g) g1 → MR (hsi g1 1262 0 0) n a (cb h 1257) sg sd (so a) (o a) (e a) (p a) := fun C Wg => (((M.lc C).thr (by rw [C.z.1]; omega)).ow Wg).th
    have mval : ∀ {g g1 : XH}, LC h g → OW g g1 → MR (hsi g1 1262 0 0) n a (cb h 1257) sg sd (so a) (o a) (e a) (p a) := fun C Wg => ((M.lc C).ow Wg).th
    rcases x32 x (pc sg (cb h 1257) (so a) (o a) (p a)) (by omega) with c | c | ⟨k, hk', ek⟩
    · exact read_thr H hm (LC.refl h) rfl (e_t_read_no H.2.1.1 (by omega) (e_r_locate_no R W v (Or.inl c))) (fun g1 Wg => e_m_read_no (e_m_isPart_no (mthr (LC.refl h) Wg) W v (Or.inl c)))
    · exact read_thr H hm (LC.refl h) rfl (e_t_read_no H.2.1.1 (by omega) (e_r_locate_no R W v (Or.inr c))) (fun g1 Wg => e_m_read_no (e_m_isPart_no (mthr (LC.refl h) Wg) W v (Or.inr c)))
    · subst ek
      have v2 := v
      generalize es : so a = sa at *
      generalize eo : o a = oa at *
      generalize ee : e a = ea at *
      generalize ep : p a = pa at *
      rcases v2 with ⟨s3, e0, d, d2, T⟩ | ⟨s3, e1, d, d2, T⟩ | ⟨s3, e0, o0, d2, T⟩ | ⟨s3, e0, ho, d2, T⟩
      · subst s3
        subst e0
        have hk2 : k < sg 10 oa := hk'
        have ho := T.2.2.2.1
        have jj := jl_ok T.2.2.1
        by_cases h4 : sg 12 (16 * oa + k) = 4
        · have C : LC h (fndU h sg sd (cb h 1257) pa (16 * oa + k)) := (((fnd_lc.sj).si).si).si
          have fu := fndU_hi (h := h) (sg := sg) (sd := sd) (y := cb h 1257) (p := pa) (i := 16 * oa + k)
          have f11 : hi (fndU h sg sd (cb h 1257) pa (16 * oa + k)) 1255 11 = nI (jwh (cb h 1257) pa (la (cb h 1257) pa) (sg 15 (16 * oa + k))) := rfl
          refine read_val H C fu.1 (e_t_read_ok (s := 4) (v := Int32.toInt64 (nI (jwh (cb h 1257) pa (la (cb h 1257) pa) (sg 15 (16 * oa + k))))) H.2.1.1 (e_r_locate_U R W T d2 hk2 h4) (by rw [fu.2.1, h4]) (Or.inr (Or.inl rfl)) ?_) (fun g1 Wg => ?_)
          · unfold f_r_partValue
            rw [fu.2.1, h4, f11]
            exact o_neg (by decide) rfl
          · have M2 := mval C Wg
            unfold f_m_read b_m_read_22 b_m_read_39
            exact o_bind (e_m_isPart M2 W v hk') (o_neg one0 (o_bind (e_m_partSort_T M2 W ho hk2) (o_neg (show ¬ nI (sg 12 (16 * oa + k)) = 0 by rw [h4]; decide) (o_pos (show nI (sg 12 (16 * oa + k)) = 4 by rw [h4]; decide) (o_neg (show ¬ ¬ nI (sg 12 (16 * oa + k)) = 4 by rw [h4]; decide) (o_bind (e_m_which_U M2 W T hk2 h4) rfl))))))
        · have C : LC h (hsj (fnd h (nI (sg 12 (16 * oa + k))) (nI (sg 13 (16 * oa + k))) (nI (sg 14 (16 * oa + k)) - 1) (sA (cb h 1257) pa (sg 15 (16 * oa + k)))) 1255 10 (sd (16 * oa + k))) := fnd_lc.sj
          have fu := fndT_hi (h := h) (a0 := nI (sg 12 (16 * oa + k))) (a1 := nI (sg 13 (16 * oa + k))) (a2 := nI (sg 14 (16 * oa + k)) - 1) (a3 := sA (cb h 1257) pa (sg 15 (16 * oa + k))) (w := sd (16 * oa + k))
          have fj : hj (hsj (fnd h (nI (sg 12 (16 * oa + k))) (nI (sg 13 (16 * oa + k))) (nI (sg 14 (16 * oa + k)) - 1) (sA (cb h 1257) pa (sg 15 (16 * oa + k)))) 1255 10 (sd (16 * oa + k))) 1255 10 = sd (16 * oa + k) := hj_at
          have sn := sA_n (s := sg 15 (16 * oa + k)) (show pa ≤ 4000 by have := T.2.1; omega) (cb_lt h 1257)
          have lo := e_r_locate_T R W T d2 hk2 h4
          by_cases c0 : sg 12 (16 * oa + k) = 0
          · have o11 : sg 13 (16 * oa + k) < 11 := by
              rcases W.fk ho hk2 with z | ⟨-, -, z⟩ | z
              · omega
              · rcases z with ⟨z, zo⟩ | ⟨z, zo⟩ | ⟨z, zo⟩ | ⟨z, zo⟩ <;> omega
              · omega
            by_cases c : fr (cb h 1257) (la (cb h 1257) pa) (sg 15 (16 * oa + k)) = 0
            · refine read_val H C fu.1 (e_t_read_ok (s := 0) (v := sd (16 * oa + k)) H.2.1.1 lo (by rw [fu.2.1, c0]) (Or.inl rfl) ?_) (fun g1 Wg => ?_)
              · unfold f_r_partValue
                rw [fu.2.1, fu.2.2.2.1, fj, c0]
                exact o_pos (by decide) (o_neg (by rw [sn]; exact not_not_intro c) rfl)
              · have M2 := mval C Wg
                unfold f_m_read b_m_read_22 b_m_read_39
                refine o_bind (e_m_isPart M2 W v hk') (o_neg one0 (o_bind (e_m_partSort_T M2 W ho hk2) (o_pos (by rw [c0]; rfl) (o_pos (show ¬ nI (sg 12 (16 * oa + k)) = 4 by rw [c0]; decide) (o_bind (e_m_partAt_T M2 W T hk2) (o_neg (by rw [sn]; exact not_not_intro c) (o_bind (e_m_row_T M2) ?_)))))))
                have i256 := W.i256 ho hk2
                dsimp only
                rw [nI_clamp (show 16 * oa + k < 2 ^ 31 by omega), (M2.1.2.2.2.fi ho hk2).2.2.2.2.2]
                exact o_pos (by (first | (simp (maxSteps := 4000000) (disch := omega) only [n_0, n_1, n_2, n_3, n_4, n_5, n_6, n_7, n_8, n_9, n_10, n_11, n_12, n_13, n_14, n_15, n_16, n_18, n_20, n_24, n_31, n_32, n_34, n_40, n_41, n_44, n_45, n_47, n_48, n_57, n_58, n_59, n_61, n_63, n_64, n_65, n_68, n_90, n_91, n_93, n_95, n_97, n_100, n_122, n_123, n_125, n_128, n_144, n_200, n_255, n_256, n_300, n_400, n_600, n_1536, n_3980, n_4000, n_4001, n_4300, n_65536, l_0, l_1, l_2, l_3, l_4, l_10, l_48, l_63, l_255, l_300, nI_ltI, nI_leI, nI_eq, nI_clamp, nI_add, pk_sub, pk_mul, nI_ne1, ne1_nI, nI_pge, nI_nlt0, nI_l, lN_i, lN_add, lN_mul, lN_sub, pk_lLT, pk_lLE, pk_lEQ, lg_lt, lg_ge, lg_eq0, lg_le, lg_gt, lg_ltn, lg_gen, lg_eq0n, lg_len, lg_gtn, Nat.zero_le, Nat.not_lt_zero, not_false_eq_true, not_true_eq_false, true_and, and_true]; done) | (simp (maxSteps := 4000000) (disch := omega) only [n_0, n_1, n_2, n_3, n_4, n_5, n_6, n_7, n_8, n_9, n_10, n_11, n_12, n_13, n_14, n_15, n_16, n_18, n_20, n_24, n_31, n_32, n_34, n_40, n_41, n_44, n_45, n_47, n_48, n_57, n_58, n_59, n_61, n_63, n_64, n_65, n_68, n_90, n_91, n_93, n_95, n_97, n_100, n_122, n_123, n_125, n_128, n_144, n_200, n_255, n_256, n_300, n_400, n_600, n_1536, n_3980, n_4000, n_4001, n_4300, n_65536, l_0, l_1, l_2, l_3, l_4, l_10, l_48, l_63, l_255, l_300, nI_ltI, nI_leI, nI_eq, nI_clamp, nI_add, pk_sub, pk_mul, nI_ne1, ne1_nI, nI_pge, nI_nlt0, nI_l, lN_i, lN_add, lN_mul, lN_sub, pk_lLT, pk_lLE, pk_lEQ, lg_lt, lg_ge, lg_eq0, lg_le, lg_gt, lg_ltn, lg_gen, lg_eq0n, lg_len, lg_gtn, Nat.zero_le, Nat.not_lt_zero, not_false_eq_true, not_true_eq_false, true_and, and_true]; omega) | omega)) rfl
            · have e9 : sA (cb h 1257) pa (sg 15 (16 * oa + k)) = nI (pa + fr (cb h 1257) (la (cb h 1257) pa) (sg 15 (16 * oa + k))) := if_neg c
              obtain ⟨f1, -, -⟩ := (T.2.2.2.2 k hk2).fld h4 c
              have jk := jw_ok f1
              have fn := fr_ne c
              have zz : zO sg (sg 12 (16 * oa + k)) (sg 13 (16 * oa + k)) = bO (sg 13 (16 * oa + k)) := by rw [c0]; rfl
              have bb := bO_le (sg 13 (16 * oa + k))
              have hq : pa + fr (cb h 1257) (la (cb h 1257) pa) (sg 15 (16 * oa + k)) + bO (sg 13 (16 * oa + k)) ≤ n := by omega
              refine read_val H C fu.1 (e_t_read_ok (s := 0) (v := sV (cb h 1257) (sg 13 (16 * oa + k)) (pa + fr (cb h 1257) (la (cb h 1257) pa) (sg 15 (16 * oa + k)))) H.2.1.1 lo (by rw [fu.2.1, c0]) (Or.inl rfl) ?_) (fun g1 Wg => ?_)
              · unfold f_r_partValue
                rw [fu.2.1, fu.2.2.1, fu.2.2.2.1, e9, c0]
                have sc := e_b_scalar (h := hsj (fnd h (nI 0) (nI (sg 13 (16 * oa + k))) (nI (sg 14 (16 * oa + k)) - 1) (nI (pa + fr (cb h 1257) (la (cb h 1257) pa) (sg 15 (16 * oa + k))))) 1255 10 (sd (16 * oa + k))) (by rw [fnd_lc.sj.by]; exact B) o11 (show pa + fr (cb h 1257) (la (cb h 1257) pa) (sg 15 (16 * oa + k)) + bO (sg 13 (16 * oa + k)) ≤ 4000 by omega)
                rw [cb_cg (fnd_lc.sj.hi (by decide))] at sc
                exact o_pos (by decide) (o_pos (nI_n1 (by omega)) (o_neg (by decide) (o_bind sc rfl)))
              · have M2 := mval C Wg
                have z2 := e_m_partSort_T M2 W ho hk2
                have z3 := e_m_partAt_T M2 W T hk2
                rw [c0] at z2
                rw [e9] at z3
                exact e_m_read_sc (e_m_isPart M2 W v hk') z2 z3 (e_m_partOf_T M2 W ho hk2) M2.1 o11 hq
          · have s5 : sg 12 (16 * oa + k) = 1 ∨ sg 12 (16 * oa + k) = 2 ∨ sg 12 (16 * oa + k) = 3 ∨ sg 12 (16 * oa + k) = 5 := by rcases W.fk ho hk2 with k | ⟨-, -, ⟨e, -⟩ | ⟨e, -⟩ | ⟨e, -⟩ | ⟨e, -⟩⟩ | k <;> omega
            exact read_thr H hm C fu.1 (e_t_read_bad H.2.1.1 (by rw [C.z.1]; omega) lo fu.2.1 s5) (fun g1 Wg => e_m_read_bad (e_m_isPart (mthr C Wg) W v hk') (e_m_partSort_T (mthr C Wg) W ho hk2) s5)
      · subst s3
        have hk2 : k < nb (cb h 1257) 4 pa := hk'
        have C : LC h (fnd h (nI (ea - 1)) (nI oa) (-1) (nI (pa + 4 + k * zO sg (ea - 1) oa))) := fnd_lc
        have fu := fnd_hi (h := h) (a0 := nI (ea - 1)) (a1 := nI oa) (a2 := -1) (a3 := nI (pa + 4 + k * zO sg (ea - 1) oa))
        have lo := e_r_locate_V R W e1 T d2 hk2
        have kz : (k + 1) * zO sg (ea - 1) oa ≤ nb (cb h 1257) 4 pa * zO sg (ea - 1) oa := Nat.mul_le_mul_right _ (by omega)
        rw [Nat.add_mul] at kz
        have t3 := T.2.2.1
        by_cases c0 : ea - 1 = 0
        · have o11 : oa < 11 := by rcases T.2.2.2.1 with ⟨z, zo⟩ | ⟨z, zo⟩ | ⟨z, zo⟩ | ⟨z, zo⟩ <;> omega
          have zz : zO sg (ea - 1) oa = bO oa := by rw [c0]; rfl
          have bb := bO_le oa
          refine read_val H C fu.1 (e_t_read_ok (s := 0) (v := sV (cb h 1257) oa (pa + 4 + k * zO sg (ea - 1) oa)) H.2.1.1 lo (by rw [fu.2.1, c0]) (Or.inl rfl) ?_) (fun g1 Wg => ?_)
          · unfold f_r_partValue
            rw [fu.2.1, fu.2.2.1, fu.2.2.2.1, c0]
            have sc := e_b_scalar (h := fnd h (nI 0) (nI oa) (-1) (nI (pa + 4 + k * zO sg 0 oa))) (by rw [fnd_lc.by]; exact B) o11 (show pa + 4 + k * zO sg 0 oa + bO oa ≤ 4000 by rw [c0] at zz kz t3; omega)
            rw [cb_cg (fnd_lc.hi (by decide))] at sc
            exact o_pos (by decide) (o_pos (nI_n1 (by rw [c0] at zz kz t3; omega)) (o_neg (by decide) (o_bind sc rfl)))
          · have M2 := mval C Wg
            have z2 := e_m_partSort_V M2 e1 (k := k)
            rw [c0] at z2
            exact e_m_read_sc (e_m_isPart M2 W v hk') z2 (e_m_partAt_V M2 W e1 T.2.2.2.1) (e_m_partOf_V M2) M2.1 o11 (by omega)
        · have s5 : ea - 1 = 1 ∨ ea - 1 = 2 ∨ ea - 1 = 3 ∨ ea - 1 = 5 := by rcases T.2.2.2.1 with ⟨z, zo⟩ | ⟨z, zo⟩ | ⟨z, zo⟩ | ⟨z, zo⟩ <;> omega
          exact read_thr H hm C fu.1 (e_t_read_bad H.2.1.1 (by rw [C.z.1]; omega) lo fu.2.1 s5) (fun g1 Wg => e_m_read_bad (e_m_isPart (mthr C Wg) W v hk') (e_m_partSort_V (mthr C Wg) e1) s5)
      · subst s3
        subst e0
        subst o0
        have hk2 : k < nb (cb h 1257) 4 pa := hk'
        have C : LC h (fnd h 6 0 (-1) (nI (pa + 4 + k))) := fnd_lc
        have fu := fnd_hi (h := h) (a0 := 6) (a1 := 0) (a2 := -1) (a3 := nI (pa + 4 + k))
        have lo := e_r_locate_X R W v hk2
        have y8 := cb_lt h 1257 (pa + 4 + k)
        have es2 : sV (cb h 1257) 2 (pa + 4 + k) = lN (cb h 1257 (pa + 4 + k)) := by
          show lN (cb h 1257 (pa + 4 + k) + 256 * 0) = _
          rw [Nat.mul_zero, Nat.add_zero]
        refine read_val H C fu.1 (e_t_read_ok (s := 6) (v := sV (cb h 1257) 2 (pa + 4 + k)) H.2.1.1 lo fu.2.1 (Or.inr (Or.inr rfl)) ?_) (fun g1 Wg => ?_)
        · unfold f_r_partValue
          rw [fu.2.1, fu.2.2.2.1, es2]
          have sc := e_b_octet (h := fnd h 6 0 (-1) (nI (pa + 4 + k))) (b := 1256) (cl := 1257) (by rw [fnd_lc.by]; exact B) (show pa + 4 + k < 4000 by omega)
          rw [cb_cg (fnd_lc.hi (by decide))] at sc
          refine o_pos (by decide) (o_pos (nI_n1 (by omega)) (o_pos (by decide) (o_bind sc ?_)))
          show some (Int32.toInt64 (nI _), _) = _
          rw [nI_l (by omega)]
        · have M2 := mval C Wg
          exact e_m_read_sc (e_m_isPart M2 W v hk') (e_m_partSort_X M2) (e_m_partAt_X M2) (e_m_partOf_X M2) M2.1 (by decide) (show pa + 4 + k + 1 ≤ n by omega)
      · subst s3
        subst e0
        have hk2 : k < sg 1 oa := hk'
        have C : LC h (hsj (fnd h (nI (sg 4 (12 * oa + k))) (nI (sg 5 (12 * oa + k))) (-1) (nI (pa + sg 6 (12 * oa + k)))) 1255 10 (hj h (dS S oa + 2 + k) 8)) := fnd_lc.sj
        have fu := fndT_hi (h := h) (a0 := nI (sg 4 (12 * oa + k))) (a1 := nI (sg 5 (12 * oa + k))) (a2 := -1) (a3 := nI (pa + sg 6 (12 * oa + k))) (w := hj h (dS S oa + 2 + k) 8)
        have lo := e_r_locate_S R W ho v hk2
        have w1 := (W.2.1 oa ho).1
        rcases (W.2.1 oa ho).2.1 k hk2 with ⟨z, zo, zp⟩ | ⟨z, zo, zp⟩
        · refine read_val H C fu.1 (e_t_read_ok (s := 0) (v := sV (cb h 1257) (sg 5 (12 * oa + k)) (pa + sg 6 (12 * oa + k))) H.2.1.1 lo (by rw [fu.2.1, z]) (Or.inl rfl) ?_) (fun g1 Wg => ?_)
          · unfold f_r_partValue
            rw [fu.2.1, fu.2.2.1, fu.2.2.2.1, z]
            have sc := e_b_scalar (h := hsj (fnd h (nI 0) (nI (sg 5 (12 * oa + k))) (-1) (nI (pa + sg 6 (12 * oa + k)))) 1255 10 (hj h (dS S oa + 2 + k) 8)) (by rw [fnd_lc.sj.by]; exact B) zo (show pa + sg 6 (12 * oa + k) + bO (sg 5 (12 * oa + k)) ≤ 4000 by omega)
            rw [cb_cg (fnd_lc.sj.hi (by decide))] at sc
            exact o_pos (by decide) (o_pos (nI_n1 (by omega)) (o_neg (by decide) (o_bind sc rfl)))
          · have M2 := mval C Wg
            have z2 := e_m_partSort_S M2 W ho hk2
            rw [z] at z2
            exact e_m_read_sc (e_m_isPart M2 W v hk') z2 (e_m_partAt_S M2 W ho hk2) (e_m_partOf_S M2 W ho hk2) M2.1 zo (by omega)
        · exact read_thr H hm C fu.1 (e_t_read_bad H.2.1.1 (by rw [C.z.1]; omega) lo fu.2.1 (Or.inr (Or.inl z))) (fun g1 Wg => e_m_read_bad (e_m_isPart (mthr C Wg) W v hk') (e_m_partSort_S (mthr C Wg) W ho hk2) (Or.inr (Or.inl z)))
end Ops
