/-! Calls: write, joined -/

section Wr
variable {h g : XH} {S n a : Nat} {sg : SGT} {sd : Nat → Int64}
theorem e_m_write_sc {m : XH} {x : Int32} {v : Int64} {y : Nat → Nat} {s0 o0 e0 p0 q oo : Nat} {rv : Int32} (R : MR (hsi m 1262 0 0) n a y sg sd s0 o0 e0 p0) (s1 : s0 ≠ 1) (s2 : s0 < 10) (hq : q < 4001) (z1 : f_m_isPart x (hsi m 1262 0 0) = some (1, hsi m 1262 0 0)) (z2 : f_m_partSort x (hsi m 1262 0 0) = some (0, hsi m 1262 0 0)) (z3 : f_m_partAt x (hsi m 1262 0 0) = some (nI q, hsi m 1262 0 0)) (z4 : f_m_partOf x (hsi m 1262 0 0) = some (nI oo, hsi m 1262 0 0)) (z5 : f_m_isValue (nI oo) v (hsi m 1262 0 0) = some (rv, hsi m 1262 0 0)) : f_m_write x v m = if ¬ rv = 0 then b_m_write_65 100000 v (nI oo) (nI q) 0 (hsi m 1262 0 0) else some (0, hsi m 1262 0 0) := by
  unfold f_m_write
  exact o_bind z1 (o_neg one0 (o_bind (e_m_sort R) (o_neg (show ¬ nI s0 = 1 by rw [show (1 : Int32) = nI 1 from rfl]; (first | (simp (maxSteps := 4000000) (disch := omega) only [n_0, n_1, n_2, n_3, n_4, n_5, n_6, n_7, n_8, n_9, n_10, n_11, n_12, n_13, n_14, n_15, n_16, n_18, n_20, n_24, n_31, n_32, n_34, n_40, n_41, n_44, n_45, n_47, n_48, n_57, n_58, n_59, n_61, n_63, n_64, n_65, n_68, n_90, n_91, n_93, n_95, n_97, n_100, n_122, n_123, n_125, n_128, n_144, n_200, n_255, n_256, n_300, n_400, n_600, n_1536, n_3980, n_4000, n_4001, n_4300, n_65536, l_0, l_1, l_2, l_3, l_4, l_10, l_48, l_63, l_255, l_300, nI_ltI, nI_leI, nI_eq, nI_clamp, nI_add, pk_sub, pk_mul, nI_ne1, ne1_nI, nI_pge, nI_nlt0, nI_l, lN_i, lN_add, lN_mul, lN_sub, pk_lLT, pk_lLE, pk_lEQ, lg_lt, lg_ge, lg_eq0, lg_le, lg_gt, lg_ltn, lg_gen, lg_eq0n, lg_len, lg_gtn, Nat.zero_le, Nat.not_lt_zero, not_false_eq_true, not_true_eq_false, true_and, and_true]; done) | (simp (maxSteps := 4000000) (disch := omega) only [n_0, n_1, n_2, n_3, n_4, n_5, n_6, n_7, n_8, n_9, n_10, n_11, n_12, n_13, n_14, n_15, n_16, n_18, n_20, n_24, n_31, n_32, n_34, n_40, n_41, n_44, n_45, n_47, n_48, n_57, n_58, n_59, n_61, n_63, n_64, n_65, n_68, n_90, n_91, n_93, n_95, n_97, n_100, n_122, n_123, n_125, n_128, n_144, n_200, n_255, n_256, n_300, n_400, n_600, n_1536, n_3980, n_4000, n_4001, n_4300, n_65536, l_0, l_1, l_2, l_3, l_4, l_10, l_48, l_63, l_255, l_300, nI_ltI, nI_leI, nI_eq, nI_clamp, nI_add, pk_sub, pk_mul, nI_ne1, ne1_nI, nI_pge, nI_nlt0, nI_l, lN_i, lN_add, lN_mul, lN_sub, pk_lLT, pk_lLE, pk_lEQ, lg_lt, lg_ge, lg_eq0, lg_le, lg_gt, lg_ltn, lg_gen, lg_eq0n, lg_len, lg_gtn, Nat.zero_le, Nat.not_lt_zero, not_false_eq_true, not_true_eq_false, true_and, and_true]; omega) | omega)) (o_bind z2 (o_pos rfl (o_bind z4 (o_bind z3 (o_neg (nI_n1 (by omega)) (o_bind z5 rfl)))))))))
theorem e_t_write_bad {x : Int32} {v : Int64} {q oo : Nat} (hr0 : hr h 0 4 = some S) (z1 : f_r_locate S x h = some (1, g)) (e6 : hi g 1255 6 = nI 0) (e7 : hi g 1255 7 = nI oo) (e8 : hi g 1255 8 = nI q) (hq : q < 4001) (hv : f_t_isValue (nI oo) v g = some (0, g)) : f_t_write x v h = some (0, g) := by
  unfold f_t_write
  refine o_bind hr0 (o_bind z1 (o_neg one0 (o_neg (not_not_intro e6) (o_neg (by rw [e8]; exact nI_n1 (by omega)) ?_))))
  dsimp only
  rw [e7]
  exact o_bind hv (o_neg (not_not_intro rfl) rfl)
set_option maxHeartbeats 8000000 in
theorem write_go {x : Int32} {v : Int64} {q oo s0 o0 e0 p0 : Nat} {so o e p : Nat → Nat} (H : RA h S sg sd) (hm : hz h < 900000) (C : LC h g) (e5 : hi g 1255 5 = hi h 1255 5) (z1 : f_r_locate S x h = some (1, g)) (e6 : hi g 1255 6 = nI 0) (e7 : hi g 1255 7 = nI oo) (e8 : hi g 1255 8 = nI q) (ho : oo < 11) (hq : q + bO oo ≤ n) (W : WF sg sd) (q1 : RRl h sg n) (ea : hi h 1255 5 = nI a) (Rn : RRn h sg n a so o e p) (M : MR h n a (cb h 1257) sg sd s0 o0 e0 p0) (s1 : s0 ≠ 1) (s2 : s0 < 10) (zm : ∀ m, MR (hsi m 1262 0 0) n a (cb h 1257) sg sd s0 o0 e0 p0 → f_m_isPart x (hsi m 1262 0 0) = some (1, hsi m 1262 0 0) ∧ f_m_partSort x (hsi m 1262 0 0) = some (0, hsi m 1262 0 0) ∧ f_m_partAt x (hsi m 1262 0 0) = some (nI q, hsi m 1262 0 0) ∧ f_m_partOf x (hsi m 1262 0 0) = some (nI oo, hsi m 1262 0 0)) : ∃ r h1 h2, f_t_write x v h = some (r, h1) ∧ f_m_write x v h1 = some (r, h2) ∧ RX h2 ∧ RM h h2 := by
  have n4 := q1.2.2.2.1
  have hS := H.sS
  have L := H.1
  have l := L.1
  obtain ⟨rv, hrv, -, t1, -⟩ := isVal2 (h := g) (v := v) ho (g := g)
  have vm : ∀ m : XH, f_m_isValue (nI oo) v m = some (rv, m) := by
    intro m
    obtain ⟨rv2, -, -, t3, t4⟩ := isVal2 (h := g) (v := v) ho (g := m)
    rw [t1] at t3
    cases t3
    exact t4
  have zw : ∀ m, MR (hsi m 1262 0 0) n a (cb h 1257) sg sd s0 o0 e0 p0 → f_m_write x v m = if ¬ rv = 0 then b_m_write_65 100000 v (nI oo) (nI q) 0 (hsi m 1262 0 0) else some (0, hsi m 1262 0 0) := by
    intro m R
    obtain ⟨y1, y2, y3, y4⟩ := zm m R
    exact e_m_write_sc R s1 s2 (by omega) y1 y2 y3 y4 (vm _)
  by_cases r0 : rv = 0
  · subst r0
    refine write_no H C e5 (e_t_write_bad H.2.1.1 z1 e6 e7 e8 (by omega) t1) ?_
    rw [zw g (M.lc C).th, if_neg (not_not_intro rfl)]
  have Cs : CS h S sg sd := by
    rcases H.2.2.2.2.2.2.1 with w | w
    · have := q1.2.1; rw [w.1] at this; cases this
    · exact w.2.1
  obtain ⟨f, g3, p1, p2, K, gz, gw, L3, cF, cS⟩ := c_write (v := v) L hm H.2.1.1 Cs W hS.1 C q1.2.2.1 n4 z1 e6 e7 e8 ho hq ⟨rv, t1, r0⟩
  have cbg : cb g 1257 = cb h 1257 := cb_cg (C.hi (by decide))
  rw [cbg] at cF
  have kh : ∀ a, a < 1316 → a ≠ 1255 → a ≠ 1257 → hi g3 a = hi h a := fun a h1 h2 h3 => by rw [K.hi (by omega), hi_hri_ne h3, C.hi h2]
  have kj : ∀ a, a < 1316 → a ≠ 1255 → hj g3 a = hj h a := fun a h1 h2 => by rw [K.hj (by omega), hj_hri, C.hj h2]
  have kr : hr g3 0 = hr h 0 := by rw [K.hr (by omega), hr_hri, C.z.2.2.2.2]
  have k55 : hi g3 1255 = hi g 1255 := by rw [K.hi (by omega), hi_hri_ne (by decide)]
  have k57 : hi g3 1257 = f := by rw [K.hi (by omega), hi_hri_eq]
  have ey2 : ∀ k, k < q ∨ q + bO oo ≤ k → cb (hri g 1257 f) 1257 k = cb h 1257 k := by
    intro k hk'
    rw [← cbg]
    unfold cb
    rw [hi_hri_eq, p2 k hk']
  have y256 := cb_lt (hri g 1257 f) 1257
  by_cases z : (jA sg (cb (hri g 1257 f) 1257) n).1 = 0
  · have ec := cS z
    generalize hY : cb (hri g 1257 f) 1257 = y2 at *
    have MM : MR (hsi (ENc (hsi g3 1255 5 (-1)) 0 (nI 3) (nI (sg 0 3)) (-1) (nI (nb y2 4 0))) 1262 0 0) n a (cb h 1257) sg sd s0 o0 e0 p0 := by
      refine (M.gen (fun a h1 h2 => ?_) (fun k hk' => ?_) ?_).th <;> unfold ENc
      · simp (maxSteps := 4000000) (disch := omega) only [hi_hsi_ne]; exact kh a (by omega) (by omega) (by omega)
      · simp (maxSteps := 4000000) (disch := omega) only [hi_hsi_ne]; rw [kh 1262 (by decide) (by decide) (by decide)]
      · simp only [hj_hsi]; exact kj 1291 (by decide) (by decide)
    have em0 := zw _ MM
    rw [if_pos r0] at em0
    generalize hG : ENc (hsi g3 1255 5 (-1)) 0 (nI 3) (nI (sg 0 3)) (-1) (nI (nb y2 4 0)) = G at *
    have Gh : ∀ a, a < 1316 → ¬ (1255 ≤ a ∧ a ≤ 1261 ∧ a ≠ 1256) → hi G a = hi h a := by
      intro a h1 h2
      rw [← hG]
      unfold ENc
      simp (maxSteps := 4000000) (disch := omega) only [hi_hsi_ne]
      exact kh a h1 (by omega) (by omega)
    have G57 : hi G 1257 = f := by
      rw [← hG]
      unfold ENc
      simp (maxSteps := 4000000) (disch := omega) only [hi_hsi_ne]
      exact k57
    have Gj : ∀ a, a < 1316 → a ≠ 1255 → hj G a = hj h a := by
      intro a h1 h2
      rw [← hG]
      unfold ENc
      simp only [hj_hsi]
      exact kj a h1 h2
    have GL : LY G ∧ hr G 0 = hr h 0 ∧ hz G = hz h + 1 ∧ hw G = hw h + 6 := by
      rw [← hG]
      unfold ENc
      simp only [LY_si, hr_hsi, hz_hsi, hw_hsi]
      exact ⟨L3, kr, gz, gw⟩
    have Gc : hi G 1255 5 = nI 0 ∧ hi G 1258 0 = nI 3 ∧ hi G 1259 0 = nI (sg 0 3) ∧ hi G 1260 0 = -1 ∧ hi G 1261 0 = nI (nb y2 4 0) := by
      rw [← hG]
      unfold ENc
      simp (disch := decide) only [hi_hsi_ne, hi_at]
      exact ⟨trivial, trivial, trivial, trivial, trivial⟩
    obtain ⟨f1, fy, -, mS⟩ := m_write (m := hsi G 1262 0 0) (y := cb h 1257) (y2 := y2) (v := v) MM.1 W ho hq (by rw [hi_nk (by decide), Gh 1262 (by decide) (by decide)]; exact q1.2.2.2.2.2.1) (fun k hk' => by rw [hi_hsi_ne (by decide), Gh 1311 (by decide) (by decide)]; exact (q1.2.2.2.2.2.2.1 k hk').2) y256 p1 ey2
    obtain ⟨f2, em, ef2⟩ := mS z
    refine ⟨1, G, _, ec, em0.trans em, ⟨S, sg, sd, ?_⟩, ?_⟩
    · have nv := (jA_ok z W.1.2.2.2).2
      generalize hX : (jA sg y2 n).2.2 = ct at *
      generalize hP : nb y2 4 0 = pl at *
      have m57 : hi (wmS (hsi G 1262 0 0) f1 f2 ct (sg 0 3) pl) 1257 = f := by
        unfold wmS ENm
        simp (disch := decide) only [hi_hsi_ne, hi_hri_ne]
        exact G57
      have mcb : cb (wmS (hsi G 1262 0 0) f1 f2 ct (sg 0 3) pl) 1257 = y2 := by
        rw [← hY]
        exact cb_of (m57.trans hi_hri_eq.symm)
      have F2 : ∀ k, ¬ (k = 0 ∨ k = 76 ∨ k = 77 ∨ k = 78 ∨ k = 87) → hi (wmS (hsi G 1262 0 0) f1 f2 ct (sg 0 3) pl) 1262 k = hi h 1262 k := by
        intro k hk'
        unfold wmS ENm
        simp (maxSteps := 4000000) (disch := omega) only [hi_nk, hi_hri_ne, hi_hsi_ne]
        rw [Gh 1262 (by decide) (by decide)]
      have F1 : ∀ a, a < 1316 → ¬ (a = 1262 ∨ 1310 ≤ a) → hi (wmS (hsi G 1262 0 0) f1 f2 ct (sg 0 3) pl) a = hi G a := by
        intro a h1 h2
        unfold wmS ENm
        simp (maxSteps := 4000000) (disch := omega) only [hi_hsi_ne, hi_hri_ne]
      refine H.most (h' := h) ?_ (Or.inl ⟨rfl, F2 2 (by decide)⟩) ?_ ?_ (H.2.2.2.2.2.1.cg ?_ ?_) ?_ ?_ ?_
      · unfold wmS ENm
        simp only [LY_si, LY_ri]
        exact GL.1
      · unfold wmS ENm
        simp only [hr_hsi, hr_hri]
        rw [GL.2.1]
        exact ⟨rfl, rfl⟩
      · intro a ha hb
        rw [F1 a ha (by omega), Gh a ha (by omega)]
      · intro k h1 h2
        rw [F1 0 (by decide) (by decide), Gh 0 (by decide) (by decide)]
      · intro k hk'
        exact F2 k (by omega)
      · intro k hk'
        exact F2 k (by omega)
      · intro a ha hb
        unfold wmS ENm
        simp only [hj_hsi, hj_hri]
        exact Gj a ha hb
      · refine Or.inr ⟨n, 0, fun _ => 3, fun _ => sg 0 3, fun _ => 0, fun _ => pl, ⟨?_, ?_, ?_, n4, ?_, ?_, fun k hk' => ⟨?_, ?_⟩, by rw [mcb]; exact z⟩, ?_, ?_, fun i hi' => ?_⟩
        · rw [F2 81 (by decide)]; exact q1.1
        · rw [F2 7 (by decide)]; exact q1.2.1
        · rw [F1 1256 (by decide) (by decide), Gh 1256 (by decide) (by decide)]; exact q1.2.2.1
        · rw [F2 75 (by decide)]; exact q1.2.2.2.2.1
        · rw [F2 80 (by decide)]; exact q1.2.2.2.2.2.1
        · rw [mcb]
          unfold wmS ENm
          simp (disch := decide) only [hi_hri_ne, hi_hsi_ne, hi_hri_eq]
          exact fy k hk'
        · rw [mcb]
          unfold wmS ENm
          simp (disch := decide) only [hi_hri_ne, hi_hsi_ne, hi_hri_eq]
          exact ef2 k hk'
        · rw [F1 1255 (by decide) (by decide)]; exact Gc.1
        · unfold wmS ENm
          simp (disch := decide) only [hi_at]
        · have i0 : i = 0 := by omega
          subst i0
          refine ⟨?_, ?_, by rw [mcb]; exact nv⟩
          · rw [F1 1258 (by decide) (by decide), F1 1259 (by decide) (by decide), F1 1260 (by decide) (by decide), F1 1261 (by decide) (by decide)]
            exact ⟨Gc.2.1, Gc.2.2.1, Gc.2.2.2.1, Gc.2.2.2.2⟩
          · unfold wmS ENm
            simp (disch := decide) only [hi_hsi_ne, hi_at]
            exact ⟨trivial, trivial, by decide, trivial⟩
    · unfold wmS ENm
      refine ⟨?_, ?_⟩
      · simp only [hz_hsi, hz_hri]; have := GL.2.2.1; omega
      · simp only [hw_hsi, hw_hri]; have := GL.2.2.2; omega
  · obtain ⟨f', ec, ecb⟩ := cF z
    generalize hY : cb (hri g 1257 f) 1257 = y2 at *
    have MM : MR (hsi (hri g3 1257 f') 1262 0 0) n a (cb h 1257) sg sd s0 o0 e0 p0 := by
      refine (M.gen (fun a h1 h2 => ?_) (fun k hk' => ?_) ?_).th
      · rw [hi_hri_ne (by omega)]; exact kh a (by omega) (by omega) (by omega)
      · rw [hi_hri_ne (by decide), kh 1262 (by decide) (by decide) (by decide)]
      · rw [hj_hri]; exact kj 1291 (by decide) (by decide)
    have em0 := zw _ MM
    rw [if_pos r0] at em0
    obtain ⟨f1, fy, mF, -⟩ := m_write (m := hsi (hri g3 1257 f') 1262 0 0) (y := cb h 1257) (y2 := y2) (v := v) MM.1 W ho hq (by rw [hi_nk (by decide), hi_hri_ne (by decide), kh 1262 (by decide) (by decide) (by decide)]; exact q1.2.2.2.2.2.1) (fun k hk' => by rw [hi_hsi_ne (by decide), hi_hri_ne (by decide), kh 1311 (by decide) (by decide) (by decide)]; exact (q1.2.2.2.2.2.2.1 k hk').2) y256 p1 ey2
    obtain ⟨f2, em, ef2⟩ := mF z
    refine ⟨0, _, _, ec, em0.trans em, ⟨S, sg, sd, ?_⟩, ?_⟩
    · generalize hX : jA sg y2 n = X at *
      have m57 : hi (wmF (hsi (hri g3 1257 f') 1262 0 0) f1 f2 n X) 1257 = f' := by
        unfold wmF
        simp (disch := decide) only [hi_hsi_ne, hi_hri_ne]
        exact hi_hri_eq
      have mcb : cb (wmF (hsi (hri g3 1257 f') 1262 0 0) f1 f2 n X) 1257 = cb h 1257 := by
        rw [← ecb]
        exact cb_of (m57.trans hi_hri_eq.symm)
      have F2 : ∀ k, ¬ (k = 0 ∨ k = 75 ∨ k = 76 ∨ k = 77 ∨ k = 78) → hi (wmF (hsi (hri g3 1257 f') 1262 0 0) f1 f2 n X) 1262 k = hi h 1262 k := by
        intro k hk'
        unfold wmF
        simp (maxSteps := 4000000) (disch := omega) only [hi_nk, hi_hri_ne, hi_hsi_ne]
        rw [kh 1262 (by decide) (by decide) (by decide)]
      have F1 : ∀ a, a < 1316 → ¬ (a = 1262 ∨ a = 1310 ∨ a = 1255 ∨ a = 1257) → hi (wmF (hsi (hri g3 1257 f') 1262 0 0) f1 f2 n X) a = hi h a := by
        intro a h1 h2
        unfold wmF
        simp (maxSteps := 4000000) (disch := omega) only [hi_hsi_ne, hi_hri_ne]
        exact kh a h1 (by omega) (by omega)
      have F5 : hi (wmF (hsi (hri g3 1257 f') 1262 0 0) f1 f2 n X) 1255 5 = nI a := by
        unfold wmF
        simp (disch := decide) only [hi_hsi_ne, hi_hri_ne]
        rw [k55, e5]
        exact ea
      refine H.most (h' := h) ?_ (Or.inl ⟨rfl, F2 2 (by decide)⟩) ?_ ?_ (H.2.2.2.2.2.1.cg ?_ ?_) ?_ ?_ ?_
      · unfold wmF
        simp only [LY_si, LY_ri]
        exact L3
      · unfold wmF
        simp only [hr_hsi, hr_hri]
        rw [kr]
        exact ⟨rfl, rfl⟩
      · intro a ha hb
        exact F1 a ha (by omega)
      · intro k h1 h2
        rw [F1 0 (by decide) (by decide)]
      · intro k hk'
        exact F2 k (by omega)
      · intro k hk'
        exact F2 k (by omega)
      · intro a ha hb
        unfold wmF
        simp only [hj_hsi, hj_hri]
        exact kj a ha hb
      · refine Or.inr ⟨n, a, so, o, e, p, ⟨?_, ?_, ?_, n4, ?_, ?_, fun k hk' => ⟨?_, ?_⟩, by rw [mcb]; exact q1.2.2.2.2.2.2.2⟩, F5, ?_, ?_⟩
        · rw [F2 81 (by decide)]; exact q1.1
        · rw [F2 7 (by decide)]; exact q1.2.1
        · rw [F1 1256 (by decide) (by decide)]; exact q1.2.2.1
        · unfold wmF
          simp (disch := decide) only [hi_hri_ne, hi_at]
        · rw [F2 80 (by decide)]; exact q1.2.2.2.2.2.1
        · rw [mcb]
          unfold wmF
          rw [hi_hri_eq]
          exact ef2 k hk'
        · rw [mcb, F1 1311 (by decide) (by decide)]
          exact (q1.2.2.2.2.2.2.1 k hk').2
        · rw [F2 87 (by decide)]; exact M.2.1.1
        · unfold RRn
          rw [mcb, F1 1258 (by decide) (by decide), F1 1259 (by decide) (by decide), F1 1260 (by decide) (by decide), F1 1261 (by decide) (by decide), F1 1312 (by decide) (by decide), F1 1313 (by decide) (by decide), F1 1314 (by decide) (by decide), F1 1315 (by decide) (by decide)]
          exact Rn
    · unfold wmF
      refine ⟨?_, ?_⟩
      · simp only [hz_hsi, hz_hri]; omega
      · simp only [hw_hsi, hw_hri]; omega
end Wr
