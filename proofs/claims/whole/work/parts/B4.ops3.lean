/-! Calls: node, has, up -/
section Gen
variable {h g : XH} {S : Nat} {sg : SGT} {sd : Nat → Int64}
theorem RA.gen (H : RA h S sg sd) (L : LY g) (hr0 : hr g 0 4 = hr h 0 4 ∧ hr g 0 5 = hr h 0 5) (e : ∀ a, a < 1316 → a ≠ 1255 → hi g a = hi h a) (e5 : hi g 1255 5 = hi h 1255 5) (ej : ∀ a, a < 1316 → a ≠ 1255 → hj g a = hj h a) : RA g S sg sd := by
  have hS := H.sS
  obtain ⟨L0, K, a1, a2, a3, a4, a5, a6, a7⟩ := H
  have sc : SC g S := by
    rcases K.2.2 with q | q <;> subst q
    · exact L.2.2.2.2.2.1
    · exact L.2.2.2.2.2.2
  have k : ∀ k, hi g 1262 k = hi h 1262 k := fun k => by rw [e 1262 (by decide) (by decide)]
  exact ⟨L, by rw [hr0.1, hr0.2]; exact K, a1.cg (by rw [e 1 (by decide) (by decide)]) (k 2) (e 2 (by decide) (by decide)) (e 1263 (by decide) (by decide)), a2.cg (by rw [e 5 (by decide) (by decide)]) (k _) (ej 6 (by decide) (by decide)) (ej 1298 (by decide) (by decide)), a3.cg (by rw [e 3 (by decide) (by decide)]) (k _) (e 4 (by decide) (by decide)) (e 1308 (by decide) (by decide)), a4.cg (fun j _ _ => by rw [e 0 (by decide) (by decide)]) (fun j _ => k j), a5.cg sc (fun a h1 h2 => e a (by omega) (by omega)) (fun a h1 h2 => ej a (by omega) (by omega)) (fun j _ _ => k j) (fun a h1 h2 => e a (by omega) (by omega)) (ej _ (by decide) (by decide)), a6.cg (fun j _ => by rw [e 1244 (by decide) (by decide)]) (fun a h1 h2 => e a (by omega) (by omega)) (fun j _ => k j) (fun a h1 h2 => e a (by omega) (by omega)), a7.cg e5 (by rw [e 1256 (by decide) (by decide)]) (fun a h1 h2 => e a (by omega) (by omega)) (fun j _ => k j) (fun a h1 h2 => e a (by omega) (by omega))⟩
theorem RA.lc (H : RA h S sg sd) (C : LC h g) (e5 : hi g 1255 5 = hi h 1255 5) : RA g S sg sd :=
  H.gen (by rw [C.ly]; exact H.1) (by rw [C.z.2.2.2.2]; exact ⟨rfl, rfl⟩) (fun a _ ha => C.hi ha) e5 (fun a _ ha => C.hj ha)
/-- what the law writes down of an answer -/
def OW (h g : XH) : Prop := g = h ∨ ∃ w, g = hsj h 1316 0 w
theorem RA.ow (H : RA h S sg sd) (C : OW h g) : RA g S sg sd := by
  rcases C with q | ⟨w, q⟩ <;> subst q
  · exact H
  · exact H.gen (by rw [LY_sj]; exact H.1) ⟨rfl, rfl⟩ (fun a _ _ => rfl) rfl (fun a h1 _ => hj_hsj_ne (by omega))
theorem hthr_hi {a : Nat} (ha : a < hz h) : hi (hthr h) a = hi h a := by
  show x1 _ _ _ _ = _
  unfold x1
  rw [if_neg (by unfold hz at ha; omega)]
  rfl
theorem hthr_hj {a : Nat} (ha : a < hz h) : hj (hthr h) a = hj h a := by
  show x1 _ _ _ _ = _
  unfold x1
  rw [if_neg (by unfold hz at ha; omega)]
  rfl
theorem hthr_hr {a : Nat} (ha : a < hz h) : hr (hthr h) a = hr h a := by
  show x1 _ _ _ _ = _
  unfold x1
  rw [if_neg (by unfold hz at ha; omega)]
  rfl
theorem hnew_kp {k n : Nat} : KP h (hnew h k n) (hz h) := by
  intro b hb
  have e : ¬ b = h.1 := by unfold hz at hb; omega
  refine ⟨?_, ?_, fun j => ?_, fun j => ?_, fun j => ?_⟩
  · show x1 _ _ _ _ = _; unfold x1; rw [if_neg e]; rfl
  · show x1 _ _ _ _ = _; unfold x1; rw [if_neg e]; rfl
  · have q : hi (hnew h k n) b = hi h b := by show x1 _ _ _ _ = _; unfold x1; rw [if_neg e]; rfl
    rw [q]
  · have q : hj (hnew h k n) b = hj h b := by show x1 _ _ _ _ = _; unfold x1; rw [if_neg e]; rfl
    rw [q]
  · have q : hr (hnew h k n) b = hr h b := by show x1 _ _ _ _ = _; unfold x1; rw [if_neg e]; rfl
    rw [q]
theorem LY.thr (L : LY h) (hm : hz h < 1000000) : LY (hthr h) := by
  refine L.keep (h2 := hthr h) (fun b hb => hnew_kp b (Nat.lt_of_lt_of_le hb L.1)) ?_ ?_
  · show 1317 ≤ hz h + 1
    have := L.1
    omega
  · show hz h + 1 ≤ 1000000
    omega
theorem RA.thr (H : RA h S sg sd) (hm : hz h < 1000000) : RA (hthr h) S sg sd := by
  have l := H.1.1
  exact H.gen (H.1.thr hm) (by rw [hthr_hr (by omega)]; exact ⟨rfl, rfl⟩) (fun a ha _ => hthr_hi (by omega)) (by rw [hthr_hi (by omega)]) (fun a ha _ => hthr_hj (by omega))
/-- a buffer stands: the node at hand on both sides -/
theorem RA.rd (H : RA h S sg sd) : (hi h 1262 81 = 0 ∧ hi h 1255 5 = -1 ∧ hi h 1256 1 = 0) ∨ ∃ (n a : Nat) (so o e p : Nat → Nat), WF sg sd ∧ RRl h sg n ∧ RRn h sg n a so o e p ∧ RC h S n a (cb h 1257) sg sd (so a) (o a) (e a) (p a) ∧ MR h n a (cb h 1257) sg sd (so a) (o a) (e a) (p a) ∧ NV sg (cb h 1257) n a (so a) (o a) (e a) (p a) := by
  have hS := H.sS
  obtain ⟨L, K, a1, a2, a3, a4, a5, a6, a7⟩ := H
  rcases a7 with q | ⟨n, a, so, o, e, p, q1, q2, q3, q4⟩
  · exact Or.inl ⟨q.1, q.2.1, q.2.2.1⟩
  · refine Or.inr ⟨n, a, so, o, e, p, ?_⟩
    rcases a5 with w | ⟨w1, w2, w3, w4, w5, w6⟩
    · have := w.1
      have := q1.2.1
      rw [w.1] at this
      cases this
    · obtain ⟨c1, c2, c3⟩ := q4 a (Nat.le_refl a)
      have a43 := c3.lt
      exact ⟨w4, q1, q4, ⟨⟨q2, a43⟩, c1, L.b1256, rfl, q1.2.2.2.1, by omega, w2⟩, ⟨⟨⟨q1.2.2.2.2.1, q1.2.2.2.1⟩, cb_lt h 1257, fun k hk' => (q1.2.2.2.2.2.2.1 k hk').1, w3⟩, ⟨q3, a43⟩, c2, q1.1⟩, c3⟩
theorem MC.gen {n : Nat} {y : Nat → Nat} (M : MC h n y sg sd) (e : ∀ a, 1263 ≤ a → a ≤ 1315 → hi g a = hi h a) (ek : ∀ k, 3 ≤ k → hi g 1262 k = hi h 1262 k) (ej : hj g 1291 = hj h 1291) : MC g n y sg sd := by
  obtain ⟨⟨m1, m2⟩, m3, m4, m5⟩ := M
  refine ⟨⟨by rw [ek 75 (by decide)]; exact m1, m2⟩, m3, fun k hk' => by rw [e 1310 (by decide) (by decide)]; exact m4 k hk', m5.cg (fun a h1 h2 => e a h1 (by omega)) ej ⟨ek _ (by decide), ek _ (by decide), ek _ (by decide), ek _ (by decide)⟩⟩
theorem MR.gen {n a : Nat} {y : Nat → Nat} {so o e p : Nat} (M : MR h n a y sg sd so o e p) (e' : ∀ a, 1263 ≤ a → a ≤ 1315 → hi g a = hi h a) (ek : ∀ k, 3 ≤ k → hi g 1262 k = hi h 1262 k) (ej : hj g 1291 = hj h 1291) : MR g n a y sg sd so o e p := by
  obtain ⟨m1, m2, m3, m4⟩ := M
  refine ⟨m1.gen e' ek ej, ?_, ?_, ?_⟩
  · rw [ek 87 (by decide)]; exact m2
  · rw [e' 1312 (by decide) (by decide), e' 1313 (by decide) (by decide), e' 1314 (by decide) (by decide), e' 1315 (by decide) (by decide)]; exact m3
  · rw [ek 81 (by decide)]; exact m4
theorem MR.th {n a : Nat} {y : Nat → Nat} {so o e p : Nat} {v : Int32} (M : MR h n a y sg sd so o e p) : MR (hsi h 1262 0 v) n a y sg sd so o e p :=
  M.gen (fun a h1 h2 => hi_hsi_ne (by omega)) (fun k hk' => hi_nk (by omega)) rfl
theorem MR.lc {n a : Nat} {y : Nat → Nat} {so o e p : Nat} (M : MR h n a y sg sd so o e p) (C : LC h g) : MR g n a y sg sd so o e p :=
  M.gen (fun a h1 h2 => C.hi (by omega)) (fun k hk' => by rw [C.hi (by decide)]) (C.hj (by decide))
theorem MR.ow {n a : Nat} {y : Nat → Nat} {so o e p : Nat} (M : MR h n a y sg sd so o e p) (C : OW h g) : MR g n a y sg sd so o e p := by
  rcases C with q | ⟨w, q⟩ <;> subst q
  · exact M
  · exact M.gen (fun a h1 h2 => rfl) (fun k hk' => rfl) (hj_hsj_ne (by decide))
end Gen
section Ops
variable {h : XH}
theorem RM.lc {h g : XH} (C : LC h g) : RM h (hsi g 1262 0 0) := RM.same (by rw [hz_hsi]; exact C.z.1) (by rw [hw_hsi]; exact C.z.2.1)
theorem e_r_isAtHand0 (e : hi h 1255 5 = -1) : f_r_isAtHand h = some (0, h) := by
  unfold f_r_isAtHand
  rw [e]
  exact o_pos (by decide) rfl
theorem op_node {x : Int32} (H : RX h) : ∃ r h1 h2, f_t_node x h = some (r, h1) ∧ f_m_node x h1 = some (r, h2) ∧ RX h2 ∧ RM h h2 := by
  obtain ⟨S, sg, sd, H⟩ := H
  rcases H.rd with ⟨q1, q2, q3⟩ | ⟨n, a, so, o, e, p, W, q1, q2, R, M, v⟩
  · refine ⟨-1, h, hsi h 1262 0 0, ?_, ?_, ⟨S, sg, sd, H.th⟩, RM.same rfl rfl⟩
    · unfold f_t_node f_r_tell
      exact o_bind H.2.1.1 (o_bind (o_bind (e_r_isAtHand0 q2) (o_neg (not_not_intro rfl) rfl)) rfl)
    · unfold f_m_node
      exact o_neg (not_not_intro q1) rfl
  · have M2 := M.th (v := 0)
    have s5 := v.so5.1
    have e81 : ¬ hi h 1262 81 = 0 := by rw [q1.1]; exact one0
    have nd : ∀ (r : Int32), f_r_tell S x h = some (r, h) → f_m_node x h = some (r, hsi h 1262 0 0) → ∃ r h1 h2, f_t_node x h = some (r, h1) ∧ f_m_node x h1 = some (r, h2) ∧ RX h2 ∧ RM h h2 := by
      intro r z1 z2
      refine ⟨r, h, hsi h 1262 0 0, ?_, z2, ⟨S, sg, sd, H.th⟩, RM.same rfl rfl⟩
      unfold f_t_node
      exact o_bind H.2.1.1 (o_bind z1 rfl)
    have a43 := R.1.2
    have r5 := R.1.1
    have ca : (nI a).toNatClampNeg = a := nI_clamp (by omega)
    unfold f_r_tell f_m_node at nd
    by_cases c0 : x = 0
    · exact nd _ (o_bind (e_r_isAtHand R) (o_pos one0 (o_pos c0 (o_bind (e_r_nodeKind R s5) rfl)))) (o_pos e81 (o_pos c0 (o_bind (e_m_sort M2) (o_bind (e_m_told s5) rfl))))
    · by_cases c1 : x = 1
      · refine nd (nI (o a)) (o_bind (e_r_isAtHand R) (o_pos one0 (o_neg c0 (o_pos c1 ?_)))) (o_pos e81 (o_neg c0 (o_pos c1 (o_bind (e_m_of M2) rfl))))
        dsimp only
        rw [r5, ca, R.2.1.2.1]
        exact o_pos (by (first | (simp (maxSteps := 4000000) (disch := omega) only [n_0, n_1, n_2, n_3, n_4, n_5, n_6, n_7, n_8, n_9, n_10, n_11, n_12, n_13, n_14, n_15, n_16, n_18, n_20, n_24, n_31, n_32, n_34, n_40, n_41, n_44, n_45, n_47, n_48, n_57, n_58, n_59, n_61, n_63, n_64, n_65, n_68, n_90, n_91, n_93, n_95, n_97, n_100, n_122, n_123, n_125, n_128, n_144, n_200, n_255, n_256, n_300, n_400, n_600, n_1536, n_3980, n_4000, n_4001, n_4300, n_65536, l_0, l_1, l_2, l_3, l_4, l_10, l_48, l_63, l_255, l_300, nI_ltI, nI_leI, nI_eq, nI_clamp, nI_add, pk_sub, pk_mul, nI_ne1, ne1_nI, nI_pge, nI_nlt0, nI_l, lN_i, lN_add, lN_mul, lN_sub, pk_lLT, pk_lLE, pk_lEQ, lg_lt, lg_ge, lg_eq0, lg_le, lg_gt, lg_ltn, lg_gen, lg_eq0n, lg_len, lg_gtn, Nat.zero_le, Nat.not_lt_zero, not_false_eq_true, not_true_eq_false, true_and, and_true]; done) | (simp (maxSteps := 4000000) (disch := omega) only [n_0, n_1, n_2, n_3, n_4, n_5, n_6, n_7, n_8, n_9, n_10, n_11, n_12, n_13, n_14, n_15, n_16, n_18, n_20, n_24, n_31, n_32, n_34, n_40, n_41, n_44, n_45, n_47, n_48, n_57, n_58, n_59, n_61, n_63, n_64, n_65, n_68, n_90, n_91, n_93, n_95, n_97, n_100, n_122, n_123, n_125, n_128, n_144, n_200, n_255, n_256, n_300, n_400, n_600, n_1536, n_3980, n_4000, n_4001, n_4300, n_65536, l_0, l_1, l_2, l_3, l_4, l_10, l_48, l_63, l_255, l_300, nI_ltI, nI_leI, nI_eq, nI_clamp, nI_add, pk_sub, pk_mul, nI_ne1, ne1_nI, nI_pge, nI_nlt0, nI_l, lN_i, lN_add, lN_mul, lN_sub, pk_lLT, pk_lLE, pk_lEQ, lg_lt, lg_ge, lg_eq0, lg_le, lg_gt, lg_ltn, lg_gen, lg_eq0n, lg_len, lg_gtn, Nat.zero_le, Nat.not_lt_zero, not_false_eq_true, not_true_eq_false, true_and, and_true]; omega) | omega)) rfl
      · by_cases c2 : x = 2
        · refine nd (nI (p a)) (o_bind (e_r_isAtHand R) (o_pos one0 (o_neg c0 (o_neg c1 (o_pos c2 ?_))))) (o_pos e81 (o_neg c0 (o_neg c1 (o_pos c2 (o_bind (e_m_place M2) rfl)))))
          dsimp only
          rw [r5, ca, R.2.1.2.2.2]
          exact o_pos (by (first | (simp (maxSteps := 4000000) (disch := omega) only [n_0, n_1, n_2, n_3, n_4, n_5, n_6, n_7, n_8, n_9, n_10, n_11, n_12, n_13, n_14, n_15, n_16, n_18, n_20, n_24, n_31, n_32, n_34, n_40, n_41, n_44, n_45, n_47, n_48, n_57, n_58, n_59, n_61, n_63, n_64, n_65, n_68, n_90, n_91, n_93, n_95, n_97, n_100, n_122, n_123, n_125, n_128, n_144, n_200, n_255, n_256, n_300, n_400, n_600, n_1536, n_3980, n_4000, n_4001, n_4300, n_65536, l_0, l_1, l_2, l_3, l_4, l_10, l_48, l_63, l_255, l_300, nI_ltI, nI_leI, nI_eq, nI_clamp, nI_add, pk_sub, pk_mul, nI_ne1, ne1_nI, nI_pge, nI_nlt0, nI_l, lN_i, lN_add, lN_mul, lN_sub, pk_lLT, pk_lLE, pk_lEQ, lg_lt, lg_ge, lg_eq0, lg_le, lg_gt, lg_ltn, lg_gen, lg_eq0n, lg_len, lg_gtn, Nat.zero_le, Nat.not_lt_zero, not_false_eq_true, not_true_eq_false, true_and, and_true]; done) | (simp (maxSteps := 4000000) (disch := omega) only [n_0, n_1, n_2, n_3, n_4, n_5, n_6, n_7, n_8, n_9, n_10, n_11, n_12, n_13, n_14, n_15, n_16, n_18, n_20, n_24, n_31, n_32, n_34, n_40, n_41, n_44, n_45, n_47, n_48, n_57, n_58, n_59, n_61, n_63, n_64, n_65, n_68, n_90, n_91, n_93, n_95, n_97, n_100, n_122, n_123, n_125, n_128, n_144, n_200, n_255, n_256, n_300, n_400, n_600, n_1536, n_3980, n_4000, n_4001, n_4300, n_65536, l_0, l_1, l_2, l_3, l_4, l_10, l_48, l_63, l_255, l_300, nI_ltI, nI_leI, nI_eq, nI_clamp, nI_add, pk_sub, pk_mul, nI_ne1, ne1_nI, nI_pge, nI_nlt0, nI_l, lN_i, lN_add, lN_mul, lN_sub, pk_lLT, pk_lLE, pk_lEQ, lg_lt, lg_ge, lg_eq0, lg_le, lg_gt, lg_ltn, lg_gen, lg_eq0n, lg_len, lg_gtn, Nat.zero_le, Nat.not_lt_zero, not_false_eq_true, not_true_eq_false, true_and, and_true]; omega) | omega)) rfl
        · by_cases c3 : x = 3
          · exact nd _ (o_bind (e_r_isAtHand R) (o_pos one0 (o_neg c0 (o_neg c1 (o_neg c2 (o_pos c3 (o_bind (e_r_partCount R W v) rfl))))))) (o_pos e81 (o_neg c0 (o_neg c1 (o_neg c2 (o_pos c3 (o_bind (e_m_parts M2 W v) rfl))))))
          · by_cases c4 : x = 4
            · refine nd (nI a) (o_bind (e_r_isAtHand R) (o_pos one0 (o_neg c0 (o_neg c1 (o_neg c2 (o_neg c3 (o_pos c4 ?_))))))) (o_pos e81 (o_neg c0 (o_neg c1 (o_neg c2 (o_neg c3 (o_pos c4 ?_))))))
              · show some (hi h 1255 5, h) = _
                rw [r5]
              · rw [M.2.1.1, a_m]
            · exact nd (-1) (o_bind (e_r_isAtHand R) (o_pos one0 (o_neg c0 (o_neg c1 (o_neg c2 (o_neg c3 (o_neg c4 rfl))))))) (o_pos e81 (o_neg c0 (o_neg c1 (o_neg c2 (o_neg c3 (o_neg c4 rfl))))))
theorem e_r_locate0 {S : Nat} {x : Int32} (e : hi h 1255 5 = -1) : f_r_locate S x h = some (0, h) := by
  unfold f_r_locate
  exact o_bind (e_r_isAtHand0 e) (o_pos rfl rfl)
theorem e_m_isPart0 {x : Int32} (e : hi h 1262 81 = 0) : f_m_isPart x h = some (0, h) := by
  unfold f_m_isPart
  exact o_pos e rfl
theorem sA_n {y : Nat → Nat} {p s : Nat} (hp : p ≤ 4000) (hy : ∀ k, y k < 256) : (sA y p s = -1) = (fr y (la y p) s = 0) := by
  have fl := fr_lt hy (l := la y p) (s := s)
  unfold sA
  by_cases c : fr y (la y p) s = 0
  · rw [if_pos c]; exact propext ⟨fun _ => c, fun _ => rfl⟩
  · rw [if_neg c]; exact propext ⟨fun z => absurd z (nI_n1 (by omega)), fun z => absurd z c⟩
theorem op_has {x : Int32} (H : RX h) : ∃ r h1 h2, f_t_has x h = some (r, h1) ∧ f_m_has x h1 = some (r, h2) ∧ RX h2 ∧ RM h h2 := by
  obtain ⟨S, sg, sd, H⟩ := H
  have no : f_r_locate S x h = some (0, h) → f_m_isPart x (hsi h 1262 0 0) = some (0, hsi h 1262 0 0) → ∃ r h1 h2, f_t_has x h = some (r, h1) ∧ f_m_has x h1 = some (r, h2) ∧ RX h2 ∧ RM h h2 := by
    intro z1 z2
    refine ⟨-1, h, hsi h 1262 0 0, ?_, ?_, ⟨S, sg, sd, H.th⟩, RM.same rfl rfl⟩
    · unfold f_t_has
      exact o_bind H.2.1.1 (o_bind z1 (o_neg (not_not_intro rfl) rfl))
    · unfold f_m_has
      exact o_bind z2 (o_neg (not_not_intro rfl) rfl)
  rcases H.rd with ⟨q1, q2, q3⟩ | ⟨n, a, so, o, e, p, W, q1, q2, R, M, v⟩
  · exact no (e_r_locate0 q2) (e_m_isPart0 (by rw [hi_nk (by decide)]; exact q1))
  · have pl := v.pcl W q1.2.2.2.1
    have n4 := q1.2.2.2.1
    have hit : ∀ (g : XH) (b : Prop), f_r_locate S x h = some (1, g) → LC h g → hi g 1255 5 = hi h 1255 5 → (hi g 1255 8 = -1 ↔ ¬ b) → (b → f_m_has x g = some (1, hsi g 1262 0 0)) → (¬ b → f_m_has x g = some (0, hsi g 1262 0 0)) → ∃ r h1 h2, f_t_has x h = some (r, h1) ∧ f_m_has x h1 = some (r, h2) ∧ RX h2 ∧ RM h h2 := by
      intro g b z1 z2 z3 z4 z5 z6
      by_cases c : b
      · refine ⟨1, g, hsi g 1262 0 0, ?_, z5 c, ⟨S, sg, sd, (H.lc z2 z3).th⟩, RM.lc z2⟩
        unfold f_t_has
        exact o_bind H.2.1.1 (o_bind z1 (o_pos one0 (o_pos (fun w => (z4.mp w) c) rfl)))
      · refine ⟨0, g, hsi g 1262 0 0, ?_, z6 c, ⟨S, sg, sd, (H.lc z2 z3).th⟩, RM.lc z2⟩
        unfold f_t_has
        exact o_bind H.2.1.1 (o_bind z1 (o_pos one0 (o_neg (not_not_intro (z4.mpr c)) rfl)))
    unfold f_m_has at hit
    rcases x32 x (pc sg (cb h 1257) (so a) (o a) (p a)) (by omega) with c | c | ⟨k, hk', ek⟩
    · exact no (e_r_locate_no R W v (Or.inl c)) (e_m_isPart_no M.th W v (Or.inl c))
    · exact no (e_r_locate_no R W v (Or.inr c)) (e_m_isPart_no M.th W v (Or.inr c))
    · subst ek
      have v2 := v
      have p4k : ¬ so a = 2 → p a + 4 ≤ n := v.p4
      generalize es : so a = sa at *
      generalize eo : o a = oa at *
      generalize ee : e a = ea at *
      generalize ep : p a = pa at *
      rcases v2 with ⟨s3, e0, d, d2, T⟩ | ⟨s3, e1, d, d2, T⟩ | ⟨s3, e0, o0, d2, T⟩ | ⟨s3, e0, ho, d2, T⟩
      · subst s3
        subst e0
        have hk2 : k < sg 10 oa := hk'
        have ho := T.2.2.2.1
        by_cases h4 : sg 12 (16 * oa + k) = 4
        · have C : LC h (fndU h sg sd (cb h 1257) pa (16 * oa + k)) := (((fnd_lc.sj).si).si).si
          have M2 := (M.lc C).th (v := 0)
          have ok := (T.2.2.2.2 k hk2).uni h4
          refine hit _ (¬ jwh (cb h 1257) pa (la (cb h 1257) pa) (sg 15 (16 * oa + k)) = 0) (e_r_locate_U R W T d2 hk2 h4) C rfl ?_ (fun b => ?_) (fun b => ?_)
          · show (if jwh (cb h 1257) pa (la (cb h 1257) pa) (sg 15 (16 * oa + k)) = 0 then (-1 : Int32) else nI _) = -1 ↔ _
            by_cases c : jwh (cb h 1257) pa (la (cb h 1257) pa) (sg 15 (16 * oa + k)) = 0
            · rw [if_pos c]; exact ⟨fun _ => not_not_intro c, fun _ => rfl⟩
            · rw [if_neg c]
              have jk := jw_ok (ok.2.2 c).2.1
              have jj := jl_ok T.2.2.1
              have fn := fr_ne (ok.2.2 c).1
              exact ⟨fun z => absurd z (nI_n1 (by omega)), fun z => absurd c z⟩
          · refine o_bind (e_m_isPart M2 W v hk') (o_pos one0 (o_bind (e_m_partSort_T M2 W ho hk2) (o_neg (by rw [h4]; exact not_not_intro rfl) (o_bind (e_m_which_U M2 W T hk2 h4) (o_pos ?_ rfl)))))
            have := ok.2.1
            have y8 : jwh (cb h 1257) pa (la (cb h 1257) pa) (sg 15 (16 * oa + k)) < 256 := by
              unfold jwh
              split
              · decide
              · exact cb_lt _ _ _
            exact nI_ne0 (by omega) (by omega)
          · exact o_bind (e_m_isPart M2 W v hk') (o_pos one0 (o_bind (e_m_partSort_T M2 W ho hk2) (o_neg (by rw [h4]; exact not_not_intro rfl) (o_bind (e_m_which_U M2 W T hk2 h4) (o_neg (by rw [Classical.not_not.mp b]; exact not_not_intro rfl) rfl)))))
        · have C : LC h (hsj (fnd h (nI (sg 12 (16 * oa + k))) (nI (sg 13 (16 * oa + k))) (nI (sg 14 (16 * oa + k)) - 1) (sA (cb h 1257) pa (sg 15 (16 * oa + k)))) 1255 10 (sd (16 * oa + k))) := fnd_lc.sj
          have M2 := (M.lc C).th (v := 0)
          have s5 : sg 12 (16 * oa + k) ≤ 5 := by rcases W.fk ho hk2 with k | ⟨-, -, ⟨e, -⟩ | ⟨e, -⟩ | ⟨e, -⟩ | ⟨e, -⟩⟩ | k <;> omega
          have sn := sA_n (s := sg 15 (16 * oa + k)) (show pa ≤ 4000 by have := T.2.1; omega) (cb_lt h 1257)
          refine hit _ (¬ fr (cb h 1257) (la (cb h 1257) pa) (sg 15 (16 * oa + k)) = 0) (e_r_locate_T R W T d2 hk2 h4) C rfl ?_ (fun b => ?_) (fun b => ?_)
          · show sA _ _ _ = -1 ↔ _
            rw [sn]
            exact ⟨fun z => not_not_intro z, Classical.not_not.mp⟩
          · exact o_bind (e_m_isPart M2 W v hk') (o_pos one0 (o_bind (e_m_partSort_T M2 W ho hk2) (o_pos (show ¬ nI _ = 4 from fun z => h4 ((nI_eq (b := 4) (by omega) (by decide)).mp z)) (o_bind (e_m_partAt_T M2 W T hk2) (o_pos (by rw [sn]; exact b) rfl)))))
          · exact o_bind (e_m_isPart M2 W v hk') (o_pos one0 (o_bind (e_m_partSort_T M2 W ho hk2) (o_pos (show ¬ nI _ = 4 from fun z => h4 ((nI_eq (b := 4) (by omega) (by decide)).mp z)) (o_bind (e_m_partAt_T M2 W T hk2) (o_neg (by rw [sn]; exact b) rfl)))))
      · subst s3
        have hk2 : k < nb (cb h 1257) 4 pa := hk'
        have C : LC h (fnd h (nI (ea - 1)) (nI oa) (-1) (nI (pa + 4 + k * zO sg (ea - 1) oa))) := fnd_lc
        have M2 := (M.lc C).th (v := 0)
        have k3 : ea - 1 ≤ 3 := by rcases T.2.2.2.1 with ⟨e, -⟩ | ⟨e, -⟩ | ⟨e, -⟩ | ⟨e, -⟩ <;> omega
        have kz : k * zO sg (ea - 1) oa ≤ nb (cb h 1257) 4 pa * zO sg (ea - 1) oa := Nat.mul_le_mul_right _ (by omega)
        have t3 := T.2.2.1
        refine hit _ True (e_r_locate_V R W e1 T d2 hk2) C rfl ?_ (fun b => ?_) (fun b => absurd trivial b)
        · show nI _ = -1 ↔ _
          exact ⟨fun z => absurd z (nI_n1 (by omega)), fun z => absurd trivial z⟩
        · exact o_bind (e_m_isPart M2 W v hk') (o_pos one0 (o_bind (e_m_partSort_V M2 e1) (o_pos (show ¬ nI _ = 4 from fun z => absurd ((nI_eq (b := 4) (by omega) (by decide)).mp z) (by omega)) (o_bind (e_m_partAt_V M2 W e1 T.2.2.2.1) (o_pos (nI_n1 (by omega)) rfl)))))
      · subst s3
        subst e0
        subst o0
        have hk2 : k < nb (cb h 1257) 4 pa := hk'
        have C : LC h (fnd h 6 0 (-1) (nI (pa + 4 + k))) := fnd_lc
        have M2 := (M.lc C).th (v := 0)
        refine hit _ True (e_r_locate_X R W v hk2) C rfl ?_ (fun b => ?_) (fun b => absurd trivial b)
        · show nI _ = -1 ↔ _
          exact ⟨fun z => absurd z (nI_n1 (by omega)), fun z => absurd trivial z⟩
        · exact o_bind (e_m_isPart M2 W v hk') (o_pos one0 (o_bind (e_m_partSort_X M2) (o_pos (show ¬ (0 : Int32) = 4 by decide) (o_bind (e_m_partAt_X M2) (o_pos (nI_n1 (by omega)) rfl)))))
      · subst s3
        subst e0
        have hk2 : k < sg 1 oa := hk'
        have C : LC h (hsj (fnd h (nI (sg 4 (12 * oa + k))) (nI (sg 5 (12 * oa + k))) (-1) (nI (pa + sg 6 (12 * oa + k)))) 1255 10 (hj h (dS S oa + 2 + k) 8)) := fnd_lc.sj
        have M2 := (M.lc C).th (v := 0)
        have f6 : sg 6 (12 * oa + k) ≤ 128 ∧ (sg 4 (12 * oa + k) = 0 ∨ sg 4 (12 * oa + k) = 2) := by
          have := (W.2.1 oa ho).1
          rcases (W.2.1 oa ho).2.1 k hk2 with z | z <;> omega
        refine hit _ True (e_r_locate_S R W ho v hk2) C rfl ?_ (fun b => ?_) (fun b => absurd trivial b)
        · show nI _ = -1 ↔ _
          exact ⟨fun z => absurd z (nI_n1 (by omega)), fun z => absurd trivial z⟩
        · exact o_bind (e_m_isPart M2 W v hk') (o_pos one0 (o_bind (e_m_partSort_S M2 W ho hk2) (o_pos (show ¬ nI _ = 4 from fun z => absurd ((nI_eq (b := 4) (by omega) (by decide)).mp z) (by omega)) (o_bind (e_m_partAt_S M2 W ho hk2) (o_pos (nI_n1 (by omega)) rfl)))))
end Ops
