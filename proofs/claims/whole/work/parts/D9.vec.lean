/-! Calls: vector -/

section Vec
variable {h g : XH} {S : Nat} {sg : SGT} {sd : Nat → Int64}
theorem OW.thj {u g : XH} (W : OW (hthr u) g) {a : Nat} (ha : a < hz u) (h6 : a ≠ 1316) : hj g a = hj u a := by
  rcases W with q | ⟨w, q⟩ <;> subst q
  · exact hthr_hj ha
  · rw [hj_hsj_ne h6]
    exact hthr_hj ha
/-- values are taken, and a throw -/
theorem vec_thw {α β : Type} {c : XH → Option (Sum α Nat × XH)} {m : XH → Option (β × XH)} {eq : α → β → Prop} {ks : List (Nat × Nat)} {mv j k : Nat} (H : RA h S sg sd) (hm : hz h < 900000) (w2 : hi h 1262 55 = nI mv) (hjk : (j, k) ∈ ks) (z1 : c h = some (Sum.inr j, hthr (hsi h 5 1 0))) (z2 : ∀ g, MSm h g → hi g 1262 55 = nI mv → ∃ w, m g = some (w, hsi (hsi (hsi g 1262 0 0) 1262 55 0) 1262 0 (nI k))) : TH h c m eq ks := by
  refine TH.no H hm (FRM.refl.si (by simp [cP])) hjk z1 (fun g1 W rd => ?_)
  have l0 := H.1.1
  have Q : MSm h g1 := ⟨fun a h1 h2 => by rw [rd a (by omega), hi_hsi_ne (by omega)], fun a ha => by rw [W.thj (by rw [hz_hsi]; omega) (by omega), hj_hsi], fun k _ _ _ => by rw [rd 1262 (by decide), hi_hsi_ne (by decide)]⟩
  obtain ⟨w, q⟩ := z2 g1 Q (by rw [rd 1262 (by decide), hi_hsi_ne (by decide)]; exact w2)
  refine ⟨w, _, q, ((FRM.refl.si (by simp [cP])).si (by simp [cP])).si (by simp [cP]), hi_at, fun X => X.tv0 H ?_ ?_ ?_ ?_⟩
  · rw [hi_hsi_ne (by decide), hi_hsi_ne (by decide), hi_hsi_ne (by decide), rd 1 (by decide), hi_hsi_ne (by decide)]
  · rw [hi_nk (by decide), hi_nk (by decide), hi_nk (by decide), rd 1262 (by decide), hi_hsi_ne (by decide)]
  · rw [hi_hsi_ne (by decide), hi_hsi_ne (by decide), hi_hsi_ne (by decide), rd 5 (by decide), hi_at]
  · rw [hi_nk (by decide), hi_at]
theorem e_w_takeAll {mv : Nat} (L : LY h) (w1 : hi h 5 1 = nI mv) : f_w_takeAll 5 h = some (nI mv, hsi h 5 1 0) := by
  unfold f_w_takeAll
  rw [w1]
  exact o_pos ⟨L.lt (by decide), L.k5⟩ rfl
theorem vec_case {x0 x1 yc : Int32} {each bytes al so n tc mv : Nat} {E : Nat → Prop} {EB : Nat → Nat → Nat → Nat} (H : RA h S sg sd) (hm : hz h < 900000) (b1 : RBr h n) (b2 : RBg h) (b3 : RBt h n tc sg) (b4 : RBl h n tc) (o : hi h 1244 10 = -1 ∧ hi h 1262 67 = -1) (v6 : mv ≤ 600) (w1 : hi h 5 1 = nI mv) (w2 : hi h 1262 55 = nI mv) (ex0 : x0 = nI so) (so3 : so ≤ 3) (hyc : (x0 = 1 ∧ yc = 0) ∨ (¬ x0 = 1 ∧ yc = x1)) (ab : al = 1 ∨ al = 2 ∨ al = 4 ∨ al = 8) (by1 : bytes ≤ 128) (e1 : 1 ≤ each) (e8 : each ≤ 128) (cV : f_t_valuesOfElement x0 x1 (hsi h 5 1 0) = some (nI each, hsi h 5 1 0)) (cE : ∀ m, mv = m * each → ∃ r : Int32, (r = 0 ∨ r = 1) ∧ (r = 1 ↔ ∀ i, i < m → E i) ∧ f_t_areElements x0 x1 (nI mv) (hsi h 5 1 0) = some (r, hsi h 5 1 0)) (mS : ∀ g, MSm h g → hi g 1262 55 = nI mv → f_m_vector x0 x1 g = b_m_vector_117 x0 x1 (nI mv) (nI each) (hsi (hsi g 1262 0 0) 1262 55 0)) (mE : ∀ m, mv = m * each → ∀ g, MSm h g → ∃ r : Int32, (r = 0 ∨ r = 1) ∧ (r = 1 ↔ ∀ i, i < m → E i) ∧ b_m_vector_136 100000 x0 x1 (nI mv) (nI each) 1 0 g = b_m_vector_215 x0 x1 (nI mv) (nI each) r g) (m215 : ∀ m, mv = m * each → ∀ g, MSm h g → b_m_vector_215 x0 x1 (nI mv) (nI each) 1 g = b_m_vector_285 x0 x1 (nI each) (nI m) (nI bytes) (nI al) g) (cB : f_s_bytesOf S x0 yc (hsi h 5 1 0) = some (nI bytes, hsi h 5 1 0)) (cA : f_s_alignmentOf S x0 yc (hsi h 5 1 0) = some (nI al, hsi h 5 1 0)) (pc : ∀ m N, mv = m * each → N = rU (n + m * bytes) (max 4 al) → N + 4 ≤ 4000 → n + m * bytes ≤ N → (∀ i, i < m → E i) → ∀ i, i < m → ∀ u, FRM uP (hsi h 5 1 0) u → (∀ j, j < bytes → cb u 1246 (4000 - N + i * bytes + j) = 0) → ∃ g, f_u_putContent S (nI (4000 - N + i * bytes)) x0 yc 5 (nI i) u = some ((), g) ∧ FRM (fun a _ => a = 1246) u g ∧ (∀ j, j < bytes → cb g 1246 (4000 - N + i * bytes + j) = EB N i j) ∧ ∀ k, k < 4000 - N + i * bytes ∨ 4000 - N + i * bytes + bytes ≤ k → hi g 1246 k = hi u 1246 k) (pm : ∀ m N, mv = m * each → N = rU (n + m * bytes) (max 4 al) → N + 4 ≤ 4000 → n + m * bytes ≤ N → (∀ i, i < m → E i) → ∀ i, i < m → ∀ g0 g K, MSm h g0 → FRM mV g0 g → hi g 1262 57 = nI (N - (i * bytes + bytes)) → ∃ g2, s_m_vector_370 K x0 x1 (nI each) (nI m) (nI bytes) (nI i) g = K x0 x1 (nI each) (nI m) (nI bytes) (nI i + -1) g2 ∧ FRM mP g g2 ∧ hi g2 1262 57 = nI (N - i * bytes) ∧ (∀ k, k < N - (i * bytes + bytes) → hi g2 1299 k = hi g 1299 k) ∧ ∀ j, j < bytes → hi g2 1299 (N - (i * bytes + bytes) + j) = nI (EB N i (bytes - 1 - j))) : TH h (f_t_vector x0 x1) (f_m_vector x0 x1) (fun v w => v = w) [(1, 1), (0, 2), (2, 3)] := by
  have L := H.1
  have hm1 : hz (hsi h 5 1 0) < 1000000 := by rw [hz_hsi]; omega
  have o1 : hi (hsi h 5 1 0) 1244 10 = -1 := by rw [hi_hsi_ne (by decide)]; exact o.1
  have cl : ∀ X : Option (Sum Int32 Nat × XH), (if ¬ nI (mv % each) = 0 then (b_t_vector_59 (hsi h 5 1 0)) else (Option.bind (f_t_areElements x0 x1 (nI mv) (hsi h 5 1 0)) fun r23 => (if ¬ r23.1 = 0 then (if ¬ x0 = 1 then (b_t_vector_79 x0 (nI mv) (nI each) x1 r23.2) else (b_t_vector_79 x0 (nI mv) (nI each) 0 r23.2)) else (b_t_vector_59 r23.2)))) = X → f_t_vector x0 x1 h = X := by
    intro X q
    unfold f_t_vector
    refine o_bind (e_w_takeAll L w1) (o_bind (e_u_isOpen0 o1) (o_pos rfl (o_bind cV (o_neg (show ¬ nI each < nI 1 by (first | (simp (maxSteps := 4000000) (disch := omega) only [n_0, n_1, n_2, n_3, n_4, n_5, n_6, n_7, n_8, n_9, n_10, n_11, n_12, n_13, n_14, n_15, n_16, n_18, n_20, n_24, n_31, n_32, n_34, n_40, n_41, n_44, n_45, n_47, n_48, n_57, n_58, n_59, n_61, n_63, n_64, n_65, n_68, n_90, n_91, n_93, n_95, n_97, n_100, n_122, n_123, n_125, n_128, n_144, n_200, n_255, n_256, n_300, n_400, n_600, n_1536, n_3980, n_4000, n_4001, n_4300, n_65536, l_0, l_1, l_2, l_3, l_4, l_10, l_48, l_63, l_255, l_300, nI_ltI, nI_leI, nI_eq, nI_clamp, nI_add, pk_sub, pk_mul, nI_ne1, ne1_nI, nI_pge, nI_nlt0, nI_l, lN_i, lN_add, lN_mul, lN_sub, pk_lLT, pk_lLE, pk_lEQ, lg_lt, lg_ge, lg_eq0, lg_le, lg_gt, lg_ltn, lg_gen, lg_eq0n, lg_len, lg_gtn, Nat.zero_le, Nat.not_lt_zero, not_false_eq_true, not_true_eq_false, true_and, and_true]; done) | (simp (maxSteps := 4000000) (disch := omega) only [n_0, n_1, n_2, n_3, n_4, n_5, n_6, n_7, n_8, n_9, n_10, n_11, n_12, n_13, n_14, n_15, n_16, n_18, n_20, n_24, n_31, n_32, n_34, n_40, n_41, n_44, n_45, n_47, n_48, n_57, n_58, n_59, n_61, n_63, n_64, n_65, n_68, n_90, n_91, n_93, n_95, n_97, n_100, n_122, n_123, n_125, n_128, n_144, n_200, n_255, n_256, n_300, n_400, n_600, n_1536, n_3980, n_4000, n_4001, n_4300, n_65536, l_0, l_1, l_2, l_3, l_4, l_10, l_48, l_63, l_255, l_300, nI_ltI, nI_leI, nI_eq, nI_clamp, nI_add, pk_sub, pk_mul, nI_ne1, ne1_nI, nI_pge, nI_nlt0, nI_l, lN_i, lN_add, lN_mul, lN_sub, pk_lLT, pk_lLE, pk_lEQ, lg_lt, lg_ge, lg_eq0, lg_le, lg_gt, lg_ltn, lg_gen, lg_eq0n, lg_len, lg_gtn, Nat.zero_le, Nat.not_lt_zero, not_false_eq_true, not_true_eq_false, true_and, and_true]; omega) | omega)) (o_pos (show ¬ nI each = 0 by (first | (simp (maxSteps := 4000000) (disch := omega) only [n_0, n_1, n_2, n_3, n_4, n_5, n_6, n_7, n_8, n_9, n_10, n_11, n_12, n_13, n_14, n_15, n_16, n_18, n_20, n_24, n_31, n_32, n_34, n_40, n_41, n_44, n_45, n_47, n_48, n_57, n_58, n_59, n_61, n_63, n_64, n_65, n_68, n_90, n_91, n_93, n_95, n_97, n_100, n_122, n_123, n_125, n_128, n_144, n_200, n_255, n_256, n_300, n_400, n_600, n_1536, n_3980, n_4000, n_4001, n_4300, n_65536, l_0, l_1, l_2, l_3, l_4, l_10, l_48, l_63, l_255, l_300, nI_ltI, nI_leI, nI_eq, nI_clamp, nI_add, pk_sub, pk_mul, nI_ne1, ne1_nI, nI_pge, nI_nlt0, nI_l, lN_i, lN_add, lN_mul, lN_sub, pk_lLT, pk_lLE, pk_lEQ, lg_lt, lg_ge, lg_eq0, lg_le, lg_gt, lg_ltn, lg_gen, lg_eq0n, lg_len, lg_gtn, Nat.zero_le, Nat.not_lt_zero, not_false_eq_true, not_true_eq_false, true_and, and_true]; done) | (simp (maxSteps := 4000000) (disch := omega) only [n_0, n_1, n_2, n_3, n_4, n_5, n_6, n_7, n_8, n_9, n_10, n_11, n_12, n_13, n_14, n_15, n_16, n_18, n_20, n_24, n_31, n_32, n_34, n_40, n_41, n_44, n_45, n_47, n_48, n_57, n_58, n_59, n_61, n_63, n_64, n_65, n_68, n_90, n_91, n_93, n_95, n_97, n_100, n_122, n_123, n_125, n_128, n_144, n_200, n_255, n_256, n_300, n_400, n_600, n_1536, n_3980, n_4000, n_4001, n_4300, n_65536, l_0, l_1, l_2, l_3, l_4, l_10, l_48, l_63, l_255, l_300, nI_ltI, nI_leI, nI_eq, nI_clamp, nI_add, pk_sub, pk_mul, nI_ne1, ne1_nI, nI_pge, nI_nlt0, nI_l, lN_i, lN_add, lN_mul, lN_sub, pk_lLT, pk_lLE, pk_lEQ, lg_lt, lg_ge, lg_eq0, lg_le, lg_gt, lg_ltn, lg_gen, lg_eq0n, lg_len, lg_gtn, Nat.zero_le, Nat.not_lt_zero, not_false_eq_true, not_true_eq_false, true_and, and_true]; omega) | omega)) ?_)))))
    dsimp only
    rw [pk_rem (by omega) (by omega) (by omega)]
    exact q
  have ml : ∀ g, MSm h g → hi g 1262 55 = nI mv → ∀ X, (if ¬ nI (mv % each) = 0 then (b_m_vector_136 100000 x0 x1 (nI mv) (nI each) 0 0 (hsi (hsi g 1262 0 0) 1262 55 0)) else (b_m_vector_136 100000 x0 x1 (nI mv) (nI each) 1 0 (hsi (hsi g 1262 0 0) 1262 55 0))) = X → f_m_vector x0 x1 g = X := by
    intro g Q q5 X q
    rw [mS g Q q5]
    unfold b_m_vector_117 b_m_vector_131
    refine o_pos (show ¬ nI each = 0 by (first | (simp (maxSteps := 4000000) (disch := omega) only [n_0, n_1, n_2, n_3, n_4, n_5, n_6, n_7, n_8, n_9, n_10, n_11, n_12, n_13, n_14, n_15, n_16, n_18, n_20, n_24, n_31, n_32, n_34, n_40, n_41, n_44, n_45, n_47, n_48, n_57, n_58, n_59, n_61, n_63, n_64, n_65, n_68, n_90, n_91, n_93, n_95, n_97, n_100, n_122, n_123, n_125, n_128, n_144, n_200, n_255, n_256, n_300, n_400, n_600, n_1536, n_3980, n_4000, n_4001, n_4300, n_65536, l_0, l_1, l_2, l_3, l_4, l_10, l_48, l_63, l_255, l_300, nI_ltI, nI_leI, nI_eq, nI_clamp, nI_add, pk_sub, pk_mul, nI_ne1, ne1_nI, nI_pge, nI_nlt0, nI_l, lN_i, lN_add, lN_mul, lN_sub, pk_lLT, pk_lLE, pk_lEQ, lg_lt, lg_ge, lg_eq0, lg_le, lg_gt, lg_ltn, lg_gen, lg_eq0n, lg_len, lg_gtn, Nat.zero_le, Nat.not_lt_zero, not_false_eq_true, not_true_eq_false, true_and, and_true]; done) | (simp (maxSteps := 4000000) (disch := omega) only [n_0, n_1, n_2, n_3, n_4, n_5, n_6, n_7, n_8, n_9, n_10, n_11, n_12, n_13, n_14, n_15, n_16, n_18, n_20, n_24, n_31, n_32, n_34, n_40, n_41, n_44, n_45, n_47, n_48, n_57, n_58, n_59, n_61, n_63, n_64, n_65, n_68, n_90, n_91, n_93, n_95, n_97, n_100, n_122, n_123, n_125, n_128, n_144, n_200, n_255, n_256, n_300, n_400, n_600, n_1536, n_3980, n_4000, n_4001, n_4300, n_65536, l_0, l_1, l_2, l_3, l_4, l_10, l_48, l_63, l_255, l_300, nI_ltI, nI_leI, nI_eq, nI_clamp, nI_add, pk_sub, pk_mul, nI_ne1, ne1_nI, nI_pge, nI_nlt0, nI_l, lN_i, lN_add, lN_mul, lN_sub, pk_lLT, pk_lLE, pk_lEQ, lg_lt, lg_ge, lg_eq0, lg_le, lg_gt, lg_ltn, lg_gen, lg_eq0n, lg_len, lg_gtn, Nat.zero_le, Nat.not_lt_zero, not_false_eq_true, not_true_eq_false, true_and, and_true]; omega) | omega)) ?_
    rw [pk_rem (by omega) (by omega) (by omega)]
    exact q
  by_cases c : mv % each = 0
  · have c0 : ¬ ¬ nI (mv % each) = 0 := by rw [c]; exact not_not_intro rfl
    obtain ⟨m, em⟩ : ∃ m, mv = m * each := ⟨mv / each, by rw [Nat.mul_comm]; have := Nat.div_add_mod mv each; omega⟩
    have m6 : m ≤ 600 := by
      have := Nat.le_mul_of_pos_right m e1
      omega
    obtain ⟨r, r1, r2, r3⟩ := cE m em
    rcases r1 with q | q
    · subst q
      refine vec_thw H hm w2 (j := 0) (k := 2) (by decide) ?_ (fun g Q q5 => ⟨0, ?_⟩)
      · exact cl _ (o_neg c0 (o_bind r3 (o_neg (not_not_intro rfl) (by unfold b_t_vector_59; exact o_pos hm1 rfl))))
      · obtain ⟨r', k1, k2, k3⟩ := mE m em (hsi (hsi g 1262 0 0) 1262 55 0) ((Q.si (Or.inl rfl)).si (Or.inr (Or.inr rfl)))
        have r0 : r' = 0 := k1.resolve_right fun z => absurd (r2.mpr (k2.mp z)) (by decide)
        refine ml g Q q5 _ (o_neg c0 ?_)
        rw [k3, r0]
        unfold b_m_vector_215
        exact o_neg (not_not_intro rfl) rfl
    · subst q
      have EA := r2.mp rfl
      obtain ⟨N, hN⟩ : ∃ N, N = rU (n + m * bytes) (max 4 al) := ⟨_, rfl⟩
      have nN : n + m * bytes ≤ N := by rw [hN]; exact (rU_f (by omega)).1
      have vp := vec_put (each := each) (x1 := x1) H hm b1 b2 b3 b4 o ex0 so3 hyc ab by1 m6 e1 e8 (by omega) hN cB cA (fun c4 => pc m N em hN c4 nN EA) (fun c4 => pm m N em hN c4 nN EA)
      rw [← em] at vp
      have cl2 : ∀ X, b_t_vector_79 x0 (nI mv) (nI each) yc (hsi h 5 1 0) = X → f_t_vector x0 x1 h = X := by
        intro X q
        refine cl _ (o_neg c0 (o_bind r3 (o_pos one0 ?_)))
        rcases hyc with ⟨q1, q2⟩ | ⟨q1, q2⟩
        · rw [q2] at q
          exact o_neg (not_not_intro q1) q
        · rw [q2] at q
          exact o_pos q1 q
      have ml2 : ∀ g, MSm h g → hi g 1262 55 = nI mv → ∀ X, b_m_vector_285 x0 x1 (nI each) (nI m) (nI bytes) (nI al) (hsi (hsi g 1262 0 0) 1262 55 0) = X → f_m_vector x0 x1 g = X := by
        intro g Q q5 X q
        have Q2 : MSm h (hsi (hsi g 1262 0 0) 1262 55 0) := (Q.si (Or.inl rfl)).si (Or.inr (Or.inr rfl))
        obtain ⟨r', k1, k2, k3⟩ := mE m em _ Q2
        have r0 : r' = 1 := k2.mpr EA
        refine ml g Q q5 _ (o_neg c0 ?_)
        rw [k3, r0, m215 m em _ Q2]
        exact q
      rcases vp with ⟨u, z1, z2⟩ | ⟨z1, z2⟩
      · refine Or.inl ⟨_, u, cl2 _ z1, fun p0 W => ?_⟩
        obtain ⟨Q, y0, p, y1, y2, y3, y4⟩ := z2 p0 W
        exact ⟨_, p, ml2 p0 Q (by rw [y0]; exact w2) _ y1, rfl, y2, y3, y4⟩
      · exact vec_thw H hm w2 (j := 2) (k := 3) (by decide) (cl2 _ z1) (fun g Q q5 => ⟨0, ml2 g Q q5 _ (z2 _ ((Q.si (Or.inl rfl)).si (Or.inr (Or.inr rfl))))⟩)
  · have c0 : ¬ nI (mv % each) = 0 := by
      have := Nat.mod_lt mv e1
      show ¬ nI (mv % each) = nI 0
      (first | (simp (maxSteps := 4000000) (disch := omega) only [n_0, n_1, n_2, n_3, n_4, n_5, n_6, n_7, n_8, n_9, n_10, n_11, n_12, n_13, n_14, n_15, n_16, n_18, n_20, n_24, n_31, n_32, n_34, n_40, n_41, n_44, n_45, n_47, n_48, n_57, n_58, n_59, n_61, n_63, n_64, n_65, n_68, n_90, n_91, n_93, n_95, n_97, n_100, n_122, n_123, n_125, n_128, n_144, n_200, n_255, n_256, n_300, n_400, n_600, n_1536, n_3980, n_4000, n_4001, n_4300, n_65536, l_0, l_1, l_2, l_3, l_4, l_10, l_48, l_63, l_255, l_300, nI_ltI, nI_leI, nI_eq, nI_clamp, nI_add, pk_sub, pk_mul, nI_ne1, ne1_nI, nI_pge, nI_nlt0, nI_l, lN_i, lN_add, lN_mul, lN_sub, pk_lLT, pk_lLE, pk_lEQ, lg_lt, lg_ge, lg_eq0, lg_le, lg_gt, lg_ltn, lg_gen, lg_eq0n, lg_len, lg_gtn, Nat.zero_le, Nat.not_lt_zero, not_false_eq_true, not_true_eq_false, true_and, and_true]; done) | (simp (maxSteps := 4000000) (disch := omega) only [n_0, n_1, n_2, n_3, n_4, n_5, n_6, n_7, n_8, n_9, n_10, n_11, n_12, n_13, n_14, n_15, n_16, n_18, n_20, n_24, n_31, n_32, n_34, n_40, n_41, n_44, n_45, n_47, n_48, n_57, n_58, n_59, n_61, n_63, n_64, n_65, n_68, n_90, n_91, n_93, n_95, n_97, n_100, n_122, n_123, n_125, n_128, n_144, n_200, n_255, n_256, n_300, n_400, n_600, n_1536, n_3980, n_4000, n_4001, n_4300, n_65536, l_0, l_1, l_2, l_3, l_4, l_10, l_48, l_63, l_255, l_300, nI_ltI, nI_leI, nI_eq, nI_clamp, nI_add, pk_sub, pk_mul, nI_ne1, ne1_nI, nI_pge, nI_nlt0, nI_l, lN_i, lN_add, lN_mul, lN_sub, pk_lLT, pk_lLE, pk_lEQ, lg_lt, lg_ge, lg_eq0, lg_le, lg_gt, lg_ltn, lg_gen, lg_eq0n, lg_len, lg_gtn, Nat.zero_le, Nat.not_lt_zero, not_false_eq_true, not_true_eq_false, true_and, and_true]; omega) | omega)
    refine vec_thw H hm w2 (j := 0) (k := 2) (by decide) ?_ (fun g Q q5 => ⟨0, ?_⟩)
    · exact cl _ (o_pos c0 (by unfold b_t_vector_59; exact o_pos hm1 rfl))
    · refine ml g Q q5 _ (o_pos c0 ?_)
      show s_m_vector_136 (b_m_vector_136 99999) _ _ _ _ _ _ _ = _
      unfold s_m_vector_136 b_m_vector_215
      by_cases c2 : nI mv ≤ 0
      · exact o_pos c2 (o_neg (not_not_intro rfl) rfl)
      · exact o_neg c2 (o_pos rfl (o_neg (not_not_intro rfl) rfl))
theorem vec_none {x0 x1 : Int32} {mv : Nat} (H : RA h S sg sd) (hm : hz h < 900000) (o : hi h 1244 10 = -1 ∧ hi h 1262 67 = -1) (w1 : hi h 5 1 = nI mv) (w2 : hi h 1262 55 = nI mv) (cV : f_t_valuesOfElement x0 x1 (hsi h 5 1 0) = some (0, hsi h 5 1 0)) (mS : ∀ g, MSm h g → hi g 1262 55 = nI mv → f_m_vector x0 x1 g = b_m_vector_88 x0 x1 (nI mv) 0 (hsi (hsi g 1262 0 0) 1262 55 0)) : TH h (f_t_vector x0 x1) (f_m_vector x0 x1) (fun v w => v = w) [(1, 1), (0, 2), (2, 3)] := by
  have hm1 : hz (hsi h 5 1 0) < 1000000 := by rw [hz_hsi]; omega
  have o1 : hi (hsi h 5 1 0) 1244 10 = -1 := by rw [hi_hsi_ne (by decide)]; exact o.1
  refine vec_thw H hm w2 (j := 0) (k := 2) (by decide) ?_ (fun g Q q5 => ⟨0, ?_⟩)
  · unfold f_t_vector
    refine o_bind (e_w_takeAll H.1 w1) (o_bind (e_u_isOpen0 o1) (o_pos rfl (o_bind cV (o_pos (show (0 : Int32) < 1 by decide) ?_))))
    unfold b_t_vector_59
    exact o_pos hm1 rfl
  · rw [mS g Q q5]
    unfold b_m_vector_88
    exact o_neg (not_not_intro rfl) rfl
/-- a thing's start -/
def thS (h : XH) (v : Int64) : Nat := (hi h 1250 (v.toInt32.toNatClampNeg)).toNatClampNeg
/-- vectors of texts and of tables -/
theorem vec_ref {x0 x1 yc : Int32} {so n tc mv : Nat} (H : RA h S sg sd) (hm : hz h < 900000) (b1 : RBr h n) (b2 : RBg h) (b3 : RBt h n tc sg) (b4 : RBl h n tc) (o : hi h 1244 10 = -1 ∧ hi h 1262 67 = -1) (v6 : mv ≤ 600) (w1 : hi h 5 1 = nI mv) (w2 : hi h 1262 55 = nI mv) (w3 : ∀ k, k < mv → hj h 6 k = hj h 1298 k) (hso : so = 1 ∨ so = 3) (ex0 : x0 = nI so) (hyc : (so = 1 ∧ yc = 0) ∨ (so = 3 ∧ yc = x1)) (cV : f_t_valuesOfElement x0 x1 (hsi h 5 1 0) = some (1, hsi h 5 1 0)) (mS : ∀ g, MSm h g → hi g 1262 55 = nI mv → f_m_vector x0 x1 g = b_m_vector_88 x0 x1 (nI mv) 1 (hsi (hsi g 1262 0 0) 1262 55 0)) : TH h (f_t_vector x0 x1) (f_m_vector x0 x1) (fun v w => v = w) [(1, 1), (0, 2), (2, 3)] := by
  have L := H.1
  have F0 : FRM (fun a k => a = 5 ∧ k = 1) h (hsi h 5 1 0) := FRM.refl.si ⟨rfl, rfl⟩
  have L0 : LY (hsi h 5 1 0) := by rw [F0.ly]; exact L
  have n4 := b1.1
  have tc3 := b3.1
  have b3' : RBt (hsi h 5 1 0) n tc sg := by
    unfold RBt at b3 ⊢
    rw [F0.at (a := 1244) (k := 7) (by simp), F0.at (a := 1262) (k := 59) (by simp), F0.at (a := 1262) (k := 7) (by simp), F0.row (a := 1247) (by simp), F0.row (a := 1248) (by simp), F0.row (a := 1249) (by simp), F0.row (a := 1250) (by simp), F0.row (a := 1300) (by simp), F0.row (a := 1301) (by simp), F0.row (a := 1302) (by simp), F0.row (a := 1303) (by simp)]
    exact b3
  obtain ⟨c1, hc1⟩ : ∃ c1, c1 = hsi h 5 1 0 := ⟨_, rfl⟩
  have mT7 : ∀ g, MSm h g → hi g 1262 59 = nI tc ∧ ∀ t, t < tc → hi g 1300 t = hi c1 1247 t ∧ hi g 1301 t = hi c1 1249 t ∧ hi g 1302 t = hi c1 1248 t := by
    intro g Q
    refine ⟨by rw [Q.2.2 59 (by decide) (by decide) (by decide)]; exact b3.2.2.1, fun t ht => ?_⟩
    obtain ⟨s, st, a1, a2, a3, a4, a5, a6, a7, a8, a9, a10⟩ := b3.2.2.2 t ht
    rw [hc1, F0.at (a := 1247) (by simp), F0.at (a := 1248) (by simp), F0.at (a := 1249) (by simp), Q.1 1300 (by decide) (by decide), Q.1 1301 (by decide) (by decide), Q.1 1302 (by decide) (by decide), a4, a5, a6, a7]
    exact ⟨rfl, rfl, rfl⟩
  have nx : (so = 1 ∧ x0 = 1 ∧ ¬ x0 = 3) ∨ (so = 3 ∧ x0 = 3 ∧ ¬ x0 = 1) := by
    rcases hso with q | q <;> subst q <;> subst ex0
    · exact Or.inl ⟨rfl, rfl, by decide⟩
    · exact Or.inr ⟨rfl, rfl, by decide⟩
  have x00 : ¬ x0 = 0 := by rcases hso with q | q <;> subst q <;> subst ex0 <;> decide
  have x02 : ¬ x0 = 2 := by rcases hso with q | q <;> subst q <;> subst ex0 <;> decide
  have hyc2 : (x0 = 1 ∧ yc = 0) ∨ (¬ x0 = 1 ∧ yc = x1) := by
    rcases nx with ⟨q1, q2, q3⟩ | ⟨q1, q2, q3⟩ <;> rcases hyc with ⟨p1, p2⟩ | ⟨p1, p2⟩
    · exact Or.inl ⟨q2, p2⟩
    · omega
    · omega
    · exact Or.inr ⟨q3, p2⟩
  have pick : ∀ i, f_u_isThing (hj h 6 i) x0 yc (-1) c1 = some (1, c1) → ∃ t st : Nat, t < tc ∧ hj h 6 i = lN t ∧ st ≤ n ∧ hi h 1250 t = nI st ∧ hi h 1303 t = nI st ∧ thS h (hj h 6 i) = st := by
    intro i hE
    obtain ⟨r, k1, k2, k3, k4⟩ := isThing2 (h := hsi h 5 1 0) b3' (hj h 6 i) x0 yc (-1)
    rw [← hc1, hE] at k2
    injection k2 with k2
    injection k2 with k2 _
    obtain ⟨t, s, st, t1, t2, t3, t4, t5, t6, t7, t8, t9⟩ := k4 k2.symm
    rw [F0.at (by simp)] at t7 t8
    refine ⟨t, st, t1, t2, t6, t7, t8, ?_⟩
    unfold thS
    rw [t2, lN_i, nI_clamp (show t < 2 ^ 31 by omega), t7, nI_clamp (by omega)]
  refine vec_case (each := 1) (bytes := 4) (al := 4) (so := so) (E := fun i => f_u_isThing (hj h 6 i) x0 yc (-1) c1 = some (1, c1)) (EB := fun N i j => v8 (lN (N - i * 4 - thS h (hj h 6 i))) j) H hm b1 b2 b3 b4 o v6 w1 w2 ex0 (by omega) hyc2 (by omega) (by decide) (by decide) (by decide) cV ?_ ?_ ?_ ?_ ?_ ?_ ?_ ?_
  · -- the class looks at the elements
    intro m em
    rw [Nat.mul_one] at em
    subst em
    obtain ⟨r, k1, k2, k3⟩ := vec_c_loop (h := hsi h 5 1 0) (x0 := x0) (x1 := x1) (y := yc) (m := mv) (E := fun i => f_u_isThing (hj h 6 i) x0 yc (-1) c1 = some (1, c1)) v6 (fun i hi' K => by
      obtain ⟨r, k1, k2, k3, k4⟩ := isThing2 (h := hsi h 5 1 0) b3' (hj h 6 i) x0 yc (-1)
      refine ⟨r, k1, ⟨fun z => by rw [hc1, k2, z], fun z => ?_⟩, ?_⟩
      · rw [hc1, k2] at z
        injection z with z
        injection z
      · unfold s_t_areElements_37
        exact o_neg (by (first | (simp (maxSteps := 4000000) (disch := omega) only [n_0, n_1, n_2, n_3, n_4, n_5, n_6, n_7, n_8, n_9, n_10, n_11, n_12, n_13, n_14, n_15, n_16, n_18, n_20, n_24, n_31, n_32, n_34, n_40, n_41, n_44, n_45, n_47, n_48, n_57, n_58, n_59, n_61, n_63, n_64, n_65, n_68, n_90, n_91, n_93, n_95, n_97, n_100, n_122, n_123, n_125, n_128, n_144, n_200, n_255, n_256, n_300, n_400, n_600, n_1536, n_3980, n_4000, n_4001, n_4300, n_65536, l_0, l_1, l_2, l_3, l_4, l_10, l_48, l_63, l_255, l_300, nI_ltI, nI_leI, nI_eq, nI_clamp, nI_add, pk_sub, pk_mul, nI_ne1, ne1_nI, nI_pge, nI_nlt0, nI_l, lN_i, lN_add, lN_mul, lN_sub, pk_lLT, pk_lLE, pk_lEQ, lg_lt, lg_ge, lg_eq0, lg_le, lg_gt, lg_ltn, lg_gen, lg_eq0n, lg_len, lg_gtn, Nat.zero_le, Nat.not_lt_zero, not_false_eq_true, not_true_eq_false, true_and, and_true]; done) | (simp (maxSteps := 4000000) (disch := omega) only [n_0, n_1, n_2, n_3, n_4, n_5, n_6, n_7, n_8, n_9, n_10, n_11, n_12, n_13, n_14, n_15, n_16, n_18, n_20, n_24, n_31, n_32, n_34, n_40, n_41, n_44, n_45, n_47, n_48, n_57, n_58, n_59, n_61, n_63, n_64, n_65, n_68, n_90, n_91, n_93, n_95, n_97, n_100, n_122, n_123, n_125, n_128, n_144, n_200, n_255, n_256, n_300, n_400, n_600, n_1536, n_3980, n_4000, n_4001, n_4300, n_65536, l_0, l_1, l_2, l_3, l_4, l_10, l_48, l_63, l_255, l_300, nI_ltI, nI_leI, nI_eq, nI_clamp, nI_add, pk_sub, pk_mul, nI_ne1, ne1_nI, nI_pge, nI_nlt0, nI_l, lN_i, lN_add, lN_mul, lN_sub, pk_lLT, pk_lLE, pk_lEQ, lg_lt, lg_ge, lg_eq0, lg_le, lg_gt, lg_ltn, lg_gen, lg_eq0n, lg_len, lg_gtn, Nat.zero_le, Nat.not_lt_zero, not_false_eq_true, not_true_eq_false, true_and, and_true]; omega) | omega)) (o_bind (e_w_at L0 (by omega)) (o_pos x00 (o_bind k2 rfl))))
    refine ⟨r, k1, k2, ?_⟩
    unfold f_t_areElements b_t_areElements_32
    refine o_pos x02 ?_
    rcases hyc2 with ⟨p1, p2⟩ | ⟨p1, p2⟩
    · rw [p2] at k3
      exact o_neg (not_not_intro p1) k3
    · rw [p2] at k3
      exact o_pos p1 k3
  · intro g Q q5
    rw [mS g Q q5]
    unfold b_m_vector_88
    exact o_pos one0 (o_pos x02 rfl)
  · -- the model looks at them
    intro m em g Q
    rw [Nat.mul_one] at em
    subst em
    have := vec_m_loop (g := g) (x0 := x0) (x1 := x1) (each := 1) (m := mv) (E := fun i => f_u_isThing (hj h 6 i) x0 yc (-1) c1 = some (1, c1)) (by decide) (by omega) (fun i hi' K => by
      obtain ⟨r, k1, k2, k3, k4⟩ := isThing2 (h := hsi h 5 1 0) b3' (hj h 6 i) x0 yc (-1)
      refine ⟨r, k1, ⟨fun z => by rw [hc1, k2, z], fun z => ?_⟩, ?_⟩
      · rw [hc1, k2] at z
        injection z with z
        injection z
      · have mm := mT7 g Q
        rw [hc1] at mm
        have mI := k3 g mm.1 mm.2
        unfold s_m_vector_136 b_m_vector_200 b_m_vector_203
        rw [Nat.mul_one, Nat.mul_one, nI_clamp (show i < 2 ^ 31 by omega), Q.2.1 1298 (by decide), ← w3 i hi']
        refine o_neg (by (first | (simp (maxSteps := 4000000) (disch := omega) only [n_0, n_1, n_2, n_3, n_4, n_5, n_6, n_7, n_8, n_9, n_10, n_11, n_12, n_13, n_14, n_15, n_16, n_18, n_20, n_24, n_31, n_32, n_34, n_40, n_41, n_44, n_45, n_47, n_48, n_57, n_58, n_59, n_61, n_63, n_64, n_65, n_68, n_90, n_91, n_93, n_95, n_97, n_100, n_122, n_123, n_125, n_128, n_144, n_200, n_255, n_256, n_300, n_400, n_600, n_1536, n_3980, n_4000, n_4001, n_4300, n_65536, l_0, l_1, l_2, l_3, l_4, l_10, l_48, l_63, l_255, l_300, nI_ltI, nI_leI, nI_eq, nI_clamp, nI_add, pk_sub, pk_mul, nI_ne1, ne1_nI, nI_pge, nI_nlt0, nI_l, lN_i, lN_add, lN_mul, lN_sub, pk_lLT, pk_lLE, pk_lEQ, lg_lt, lg_ge, lg_eq0, lg_le, lg_gt, lg_ltn, lg_gen, lg_eq0n, lg_len, lg_gtn, Nat.zero_le, Nat.not_lt_zero, not_false_eq_true, not_true_eq_false, true_and, and_true]; done) | (simp (maxSteps := 4000000) (disch := omega) only [n_0, n_1, n_2, n_3, n_4, n_5, n_6, n_7, n_8, n_9, n_10, n_11, n_12, n_13, n_14, n_15, n_16, n_18, n_20, n_24, n_31, n_32, n_34, n_40, n_41, n_44, n_45, n_47, n_48, n_57, n_58, n_59, n_61, n_63, n_64, n_65, n_68, n_90, n_91, n_93, n_95, n_97, n_100, n_122, n_123, n_125, n_128, n_144, n_200, n_255, n_256, n_300, n_400, n_600, n_1536, n_3980, n_4000, n_4001, n_4300, n_65536, l_0, l_1, l_2, l_3, l_4, l_10, l_48, l_63, l_255, l_300, nI_ltI, nI_leI, nI_eq, nI_clamp, nI_add, pk_sub, pk_mul, nI_ne1, ne1_nI, nI_pge, nI_nlt0, nI_l, lN_i, lN_add, lN_mul, lN_sub, pk_lLT, pk_lLE, pk_lEQ, lg_lt, lg_ge, lg_eq0, lg_le, lg_gt, lg_ltn, lg_gen, lg_eq0n, lg_len, lg_gtn, Nat.zero_le, Nat.not_lt_zero, not_false_eq_true, not_true_eq_false, true_and, and_true]; omega) | omega)) (o_neg one0 (o_pos x00 (o_pos x02 (o_pos (by (first | (simp (maxSteps := 4000000) (disch := omega) only [n_0, n_1, n_2, n_3, n_4, n_5, n_6, n_7, n_8, n_9, n_10, n_11, n_12, n_13, n_14, n_15, n_16, n_18, n_20, n_24, n_31, n_32, n_34, n_40, n_41, n_44, n_45, n_47, n_48, n_57, n_58, n_59, n_61, n_63, n_64, n_65, n_68, n_90, n_91, n_93, n_95, n_97, n_100, n_122, n_123, n_125, n_128, n_144, n_200, n_255, n_256, n_300, n_400, n_600, n_1536, n_3980, n_4000, n_4001, n_4300, n_65536, l_0, l_1, l_2, l_3, l_4, l_10, l_48, l_63, l_255, l_300, nI_ltI, nI_leI, nI_eq, nI_clamp, nI_add, pk_sub, pk_mul, nI_ne1, ne1_nI, nI_pge, nI_nlt0, nI_l, lN_i, lN_add, lN_mul, lN_sub, pk_lLT, pk_lLE, pk_lEQ, lg_lt, lg_ge, lg_eq0, lg_le, lg_gt, lg_ltn, lg_gen, lg_eq0n, lg_len, lg_gtn, Nat.zero_le, Nat.not_lt_zero, not_false_eq_true, not_true_eq_false, true_and, and_true]; done) | (simp (maxSteps := 4000000) (disch := omega) only [n_0, n_1, n_2, n_3, n_4, n_5, n_6, n_7, n_8, n_9, n_10, n_11, n_12, n_13, n_14, n_15, n_16, n_18, n_20, n_24, n_31, n_32, n_34, n_40, n_41, n_44, n_45, n_47, n_48, n_57, n_58, n_59, n_61, n_63, n_64, n_65, n_68, n_90, n_91, n_93, n_95, n_97, n_100, n_122, n_123, n_125, n_128, n_144, n_200, n_255, n_256, n_300, n_400, n_600, n_1536, n_3980, n_4000, n_4001, n_4300, n_65536, l_0, l_1, l_2, l_3, l_4, l_10, l_48, l_63, l_255, l_300, nI_ltI, nI_leI, nI_eq, nI_clamp, nI_add, pk_sub, pk_mul, nI_ne1, ne1_nI, nI_pge, nI_nlt0, nI_l, lN_i, lN_add, lN_mul, lN_sub, pk_lLT, pk_lLE, pk_lEQ, lg_lt, lg_ge, lg_eq0, lg_le, lg_gt, lg_ltn, lg_gen, lg_eq0n, lg_len, lg_gtn, Nat.zero_le, Nat.not_lt_zero, not_false_eq_true, not_true_eq_false, true_and, and_true]; omega) | omega)) ?_))))
        rcases nx with ⟨q1, q2, q3⟩ | ⟨q1, q2, q3⟩ <;> rcases hyc with ⟨p1, p2⟩ | ⟨p1, p2⟩
        · rw [p2] at mI
          exact o_pos q3 (o_bind mI rfl)
        · omega
        · omega
        · rw [p2] at mI
          exact o_neg (not_not_intro q2) (o_bind mI rfl))
    rw [Nat.mul_one] at this
    exact this
  · intro m em g Q
    rw [Nat.mul_one] at em
    subst em
    unfold b_m_vector_215 b_m_vector_259
    rw [pk_div (by omega) (by decide) (by decide), Nat.div_one]
    exact o_pos one0 (o_pos one0 (o_pos x00 (o_pos x02 (o_pos x00 (o_pos x02 rfl)))))
  · unfold f_s_bytesOf b_s_bytesOf_26
    exact o_pos x00 (o_pos x02 (o_elimn rfl))
  · unfold f_s_alignmentOf b_s_alignmentOf_26
    exact o_pos x00 (o_pos x02 (o_elimn rfl))
  · -- the class puts
    intro m N em hN c4 nN EA i hi' u Fu zu
    obtain ⟨t, st, t1, t2, t6, t7, t8, t9⟩ := pick i (EA i hi')
    have Lu : LY u := by rw [Fu.ly]; exact L0
    have p4 : 4000 - N + i * 4 = 4000 - (N - i * 4) := by omega
    rw [p4]
    have := e_u_contentR (h := u) (S := S) (s := N - i * 4) (so := so) (i := i) (tt := t) (st := st) (y := yc) Lu (by omega) (by omega) (by rw [Fu.hj (by decide)]; exact t2) (by rw [Fu.at (by simp [uP]), F0.at (by simp)]; exact t7) (by omega) (by omega) (by omega)
    rw [← ex0] at this
    rw [t9]
    exact this
  · -- the model puts
    intro m N em hN c4 nN EA i hi' g0 g K Q Fg e
    obtain ⟨t, st, t1, t2, t6, t7, t8, t9⟩ := pick i (EA i hi')
    obtain ⟨g2, y1, F1, y2, y3, y4⟩ := e_m_ref (t := t) (st := st) e (by rw [Fg.at (by simp [mV]), Q.1 1303 (by decide) (by decide)]; exact t8) (by omega) (by omega) (by omega)
    have e4 : N - (i * 4 + 4) + 4 = N - i * 4 := by omega
    rw [e4] at y2 y4
    refine ⟨g2, ?_, F1, y2, y3, fun j hj' => ?_⟩
    · unfold s_m_vector_370 b_m_vector_425
      rw [nI_clamp (show i < 2 ^ 31 by omega), Fg.hj (by decide), Q.2.1 1298 (by decide), ← w3 i (by omega), t2, lN_i]
      exact o_neg (by (first | (simp (maxSteps := 4000000) (disch := omega) only [n_0, n_1, n_2, n_3, n_4, n_5, n_6, n_7, n_8, n_9, n_10, n_11, n_12, n_13, n_14, n_15, n_16, n_18, n_20, n_24, n_31, n_32, n_34, n_40, n_41, n_44, n_45, n_47, n_48, n_57, n_58, n_59, n_61, n_63, n_64, n_65, n_68, n_90, n_91, n_93, n_95, n_97, n_100, n_122, n_123, n_125, n_128, n_144, n_200, n_255, n_256, n_300, n_400, n_600, n_1536, n_3980, n_4000, n_4001, n_4300, n_65536, l_0, l_1, l_2, l_3, l_4, l_10, l_48, l_63, l_255, l_300, nI_ltI, nI_leI, nI_eq, nI_clamp, nI_add, pk_sub, pk_mul, nI_ne1, ne1_nI, nI_pge, nI_nlt0, nI_l, lN_i, lN_add, lN_mul, lN_sub, pk_lLT, pk_lLE, pk_lEQ, lg_lt, lg_ge, lg_eq0, lg_le, lg_gt, lg_ltn, lg_gen, lg_eq0n, lg_len, lg_gtn, Nat.zero_le, Nat.not_lt_zero, not_false_eq_true, not_true_eq_false, true_and, and_true]; done) | (simp (maxSteps := 4000000) (disch := omega) only [n_0, n_1, n_2, n_3, n_4, n_5, n_6, n_7, n_8, n_9, n_10, n_11, n_12, n_13, n_14, n_15, n_16, n_18, n_20, n_24, n_31, n_32, n_34, n_40, n_41, n_44, n_45, n_47, n_48, n_57, n_58, n_59, n_61, n_63, n_64, n_65, n_68, n_90, n_91, n_93, n_95, n_97, n_100, n_122, n_123, n_125, n_128, n_144, n_200, n_255, n_256, n_300, n_400, n_600, n_1536, n_3980, n_4000, n_4001, n_4300, n_65536, l_0, l_1, l_2, l_3, l_4, l_10, l_48, l_63, l_255, l_300, nI_ltI, nI_leI, nI_eq, nI_clamp, nI_add, pk_sub, pk_mul, nI_ne1, ne1_nI, nI_pge, nI_nlt0, nI_l, lN_i, lN_add, lN_mul, lN_sub, pk_lLT, pk_lLE, pk_lEQ, lg_lt, lg_ge, lg_eq0, lg_le, lg_gt, lg_ltn, lg_gen, lg_eq0n, lg_len, lg_gtn, Nat.zero_le, Nat.not_lt_zero, not_false_eq_true, not_true_eq_false, true_and, and_true]; omega) | omega)) (o_pos x00 (o_pos x02 (o_pos (by (first | (simp (maxSteps := 4000000) (disch := omega) only [n_0, n_1, n_2, n_3, n_4, n_5, n_6, n_7, n_8, n_9, n_10, n_11, n_12, n_13, n_14, n_15, n_16, n_18, n_20, n_24, n_31, n_32, n_34, n_40, n_41, n_44, n_45, n_47, n_48, n_57, n_58, n_59, n_61, n_63, n_64, n_65, n_68, n_90, n_91, n_93, n_95, n_97, n_100, n_122, n_123, n_125, n_128, n_144, n_200, n_255, n_256, n_300, n_400, n_600, n_1536, n_3980, n_4000, n_4001, n_4300, n_65536, l_0, l_1, l_2, l_3, l_4, l_10, l_48, l_63, l_255, l_300, nI_ltI, nI_leI, nI_eq, nI_clamp, nI_add, pk_sub, pk_mul, nI_ne1, ne1_nI, nI_pge, nI_nlt0, nI_l, lN_i, lN_add, lN_mul, lN_sub, pk_lLT, pk_lLE, pk_lEQ, lg_lt, lg_ge, lg_eq0, lg_le, lg_gt, lg_ltn, lg_gen, lg_eq0n, lg_len, lg_gtn, Nat.zero_le, Nat.not_lt_zero, not_false_eq_true, not_true_eq_false, true_and, and_true]; done) | (simp (maxSteps := 4000000) (disch := omega) only [n_0, n_1, n_2, n_3, n_4, n_5, n_6, n_7, n_8, n_9, n_10, n_11, n_12, n_13, n_14, n_15, n_16, n_18, n_20, n_24, n_31, n_32, n_34, n_40, n_41, n_44, n_45, n_47, n_48, n_57, n_58, n_59, n_61, n_63, n_64, n_65, n_68, n_90, n_91, n_93, n_95, n_97, n_100, n_122, n_123, n_125, n_128, n_144, n_200, n_255, n_256, n_300, n_400, n_600, n_1536, n_3980, n_4000, n_4001, n_4300, n_65536, l_0, l_1, l_2, l_3, l_4, l_10, l_48, l_63, l_255, l_300, nI_ltI, nI_leI, nI_eq, nI_clamp, nI_add, pk_sub, pk_mul, nI_ne1, ne1_nI, nI_pge, nI_nlt0, nI_l, lN_i, lN_add, lN_mul, lN_sub, pk_lLT, pk_lLE, pk_lEQ, lg_lt, lg_ge, lg_eq0, lg_le, lg_gt, lg_ltn, lg_gen, lg_eq0n, lg_len, lg_gtn, Nat.zero_le, Nat.not_lt_zero, not_false_eq_true, not_true_eq_false, true_and, and_true]; omega) | omega)) (o_bind y1 rfl))))
    · rw [t9]
      exact y4 j hj'
theorem op_vector {x0 x1 : Int32} (H : RX h) (hm : hz h < 900000) : TH h (f_t_vector x0 x1) (f_m_vector x0 x1) (fun v w => v = w) [(1, 1), (0, 2), (2, 3)] := by
  obtain ⟨S, sg, sd, H⟩ := H
  have L := H.1
  have hS := H.sS
  obtain ⟨mv, v6, w1, w2, w3⟩ := H.2.2.2.1
  have hm1 : hz (hsi h 5 1 0) < 1000000 := by rw [hz_hsi]; omega
  have F0 : FRM (fun a k => a = 5 ∧ k = 1) h (hsi h 5 1 0) := FRM.refl.si ⟨rfl, rfl⟩
  have L0 : LY (hsi h 5 1 0) := by rw [F0.ly]; exact L
  have o10 : hi (hsi h 5 1 0) 1244 10 = hi h 1244 10 := F0.at (by simp)
  rcases H.op with ⟨o1, o2⟩ | ⟨t, -, -, -, -, -, o1, o2⟩
  · obtain ⟨n, tc, b1, b2, b3, b4, b5⟩ := H.2.2.2.2.2.2.2.1
    have n4 := b1.1
    have sc : SC (hsi h 5 1 0) S := by rw [F0.sc]; exact H.sc rfl
    have s1 : S < hz (hsi h 5 1 0) := by have := sc.1; omega
    have k9 : hk (hsi h 5 1 0) S = 9 := sc.2.2.1
    have us1 : S + 1 < hz (hsi h 5 1 0) := by have := sc.1; omega
    have us2 : hk (hsi h 5 1 0) (S + 1) = 4 := sc.gS.2.2.2.1
    have ut1 : S + 195 < hz (hsi h 5 1 0) := by have := sc.1; omega
    have ut2 : hk (hsi h 5 1 0) (S + 195) = 4 := sc.gT.2.2.2.1
    have r4 : hr (hsi h 5 1 0) 0 4 = some S := H.2.1.1
    have R1 : RS (hsi h 5 1 0) S sg sd := RS.cg H.2.2.2.2.2.2.1 sc (fun a h1 h2 => hi_hsi_ne (by omega)) (fun a h1 h2 => rfl) (fun k h1 h2 => by rw [hi_hsi_ne (by decide)]) (fun a h1 h2 => hi_hsi_ne (by omega)) rfl
    -- the model's beginning
    have m0 : ∀ g, MSm h g → hi g 1262 55 = nI mv → hi g 1262 67 = -1 := fun g Q _ => by rw [Q.2.2 67 (by decide) (by decide) (by decide)]; exact o2
    have mq : ∀ g, MSm h g → ∀ k, k ≠ 0 → k ≠ 2 → k ≠ 55 → hi (hsi (hsi g 1262 0 0) 1262 55 0) 1262 k = hi (hsi h 5 1 0) 1262 k := fun g Q k h1 h2 h3 => by rw [hi_nk h3, hi_nk h1, Q.2.2 k h1 h2 h3, hi_hsi_ne (by decide)]
    by_cases x00 : x0 = 0
    · subst x00
      rcases x32 x1 11 (by decide) with c | c | ⟨oo, ho, eo⟩
      · refine vec_none H hm ⟨o1, o2⟩ w1 w2 ?_ (fun g Q q5 => ?_)
        · unfold f_t_valuesOfElement f_t_isScalar
          exact o_pos rfl (o_bind (o_pos c rfl) (o_pos rfl rfl))
        · unfold f_m_vector b_m_vector_48
          rw [q5]
          exact o_pos (m0 g Q q5) (o_neg (not_not_intro rfl) (o_pos c rfl))
      · have c1 : ¬ x1 < 0 := fun z => absurd (Int32.lt_of_le_of_lt c z) (by decide)
        have c2 : 10 < x1 := Int32.lt_of_lt_of_le (by decide) c
        refine vec_none H hm ⟨o1, o2⟩ w1 w2 ?_ (fun g Q q5 => ?_)
        · unfold f_t_valuesOfElement f_t_isScalar
          exact o_pos rfl (o_bind (o_neg c1 (o_pos c rfl)) (o_pos rfl rfl))
        · unfold f_m_vector b_m_vector_48
          rw [q5]
          exact o_pos (m0 g Q q5) (o_neg (not_not_intro rfl) (o_neg c1 (o_pos c2 rfl)))
      · subst eo
        have bb := bO_le oo
        refine vec_case (yc := nI oo) (each := 1) (bytes := bO oo) (al := bO oo) (so := 0) (E := fun i => vV oo (hj h 6 i)) (EB := fun N i j => v8 (hj h 6 i) j) H hm b1 b2 b3 b4 ⟨o1, o2⟩ v6 w1 w2 rfl (by decide) (Or.inr ⟨by decide, rfl⟩) (by omega) (by omega) (by decide) (by decide) ?_ ?_ ?_ ?_ ?_ ?_ ?_ ?_ ?_
        · unfold f_t_valuesOfElement f_t_isScalar
          exact o_pos rfl (o_bind (o_neg (by (first | (simp (maxSteps := 4000000) (disch := omega) only [n_0, n_1, n_2, n_3, n_4, n_5, n_6, n_7, n_8, n_9, n_10, n_11, n_12, n_13, n_14, n_15, n_16, n_18, n_20, n_24, n_31, n_32, n_34, n_40, n_41, n_44, n_45, n_47, n_48, n_57, n_58, n_59, n_61, n_63, n_64, n_65, n_68, n_90, n_91, n_93, n_95, n_97, n_100, n_122, n_123, n_125, n_128, n_144, n_200, n_255, n_256, n_300, n_400, n_600, n_1536, n_3980, n_4000, n_4001, n_4300, n_65536, l_0, l_1, l_2, l_3, l_4, l_10, l_48, l_63, l_255, l_300, nI_ltI, nI_leI, nI_eq, nI_clamp, nI_add, pk_sub, pk_mul, nI_ne1, ne1_nI, nI_pge, nI_nlt0, nI_l, lN_i, lN_add, lN_mul, lN_sub, pk_lLT, pk_lLE, pk_lEQ, lg_lt, lg_ge, lg_eq0, lg_le, lg_gt, lg_ltn, lg_gen, lg_eq0n, lg_len, lg_gtn, Nat.zero_le, Nat.not_lt_zero, not_false_eq_true, not_true_eq_false, true_and, and_true]; done) | (simp (maxSteps := 4000000) (disch := omega) only [n_0, n_1, n_2, n_3, n_4, n_5, n_6, n_7, n_8, n_9, n_10, n_11, n_12, n_13, n_14, n_15, n_16, n_18, n_20, n_24, n_31, n_32, n_34, n_40, n_41, n_44, n_45, n_47, n_48, n_57, n_58, n_59, n_61, n_63, n_64, n_65, n_68, n_90, n_91, n_93, n_95, n_97, n_100, n_122, n_123, n_125, n_128, n_144, n_200, n_255, n_256, n_300, n_400, n_600, n_1536, n_3980, n_4000, n_4001, n_4300, n_65536, l_0, l_1, l_2, l_3, l_4, l_10, l_48, l_63, l_255, l_300, nI_ltI, nI_leI, nI_eq, nI_clamp, nI_add, pk_sub, pk_mul, nI_ne1, ne1_nI, nI_pge, nI_nlt0, nI_l, lN_i, lN_add, lN_mul, lN_sub, pk_lLT, pk_lLE, pk_lEQ, lg_lt, lg_ge, lg_eq0, lg_le, lg_gt, lg_ltn, lg_gen, lg_eq0n, lg_len, lg_gtn, Nat.zero_le, Nat.not_lt_zero, not_false_eq_true, not_true_eq_false, true_and, and_true]; omega) | omega)) (o_neg (by (first | (simp (maxSteps := 4000000) (disch := omega) only [n_0, n_1, n_2, n_3, n_4, n_5, n_6, n_7, n_8, n_9, n_10, n_11, n_12, n_13, n_14, n_15, n_16, n_18, n_20, n_24, n_31, n_32, n_34, n_40, n_41, n_44, n_45, n_47, n_48, n_57, n_58, n_59, n_61, n_63, n_64, n_65, n_68, n_90, n_91, n_93, n_95, n_97, n_100, n_122, n_123, n_125, n_128, n_144, n_200, n_255, n_256, n_300, n_400, n_600, n_1536, n_3980, n_4000, n_4001, n_4300, n_65536, l_0, l_1, l_2, l_3, l_4, l_10, l_48, l_63, l_255, l_300, nI_ltI, nI_leI, nI_eq, nI_clamp, nI_add, pk_sub, pk_mul, nI_ne1, ne1_nI, nI_pge, nI_nlt0, nI_l, lN_i, lN_add, lN_mul, lN_sub, pk_lLT, pk_lLE, pk_lEQ, lg_lt, lg_ge, lg_eq0, lg_le, lg_gt, lg_ltn, lg_gen, lg_eq0n, lg_len, lg_gtn, Nat.zero_le, Nat.not_lt_zero, not_false_eq_true, not_true_eq_false, true_and, and_true]; done) | (simp (maxSteps := 4000000) (disch := omega) only [n_0, n_1, n_2, n_3, n_4, n_5, n_6, n_7, n_8, n_9, n_10, n_11, n_12, n_13, n_14, n_15, n_16, n_18, n_20, n_24, n_31, n_32, n_34, n_40, n_41, n_44, n_45, n_47, n_48, n_57, n_58, n_59, n_61, n_63, n_64, n_65, n_68, n_90, n_91, n_93, n_95, n_97, n_100, n_122, n_123, n_125, n_128, n_144, n_200, n_255, n_256, n_300, n_400, n_600, n_1536, n_3980, n_4000, n_4001, n_4300, n_65536, l_0, l_1, l_2, l_3, l_4, l_10, l_48, l_63, l_255, l_300, nI_ltI, nI_leI, nI_eq, nI_clamp, nI_add, pk_sub, pk_mul, nI_ne1, ne1_nI, nI_pge, nI_nlt0, nI_l, lN_i, lN_add, lN_mul, lN_sub, pk_lLT, pk_lLE, pk_lEQ, lg_lt, lg_ge, lg_eq0, lg_le, lg_gt, lg_ltn, lg_gen, lg_eq0n, lg_len, lg_gtn, Nat.zero_le, Nat.not_lt_zero, not_false_eq_true, not_true_eq_false, true_and, and_true]; omega) | omega)) rfl)) (o_neg one0 rfl))
        · intro m em
          rw [Nat.mul_one] at em
          subst em
          obtain ⟨r, k1, k2, k3⟩ := vec_c_loop (h := hsi h 5 1 0) (x0 := 0) (x1 := nI oo) (y := nI oo) (m := mv) (E := fun i => vV oo (hj h 6 i)) v6 (fun i hi' K => by
            obtain ⟨r, q1, q2, q3⟩ := e_t_isValue (h := hsi h 5 1 0) (v := hj h 6 i) ho
            have em1 : vV oo (hj h 6 i) ∨ ¬ vV oo (hj h 6 i) := Classical.em _
            refine ⟨r, ?_, ?_, ?_⟩
            · rcases em1 with q | q
              · exact Or.inr (q1 q)
              · exact Or.inl (q2 q)
            · rcases em1 with q | q
              · exact ⟨fun _ => q, q1⟩
              · exact ⟨fun z => by rw [q2 q] at z; exact absurd z (by decide), fun z => absurd z q⟩
            · unfold s_t_areElements_37
              exact o_neg (by (first | (simp (maxSteps := 4000000) (disch := omega) only [n_0, n_1, n_2, n_3, n_4, n_5, n_6, n_7, n_8, n_9, n_10, n_11, n_12, n_13, n_14, n_15, n_16, n_18, n_20, n_24, n_31, n_32, n_34, n_40, n_41, n_44, n_45, n_47, n_48, n_57, n_58, n_59, n_61, n_63, n_64, n_65, n_68, n_90, n_91, n_93, n_95, n_97, n_100, n_122, n_123, n_125, n_128, n_144, n_200, n_255, n_256, n_300, n_400, n_600, n_1536, n_3980, n_4000, n_4001, n_4300, n_65536, l_0, l_1, l_2, l_3, l_4, l_10, l_48, l_63, l_255, l_300, nI_ltI, nI_leI, nI_eq, nI_clamp, nI_add, pk_sub, pk_mul, nI_ne1, ne1_nI, nI_pge, nI_nlt0, nI_l, lN_i, lN_add, lN_mul, lN_sub, pk_lLT, pk_lLE, pk_lEQ, lg_lt, lg_ge, lg_eq0, lg_le, lg_gt, lg_ltn, lg_gen, lg_eq0n, lg_len, lg_gtn, Nat.zero_le, Nat.not_lt_zero, not_false_eq_true, not_true_eq_false, true_and, and_true]; done) | (simp (maxSteps := 4000000) (disch := omega) only [n_0, n_1, n_2, n_3, n_4, n_5, n_6, n_7, n_8, n_9, n_10, n_11, n_12, n_13, n_14, n_15, n_16, n_18, n_20, n_24, n_31, n_32, n_34, n_40, n_41, n_44, n_45, n_47, n_48, n_57, n_58, n_59, n_61, n_63, n_64, n_65, n_68, n_90, n_91, n_93, n_95, n_97, n_100, n_122, n_123, n_125, n_128, n_144, n_200, n_255, n_256, n_300, n_400, n_600, n_1536, n_3980, n_4000, n_4001, n_4300, n_65536, l_0, l_1, l_2, l_3, l_4, l_10, l_48, l_63, l_255, l_300, nI_ltI, nI_leI, nI_eq, nI_clamp, nI_add, pk_sub, pk_mul, nI_ne1, ne1_nI, nI_pge, nI_nlt0, nI_l, lN_i, lN_add, lN_mul, lN_sub, pk_lLT, pk_lLE, pk_lEQ, lg_lt, lg_ge, lg_eq0, lg_le, lg_gt, lg_ltn, lg_gen, lg_eq0n, lg_len, lg_gtn, Nat.zero_le, Nat.not_lt_zero, not_false_eq_true, not_true_eq_false, true_and, and_true]; omega) | omega)) (o_bind (e_w_at L0 (by omega)) (o_neg (not_not_intro rfl) (o_bind q3 rfl))))
          refine ⟨r, k1, k2, ?_⟩
          unfold f_t_areElements b_t_areElements_32
          exact o_pos (by decide) (o_pos (by decide) k3)
        · intro g Q q5
          unfold f_m_vector b_m_vector_88
          rw [q5]
          exact o_pos (m0 g Q q5) (o_neg (not_not_intro rfl) (o_neg (by (first | (simp (maxSteps := 4000000) (disch := omega) only [n_0, n_1, n_2, n_3, n_4, n_5, n_6, n_7, n_8, n_9, n_10, n_11, n_12, n_13, n_14, n_15, n_16, n_18, n_20, n_24, n_31, n_32, n_34, n_40, n_41, n_44, n_45, n_47, n_48, n_57, n_58, n_59, n_61, n_63, n_64, n_65, n_68, n_90, n_91, n_93, n_95, n_97, n_100, n_122, n_123, n_125, n_128, n_144, n_200, n_255, n_256, n_300, n_400, n_600, n_1536, n_3980, n_4000, n_4001, n_4300, n_65536, l_0, l_1, l_2, l_3, l_4, l_10, l_48, l_63, l_255, l_300, nI_ltI, nI_leI, nI_eq, nI_clamp, nI_add, pk_sub, pk_mul, nI_ne1, ne1_nI, nI_pge, nI_nlt0, nI_l, lN_i, lN_add, lN_mul, lN_sub, pk_lLT, pk_lLE, pk_lEQ, lg_lt, lg_ge, lg_eq0, lg_le, lg_gt, lg_ltn, lg_gen, lg_eq0n, lg_len, lg_gtn, Nat.zero_le, Nat.not_lt_zero, not_false_eq_true, not_true_eq_false, true_and, and_true]; done) | (simp (maxSteps := 4000000) (disch := omega) only [n_0, n_1, n_2, n_3, n_4, n_5, n_6, n_7, n_8, n_9, n_10, n_11, n_12, n_13, n_14, n_15, n_16, n_18, n_20, n_24, n_31, n_32, n_34, n_40, n_41, n_44, n_45, n_47, n_48, n_57, n_58, n_59, n_61, n_63, n_64, n_65, n_68, n_90, n_91, n_93, n_95, n_97, n_100, n_122, n_123, n_125, n_128, n_144, n_200, n_255, n_256, n_300, n_400, n_600, n_1536, n_3980, n_4000, n_4001, n_4300, n_65536, l_0, l_1, l_2, l_3, l_4, l_10, l_48, l_63, l_255, l_300, nI_ltI, nI_leI, nI_eq, nI_clamp, nI_add, pk_sub, pk_mul, nI_ne1, ne1_nI, nI_pge, nI_nlt0, nI_l, lN_i, lN_add, lN_mul, lN_sub, pk_lLT, pk_lLE, pk_lEQ, lg_lt, lg_ge, lg_eq0, lg_le, lg_gt, lg_ltn, lg_gen, lg_eq0n, lg_len, lg_gtn, Nat.zero_le, Nat.not_lt_zero, not_false_eq_true, not_true_eq_false, true_and, and_true]; omega) | omega)) (o_neg (by (first | (simp (maxSteps := 4000000) (disch := omega) only [n_0, n_1, n_2, n_3, n_4, n_5, n_6, n_7, n_8, n_9, n_10, n_11, n_12, n_13, n_14, n_15, n_16, n_18, n_20, n_24, n_31, n_32, n_34, n_40, n_41, n_44, n_45, n_47, n_48, n_57, n_58, n_59, n_61, n_63, n_64, n_65, n_68, n_90, n_91, n_93, n_95, n_97, n_100, n_122, n_123, n_125, n_128, n_144, n_200, n_255, n_256, n_300, n_400, n_600, n_1536, n_3980, n_4000, n_4001, n_4300, n_65536, l_0, l_1, l_2, l_3, l_4, l_10, l_48, l_63, l_255, l_300, nI_ltI, nI_leI, nI_eq, nI_clamp, nI_add, pk_sub, pk_mul, nI_ne1, ne1_nI, nI_pge, nI_nlt0, nI_l, lN_i, lN_add, lN_mul, lN_sub, pk_lLT, pk_lLE, pk_lEQ, lg_lt, lg_ge, lg_eq0, lg_le, lg_gt, lg_ltn, lg_gen, lg_eq0n, lg_len, lg_gtn, Nat.zero_le, Nat.not_lt_zero, not_false_eq_true, not_true_eq_false, true_and, and_true]; done) | (simp (maxSteps := 4000000) (disch := omega) only [n_0, n_1, n_2, n_3, n_4, n_5, n_6, n_7, n_8, n_9, n_10, n_11, n_12, n_13, n_14, n_15, n_16, n_18, n_20, n_24, n_31, n_32, n_34, n_40, n_41, n_44, n_45, n_47, n_48, n_57, n_58, n_59, n_61, n_63, n_64, n_65, n_68, n_90, n_91, n_93, n_95, n_97, n_100, n_122, n_123, n_125, n_128, n_144, n_200, n_255, n_256, n_300, n_400, n_600, n_1536, n_3980, n_4000, n_4001, n_4300, n_65536, l_0, l_1, l_2, l_3, l_4, l_10, l_48, l_63, l_255, l_300, nI_ltI, nI_leI, nI_eq, nI_clamp, nI_add, pk_sub, pk_mul, nI_ne1, ne1_nI, nI_pge, nI_nlt0, nI_l, lN_i, lN_add, lN_mul, lN_sub, pk_lLT, pk_lLE, pk_lEQ, lg_lt, lg_ge, lg_eq0, lg_le, lg_gt, lg_ltn, lg_gen, lg_eq0n, lg_len, lg_gtn, Nat.zero_le, Nat.not_lt_zero, not_false_eq_true, not_true_eq_false, true_and, and_true]; omega) | omega)) (o_pos one0 (o_pos (by decide) rfl)))))
        · intro m em g Q
          rw [Nat.mul_one] at em
          subst em
          have := vec_m_loop (g := g) (x0 := 0) (x1 := nI oo) (each := 1) (m := mv) (E := fun i => vV oo (hj h 6 i)) (by decide) (by omega) (fun i hi' K => by
            obtain ⟨r, q1, q2, q3⟩ := e_m_isValue (h := g) (v := hj h 6 i) ho
            have em1 : vV oo (hj h 6 i) ∨ ¬ vV oo (hj h 6 i) := Classical.em _
            refine ⟨r, ?_, ?_, ?_⟩
            · rcases em1 with q | q
              · exact Or.inr (q1 q)
              · exact Or.inl (q2 q)
            · rcases em1 with q | q
              · exact ⟨fun _ => q, q1⟩
              · exact ⟨fun z => by rw [q2 q] at z; exact absurd z (by decide), fun z => absurd z q⟩
            · unfold s_m_vector_136 b_m_vector_203
              rw [Nat.mul_one, Nat.mul_one, nI_clamp (show i < 2 ^ 31 by omega), Q.2.1 1298 (by decide), ← w3 i hi']
              exact o_neg (by (first | (simp (maxSteps := 4000000) (disch := omega) only [n_0, n_1, n_2, n_3, n_4, n_5, n_6, n_7, n_8, n_9, n_10, n_11, n_12, n_13, n_14, n_15, n_16, n_18, n_20, n_24, n_31, n_32, n_34, n_40, n_41, n_44, n_45, n_47, n_48, n_57, n_58, n_59, n_61, n_63, n_64, n_65, n_68, n_90, n_91, n_93, n_95, n_97, n_100, n_122, n_123, n_125, n_128, n_144, n_200, n_255, n_256, n_300, n_400, n_600, n_1536, n_3980, n_4000, n_4001, n_4300, n_65536, l_0, l_1, l_2, l_3, l_4, l_10, l_48, l_63, l_255, l_300, nI_ltI, nI_leI, nI_eq, nI_clamp, nI_add, pk_sub, pk_mul, nI_ne1, ne1_nI, nI_pge, nI_nlt0, nI_l, lN_i, lN_add, lN_mul, lN_sub, pk_lLT, pk_lLE, pk_lEQ, lg_lt, lg_ge, lg_eq0, lg_le, lg_gt, lg_ltn, lg_gen, lg_eq0n, lg_len, lg_gtn, Nat.zero_le, Nat.not_lt_zero, not_false_eq_true, not_true_eq_false, true_and, and_true]; done) | (simp (maxSteps := 4000000) (disch := omega) only [n_0, n_1, n_2, n_3, n_4, n_5, n_6, n_7, n_8, n_9, n_10, n_11, n_12, n_13, n_14, n_15, n_16, n_18, n_20, n_24, n_31, n_32, n_34, n_40, n_41, n_44, n_45, n_47, n_48, n_57, n_58, n_59, n_61, n_63, n_64, n_65, n_68, n_90, n_91, n_93, n_95, n_97, n_100, n_122, n_123, n_125, n_128, n_144, n_200, n_255, n_256, n_300, n_400, n_600, n_1536, n_3980, n_4000, n_4001, n_4300, n_65536, l_0, l_1, l_2, l_3, l_4, l_10, l_48, l_63, l_255, l_300, nI_ltI, nI_leI, nI_eq, nI_clamp, nI_add, pk_sub, pk_mul, nI_ne1, ne1_nI, nI_pge, nI_nlt0, nI_l, lN_i, lN_add, lN_mul, lN_sub, pk_lLT, pk_lLE, pk_lEQ, lg_lt, lg_ge, lg_eq0, lg_le, lg_gt, lg_ltn, lg_gen, lg_eq0n, lg_len, lg_gtn, Nat.zero_le, Nat.not_lt_zero, not_false_eq_true, not_true_eq_false, true_and, and_true]; omega) | omega)) (o_neg one0 (o_neg (not_not_intro rfl) (o_pos (by (first | (simp (maxSteps := 4000000) (disch := omega) only [n_0, n_1, n_2, n_3, n_4, n_5, n_6, n_7, n_8, n_9, n_10, n_11, n_12, n_13, n_14, n_15, n_16, n_18, n_20, n_24, n_31, n_32, n_34, n_40, n_41, n_44, n_45, n_47, n_48, n_57, n_58, n_59, n_61, n_63, n_64, n_65, n_68, n_90, n_91, n_93, n_95, n_97, n_100, n_122, n_123, n_125, n_128, n_144, n_200, n_255, n_256, n_300, n_400, n_600, n_1536, n_3980, n_4000, n_4001, n_4300, n_65536, l_0, l_1, l_2, l_3, l_4, l_10, l_48, l_63, l_255, l_300, nI_ltI, nI_leI, nI_eq, nI_clamp, nI_add, pk_sub, pk_mul, nI_ne1, ne1_nI, nI_pge, nI_nlt0, nI_l, lN_i, lN_add, lN_mul, lN_sub, pk_lLT, pk_lLE, pk_lEQ, lg_lt, lg_ge, lg_eq0, lg_le, lg_gt, lg_ltn, lg_gen, lg_eq0n, lg_len, lg_gtn, Nat.zero_le, Nat.not_lt_zero, not_false_eq_true, not_true_eq_false, true_and, and_true]; done) | (simp (maxSteps := 4000000) (disch := omega) only [n_0, n_1, n_2, n_3, n_4, n_5, n_6, n_7, n_8, n_9, n_10, n_11, n_12, n_13, n_14, n_15, n_16, n_18, n_20, n_24, n_31, n_32, n_34, n_40, n_41, n_44, n_45, n_47, n_48, n_57, n_58, n_59, n_61, n_63, n_64, n_65, n_68, n_90, n_91, n_93, n_95, n_97, n_100, n_122, n_123, n_125, n_128, n_144, n_200, n_255, n_256, n_300, n_400, n_600, n_1536, n_3980, n_4000, n_4001, n_4300, n_65536, l_0, l_1, l_2, l_3, l_4, l_10, l_48, l_63, l_255, l_300, nI_ltI, nI_leI, nI_eq, nI_clamp, nI_add, pk_sub, pk_mul, nI_ne1, ne1_nI, nI_pge, nI_nlt0, nI_l, lN_i, lN_add, lN_mul, lN_sub, pk_lLT, pk_lLE, pk_lEQ, lg_lt, lg_ge, lg_eq0, lg_le, lg_gt, lg_ltn, lg_gen, lg_eq0n, lg_len, lg_gtn, Nat.zero_le, Nat.not_lt_zero, not_false_eq_true, not_true_eq_false, true_and, and_true]; omega) | omega)) (o_bind q3 rfl)))))
          rw [Nat.mul_one] at this
          exact this
        · intro m em g Q
          rw [Nat.mul_one] at em
          subst em
          unfold b_m_vector_215 b_m_vector_259
          rw [pk_div (by omega) (by decide) (by decide), Nat.div_one]
          exact o_pos one0 (o_pos one0 (o_neg (not_not_intro rfl) (o_bind (e_m_bytesOf ho) (o_neg (not_not_intro rfl) rfl))))
        · unfold f_s_bytesOf
          exact o_neg (not_not_intro rfl) (o_bind (e_t_scalarBytes ho) rfl)
        · unfold f_s_alignmentOf
          exact o_neg (not_not_intro rfl) (o_bind (e_t_scalarBytes ho) rfl)
        · intro m N em hN c4 nN EA i hi' u Fu zu
          have Lu : LY u := by rw [Fu.ly]; exact L0
          have mi := mul_lt (b := bO oo) hi'
          have := e_u_content0 (h := u) (S := S) (p := 4000 - N + i * bO oo) (o := oo) (i := i) Lu ho (by omega) (by omega)
          rw [Fu.hj (by decide)] at this
          exact this
        · intro m N em hN c4 nN EA i hi' g0 g K Q Fg e
          have mi := mul_lt (b := bO oo) hi'
          obtain ⟨g2, y1, F1, y2, y3, y4⟩ := e_m_aheadk (v := hj h 6 i) (k := bO oo) e (by omega) (by omega)
          have e4 : N - (i * bO oo + bO oo) + bO oo = N - i * bO oo := by omega
          rw [e4] at y2
          refine ⟨g2, ?_, F1, y2, y3, y4⟩
          unfold s_m_vector_370 b_m_vector_425
          rw [nI_clamp (show i < 2 ^ 31 by omega), Fg.hj (by decide), Q.2.1 1298 (by decide), ← w3 i (by omega)]
          exact o_neg (by (first | (simp (maxSteps := 4000000) (disch := omega) only [n_0, n_1, n_2, n_3, n_4, n_5, n_6, n_7, n_8, n_9, n_10, n_11, n_12, n_13, n_14, n_15, n_16, n_18, n_20, n_24, n_31, n_32, n_34, n_40, n_41, n_44, n_45, n_47, n_48, n_57, n_58, n_59, n_61, n_63, n_64, n_65, n_68, n_90, n_91, n_93, n_95, n_97, n_100, n_122, n_123, n_125, n_128, n_144, n_200, n_255, n_256, n_300, n_400, n_600, n_1536, n_3980, n_4000, n_4001, n_4300, n_65536, l_0, l_1, l_2, l_3, l_4, l_10, l_48, l_63, l_255, l_300, nI_ltI, nI_leI, nI_eq, nI_clamp, nI_add, pk_sub, pk_mul, nI_ne1, ne1_nI, nI_pge, nI_nlt0, nI_l, lN_i, lN_add, lN_mul, lN_sub, pk_lLT, pk_lLE, pk_lEQ, lg_lt, lg_ge, lg_eq0, lg_le, lg_gt, lg_ltn, lg_gen, lg_eq0n, lg_len, lg_gtn, Nat.zero_le, Nat.not_lt_zero, not_false_eq_true, not_true_eq_false, true_and, and_true]; done) | (simp (maxSteps := 4000000) (disch := omega) only [n_0, n_1, n_2, n_3, n_4, n_5, n_6, n_7, n_8, n_9, n_10, n_11, n_12, n_13, n_14, n_15, n_16, n_18, n_20, n_24, n_31, n_32, n_34, n_40, n_41, n_44, n_45, n_47, n_48, n_57, n_58, n_59, n_61, n_63, n_64, n_65, n_68, n_90, n_91, n_93, n_95, n_97, n_100, n_122, n_123, n_125, n_128, n_144, n_200, n_255, n_256, n_300, n_400, n_600, n_1536, n_3980, n_4000, n_4001, n_4300, n_65536, l_0, l_1, l_2, l_3, l_4, l_10, l_48, l_63, l_255, l_300, nI_ltI, nI_leI, nI_eq, nI_clamp, nI_add, pk_sub, pk_mul, nI_ne1, ne1_nI, nI_pge, nI_nlt0, nI_l, lN_i, lN_add, lN_mul, lN_sub, pk_lLT, pk_lLE, pk_lEQ, lg_lt, lg_ge, lg_eq0, lg_le, lg_gt, lg_ltn, lg_gen, lg_eq0n, lg_len, lg_gtn, Nat.zero_le, Nat.not_lt_zero, not_false_eq_true, not_true_eq_false, true_and, and_true]; omega) | omega)) (o_neg (not_not_intro rfl) (o_pos (by (first | (simp (maxSteps := 4000000) (disch := omega) only [n_0, n_1, n_2, n_3, n_4, n_5, n_6, n_7, n_8, n_9, n_10, n_11, n_12, n_13, n_14, n_15, n_16, n_18, n_20, n_24, n_31, n_32, n_34, n_40, n_41, n_44, n_45, n_47, n_48, n_57, n_58, n_59, n_61, n_63, n_64, n_65, n_68, n_90, n_91, n_93, n_95, n_97, n_100, n_122, n_123, n_125, n_128, n_144, n_200, n_255, n_256, n_300, n_400, n_600, n_1536, n_3980, n_4000, n_4001, n_4300, n_65536, l_0, l_1, l_2, l_3, l_4, l_10, l_48, l_63, l_255, l_300, nI_ltI, nI_leI, nI_eq, nI_clamp, nI_add, pk_sub, pk_mul, nI_ne1, ne1_nI, nI_pge, nI_nlt0, nI_l, lN_i, lN_add, lN_mul, lN_sub, pk_lLT, pk_lLE, pk_lEQ, lg_lt, lg_ge, lg_eq0, lg_le, lg_gt, lg_ltn, lg_gen, lg_eq0n, lg_len, lg_gtn, Nat.zero_le, Nat.not_lt_zero, not_false_eq_true, not_true_eq_false, true_and, and_true]; done) | (simp (maxSteps := 4000000) (disch := omega) only [n_0, n_1, n_2, n_3, n_4, n_5, n_6, n_7, n_8, n_9, n_10, n_11, n_12, n_13, n_14, n_15, n_16, n_18, n_20, n_24, n_31, n_32, n_34, n_40, n_41, n_44, n_45, n_47, n_48, n_57, n_58, n_59, n_61, n_63, n_64, n_65, n_68, n_90, n_91, n_93, n_95, n_97, n_100, n_122, n_123, n_125, n_128, n_144, n_200, n_255, n_256, n_300, n_400, n_600, n_1536, n_3980, n_4000, n_4001, n_4300, n_65536, l_0, l_1, l_2, l_3, l_4, l_10, l_48, l_63, l_255, l_300, nI_ltI, nI_leI, nI_eq, nI_clamp, nI_add, pk_sub, pk_mul, nI_ne1, ne1_nI, nI_pge, nI_nlt0, nI_l, lN_i, lN_add, lN_mul, lN_sub, pk_lLT, pk_lLE, pk_lEQ, lg_lt, lg_ge, lg_eq0, lg_le, lg_gt, lg_ltn, lg_gen, lg_eq0n, lg_len, lg_gtn, Nat.zero_le, Nat.not_lt_zero, not_false_eq_true, not_true_eq_false, true_and, and_true]; omega) | omega)) (o_bind y1 rfl)))
    · by_cases x01 : x0 = 1
      · subst x01
        refine vec_ref (yc := 0) (so := 1) H hm b1 b2 b3 b4 ⟨o1, o2⟩ v6 w1 w2 w3 (Or.inl rfl) rfl (Or.inl ⟨rfl, rfl⟩) ?_ (fun g Q q5 => ?_)
        · unfold f_t_valuesOfElement
          exact o_neg (by decide) (o_pos rfl rfl)
        · unfold f_m_vector
          rw [q5]
          exact o_pos (m0 g Q q5) (o_pos (by decide) (o_pos (by decide) (o_pos (by decide) (o_neg (not_not_intro rfl) rfl))))
      · by_cases x02 : x0 = 2
        · subst x02
          rcases R1.lkS sc x1 with ⟨q1, q2⟩ | ⟨t, ht, ex, e7, W, C, M, NN, q2⟩
          · refine vec_none H hm ⟨o1, o2⟩ w1 w2 ?_ (fun g Q q5 => ?_)
            · unfold f_t_valuesOfElement f_t_leafCount
              exact o_neg (by decide) (o_neg (by decide) (o_pos rfl (o_bind r4 (o_pos ⟨s1, k9⟩ (o_bind sc.2.2.2.1 (o_pos ⟨us1, us2⟩ (o_bind q1 (o_bind (o_elimn rfl) rfl))))))))
            · unfold f_m_vector
              rw [q5]
              exact o_pos (m0 g Q q5) (o_pos (by decide) (o_neg (not_not_intro rfl) (o_bind (q2 _ (mq g Q 7 (by decide) (by decide) (by decide)) (mq g Q 20 (by decide) (by decide) (by decide))) rfl)))
          · subst ex
            have w := (W.2.1 t ht).1
            have w0 := W.1
            have D := C.1.ddS (Nat.lt_of_lt_of_le ht W.1.1)
            have d1 : dS S t < hz (hsi h 5 1 0) := by have := D.1; omega
            have d5 := D.2.2.2.2.1
            have Mh : MS h sg sd := M.cg (fun a h1 h2 => (hi_hsi_ne (by omega)).symm) rfl ⟨by rw [hi_hsi_ne (by decide)], by rw [hi_hsi_ne (by decide)], by rw [hi_hsi_ne (by decide)], by rw [hi_hsi_ne (by decide)]⟩
            refine vec_case (yc := nI t) (each := sg 7 t) (bytes := sg 2 t) (al := sg 3 t) (so := 2) (E := fun q => ∀ l, l < sg 7 t → vV (sg 8 (128 * t + l)) (hj h 6 (q * sg 7 t + l))) (EB := fun N i j => sB sg t (fun l => hj h 6 (i * sg 7 t + l)) j (sg 7 t)) H hm b1 b2 b3 b4 ⟨o1, o2⟩ v6 w1 w2 rfl (by decide) (Or.inr ⟨by decide, rfl⟩) (by omega) (by omega) (by omega) (by omega) ?_ ?_ ?_ ?_ ?_ ?_ ?_ ?_ ?_
            · unfold f_t_valuesOfElement f_t_leafCount
              refine o_neg (by decide) (o_neg (by decide) (o_pos rfl (o_bind r4 (o_pos ⟨s1, k9⟩ (o_bind sc.2.2.2.1 (o_pos ⟨us1, us2⟩ (o_bind (C.atS W ht) (o_bind (v := (nI (sg 7 t), hsi h 5 1 0)) (o_elim (o_pos ⟨d1, d5⟩ ?_)) rfl))))))))
              rw [(C.2.2.1 t ht).1.2.2.2]
            · intro m em
              obtain ⟨r, k1, k2, k3⟩ := e_t_areLeaves (mv := mv) L0 C W ht v6
              refine ⟨r, k1, ?_, ?_⟩
              · rw [k2, em]
                exact leaves_all (c := sg 7 t) (m := m) (P := fun l i => vV (sg 8 (128 * t + l)) (hj h 6 i)) (by omega)
              · unfold f_t_areElements
                refine o_neg (not_not_intro rfl) (o_bind r4 (o_pos ⟨s1, k9⟩ (o_bind sc.2.2.2.1 (o_pos ⟨us1, us2⟩ (o_bind (C.atS W ht) (o_bind rfl (o_bind k3 (o_pos k1 rfl))))))))
            · intro g Q q5
              have c80 : hi (hsi (hsi g 1262 0 0) 1262 55 0) 1280 t = nI (sg 7 t) := by rw [hi_hsi_ne (by decide), hi_hsi_ne (by decide), Q.1 1280 (by decide) (by decide)]; exact (Mh.2.1 t ht).1.2.2.2
              unfold f_m_vector b_m_vector_88
              rw [q5]
              refine o_pos (m0 g Q q5) (o_pos (by decide) (o_neg (not_not_intro rfl) (o_bind (q2 _ (mq g Q 7 (by decide) (by decide) (by decide)) (mq g Q 20 (by decide) (by decide) (by decide))) (o_pos one0 (o_neg (not_not_intro rfl) (o_pos (by (first | (simp (maxSteps := 4000000) (disch := omega) only [n_0, n_1, n_2, n_3, n_4, n_5, n_6, n_7, n_8, n_9, n_10, n_11, n_12, n_13, n_14, n_15, n_16, n_18, n_20, n_24, n_31, n_32, n_34, n_40, n_41, n_44, n_45, n_47, n_48, n_57, n_58, n_59, n_61, n_63, n_64, n_65, n_68, n_90, n_91, n_93, n_95, n_97, n_100, n_122, n_123, n_125, n_128, n_144, n_200, n_255, n_256, n_300, n_400, n_600, n_1536, n_3980, n_4000, n_4001, n_4300, n_65536, l_0, l_1, l_2, l_3, l_4, l_10, l_48, l_63, l_255, l_300, nI_ltI, nI_leI, nI_eq, nI_clamp, nI_add, pk_sub, pk_mul, nI_ne1, ne1_nI, nI_pge, nI_nlt0, nI_l, lN_i, lN_add, lN_mul, lN_sub, pk_lLT, pk_lLE, pk_lEQ, lg_lt, lg_ge, lg_eq0, lg_le, lg_gt, lg_ltn, lg_gen, lg_eq0n, lg_len, lg_gtn, Nat.zero_le, Nat.not_lt_zero, not_false_eq_true, not_true_eq_false, true_and, and_true]; done) | (simp (maxSteps := 4000000) (disch := omega) only [n_0, n_1, n_2, n_3, n_4, n_5, n_6, n_7, n_8, n_9, n_10, n_11, n_12, n_13, n_14, n_15, n_16, n_18, n_20, n_24, n_31, n_32, n_34, n_40, n_41, n_44, n_45, n_47, n_48, n_57, n_58, n_59, n_61, n_63, n_64, n_65, n_68, n_90, n_91, n_93, n_95, n_97, n_100, n_122, n_123, n_125, n_128, n_144, n_200, n_255, n_256, n_300, n_400, n_600, n_1536, n_3980, n_4000, n_4001, n_4300, n_65536, l_0, l_1, l_2, l_3, l_4, l_10, l_48, l_63, l_255, l_300, nI_ltI, nI_leI, nI_eq, nI_clamp, nI_add, pk_sub, pk_mul, nI_ne1, ne1_nI, nI_pge, nI_nlt0, nI_l, lN_i, lN_add, lN_mul, lN_sub, pk_lLT, pk_lLE, pk_lEQ, lg_lt, lg_ge, lg_eq0, lg_le, lg_gt, lg_ltn, lg_gen, lg_eq0n, lg_len, lg_gtn, Nat.zero_le, Nat.not_lt_zero, not_false_eq_true, not_true_eq_false, true_and, and_true]; omega) | omega)) ?_))))))
              dsimp only
              rw [nI_clamp (show t < 2 ^ 31 by omega), c80]
            · intro m em g Q
              have Mg := Q.ms Mh
              rw [em]
              refine vec_m_loop (g := g) (x0 := 2) (x1 := nI t) (each := sg 7 t) (m := m) (by omega) (by omega) (fun i hi' K => ?_)
              have mi := mul_lt (b := sg 7 t) hi'
              obtain ⟨r, k1, k2, k3⟩ := e_m_areOf (g := g) (b := i * sg 7 t) Mg W ht (by omega)
              refine ⟨r, k1, ?_, ?_⟩
              · rw [k2]
                constructor
                · intro z l hl
                  have := z l hl
                  rw [Q.2.1 1298 (by decide), ← w3 _ (by omega)] at this
                  exact this
                · intro z l hl
                  rw [Q.2.1 1298 (by decide), ← w3 _ (by omega)]
                  exact z l hl
              · unfold s_m_vector_136 b_m_vector_203
                exact o_neg (by (first | (simp (maxSteps := 4000000) (disch := omega) only [n_0, n_1, n_2, n_3, n_4, n_5, n_6, n_7, n_8, n_9, n_10, n_11, n_12, n_13, n_14, n_15, n_16, n_18, n_20, n_24, n_31, n_32, n_34, n_40, n_41, n_44, n_45, n_47, n_48, n_57, n_58, n_59, n_61, n_63, n_64, n_65, n_68, n_90, n_91, n_93, n_95, n_97, n_100, n_122, n_123, n_125, n_128, n_144, n_200, n_255, n_256, n_300, n_400, n_600, n_1536, n_3980, n_4000, n_4001, n_4300, n_65536, l_0, l_1, l_2, l_3, l_4, l_10, l_48, l_63, l_255, l_300, nI_ltI, nI_leI, nI_eq, nI_clamp, nI_add, pk_sub, pk_mul, nI_ne1, ne1_nI, nI_pge, nI_nlt0, nI_l, lN_i, lN_add, lN_mul, lN_sub, pk_lLT, pk_lLE, pk_lEQ, lg_lt, lg_ge, lg_eq0, lg_le, lg_gt, lg_ltn, lg_gen, lg_eq0n, lg_len, lg_gtn, Nat.zero_le, Nat.not_lt_zero, not_false_eq_true, not_true_eq_false, true_and, and_true]; done) | (simp (maxSteps := 4000000) (disch := omega) only [n_0, n_1, n_2, n_3, n_4, n_5, n_6, n_7, n_8, n_9, n_10, n_11, n_12, n_13, n_14, n_15, n_16, n_18, n_20, n_24, n_31, n_32, n_34, n_40, n_41, n_44, n_45, n_47, n_48, n_57, n_58, n_59, n_61, n_63, n_64, n_65, n_68, n_90, n_91, n_93, n_95, n_97, n_100, n_122, n_123, n_125, n_128, n_144, n_200, n_255, n_256, n_300, n_400, n_600, n_1536, n_3980, n_4000, n_4001, n_4300, n_65536, l_0, l_1, l_2, l_3, l_4, l_10, l_48, l_63, l_255, l_300, nI_ltI, nI_leI, nI_eq, nI_clamp, nI_add, pk_sub, pk_mul, nI_ne1, ne1_nI, nI_pge, nI_nlt0, nI_l, lN_i, lN_add, lN_mul, lN_sub, pk_lLT, pk_lLE, pk_lEQ, lg_lt, lg_ge, lg_eq0, lg_le, lg_gt, lg_ltn, lg_gen, lg_eq0n, lg_len, lg_gtn, Nat.zero_le, Nat.not_lt_zero, not_false_eq_true, not_true_eq_false, true_and, and_true]; omega) | omega)) (o_neg one0 (o_pos (by decide) (o_neg (not_not_intro rfl) (o_bind k3 rfl))))
            · intro m em g Q
              have Mg := Q.ms Mh
              have mm := (Mg.2.1 t ht).1
              unfold b_m_vector_215 b_m_vector_259
              rw [em, pk_div (by omega) (by omega) (by omega), Nat.mul_div_cancel _ (by omega), nI_clamp (show t < 2 ^ 31 by omega), mm.2.1, mm.2.2.1]
              exact o_pos one0 (o_pos (show ¬ nI (sg 7 t) = 0 by (first | (simp (maxSteps := 4000000) (disch := omega) only [n_0, n_1, n_2, n_3, n_4, n_5, n_6, n_7, n_8, n_9, n_10, n_11, n_12, n_13, n_14, n_15, n_16, n_18, n_20, n_24, n_31, n_32, n_34, n_40, n_41, n_44, n_45, n_47, n_48, n_57, n_58, n_59, n_61, n_63, n_64, n_65, n_68, n_90, n_91, n_93, n_95, n_97, n_100, n_122, n_123, n_125, n_128, n_144, n_200, n_255, n_256, n_300, n_400, n_600, n_1536, n_3980, n_4000, n_4001, n_4300, n_65536, l_0, l_1, l_2, l_3, l_4, l_10, l_48, l_63, l_255, l_300, nI_ltI, nI_leI, nI_eq, nI_clamp, nI_add, pk_sub, pk_mul, nI_ne1, ne1_nI, nI_pge, nI_nlt0, nI_l, lN_i, lN_add, lN_mul, lN_sub, pk_lLT, pk_lLE, pk_lEQ, lg_lt, lg_ge, lg_eq0, lg_le, lg_gt, lg_ltn, lg_gen, lg_eq0n, lg_len, lg_gtn, Nat.zero_le, Nat.not_lt_zero, not_false_eq_true, not_true_eq_false, true_and, and_true]; done) | (simp (maxSteps := 4000000) (disch := omega) only [n_0, n_1, n_2, n_3, n_4, n_5, n_6, n_7, n_8, n_9, n_10, n_11, n_12, n_13, n_14, n_15, n_16, n_18, n_20, n_24, n_31, n_32, n_34, n_40, n_41, n_44, n_45, n_47, n_48, n_57, n_58, n_59, n_61, n_63, n_64, n_65, n_68, n_90, n_91, n_93, n_95, n_97, n_100, n_122, n_123, n_125, n_128, n_144, n_200, n_255, n_256, n_300, n_400, n_600, n_1536, n_3980, n_4000, n_4001, n_4300, n_65536, l_0, l_1, l_2, l_3, l_4, l_10, l_48, l_63, l_255, l_300, nI_ltI, nI_leI, nI_eq, nI_clamp, nI_add, pk_sub, pk_mul, nI_ne1, ne1_nI, nI_pge, nI_nlt0, nI_l, lN_i, lN_add, lN_mul, lN_sub, pk_lLT, pk_lLE, pk_lEQ, lg_lt, lg_ge, lg_eq0, lg_le, lg_gt, lg_ltn, lg_gen, lg_eq0n, lg_len, lg_gtn, Nat.zero_le, Nat.not_lt_zero, not_false_eq_true, not_true_eq_false, true_and, and_true]; omega) | omega)) (o_pos (by decide) (o_neg (not_not_intro rfl) (o_pos (by (first | (simp (maxSteps := 4000000) (disch := omega) only [n_0, n_1, n_2, n_3, n_4, n_5, n_6, n_7, n_8, n_9, n_10, n_11, n_12, n_13, n_14, n_15, n_16, n_18, n_20, n_24, n_31, n_32, n_34, n_40, n_41, n_44, n_45, n_47, n_48, n_57, n_58, n_59, n_61, n_63, n_64, n_65, n_68, n_90, n_91, n_93, n_95, n_97, n_100, n_122, n_123, n_125, n_128, n_144, n_200, n_255, n_256, n_300, n_400, n_600, n_1536, n_3980, n_4000, n_4001, n_4300, n_65536, l_0, l_1, l_2, l_3, l_4, l_10, l_48, l_63, l_255, l_300, nI_ltI, nI_leI, nI_eq, nI_clamp, nI_add, pk_sub, pk_mul, nI_ne1, ne1_nI, nI_pge, nI_nlt0, nI_l, lN_i, lN_add, lN_mul, lN_sub, pk_lLT, pk_lLE, pk_lEQ, lg_lt, lg_ge, lg_eq0, lg_le, lg_gt, lg_ltn, lg_gen, lg_eq0n, lg_len, lg_gtn, Nat.zero_le, Nat.not_lt_zero, not_false_eq_true, not_true_eq_false, true_and, and_true]; done) | (simp (maxSteps := 4000000) (disch := omega) only [n_0, n_1, n_2, n_3, n_4, n_5, n_6, n_7, n_8, n_9, n_10, n_11, n_12, n_13, n_14, n_15, n_16, n_18, n_20, n_24, n_31, n_32, n_34, n_40, n_41, n_44, n_45, n_47, n_48, n_57, n_58, n_59, n_61, n_63, n_64, n_65, n_68, n_90, n_91, n_93, n_95, n_97, n_100, n_122, n_123, n_125, n_128, n_144, n_200, n_255, n_256, n_300, n_400, n_600, n_1536, n_3980, n_4000, n_4001, n_4300, n_65536, l_0, l_1, l_2, l_3, l_4, l_10, l_48, l_63, l_255, l_300, nI_ltI, nI_leI, nI_eq, nI_clamp, nI_add, pk_sub, pk_mul, nI_ne1, ne1_nI, nI_pge, nI_nlt0, nI_l, lN_i, lN_add, lN_mul, lN_sub, pk_lLT, pk_lLE, pk_lEQ, lg_lt, lg_ge, lg_eq0, lg_le, lg_gt, lg_ltn, lg_gen, lg_eq0n, lg_len, lg_gtn, Nat.zero_le, Nat.not_lt_zero, not_false_eq_true, not_true_eq_false, true_and, and_true]; omega) | omega)) (o_pos (by decide) (o_neg (not_not_intro rfl) (o_pos (by (first | (simp (maxSteps := 4000000) (disch := omega) only [n_0, n_1, n_2, n_3, n_4, n_5, n_6, n_7, n_8, n_9, n_10, n_11, n_12, n_13, n_14, n_15, n_16, n_18, n_20, n_24, n_31, n_32, n_34, n_40, n_41, n_44, n_45, n_47, n_48, n_57, n_58, n_59, n_61, n_63, n_64, n_65, n_68, n_90, n_91, n_93, n_95, n_97, n_100, n_122, n_123, n_125, n_128, n_144, n_200, n_255, n_256, n_300, n_400, n_600, n_1536, n_3980, n_4000, n_4001, n_4300, n_65536, l_0, l_1, l_2, l_3, l_4, l_10, l_48, l_63, l_255, l_300, nI_ltI, nI_leI, nI_eq, nI_clamp, nI_add, pk_sub, pk_mul, nI_ne1, ne1_nI, nI_pge, nI_nlt0, nI_l, lN_i, lN_add, lN_mul, lN_sub, pk_lLT, pk_lLE, pk_lEQ, lg_lt, lg_ge, lg_eq0, lg_le, lg_gt, lg_ltn, lg_gen, lg_eq0n, lg_len, lg_gtn, Nat.zero_le, Nat.not_lt_zero, not_false_eq_true, not_true_eq_false, true_and, and_true]; done) | (simp (maxSteps := 4000000) (disch := omega) only [n_0, n_1, n_2, n_3, n_4, n_5, n_6, n_7, n_8, n_9, n_10, n_11, n_12, n_13, n_14, n_15, n_16, n_18, n_20, n_24, n_31, n_32, n_34, n_40, n_41, n_44, n_45, n_47, n_48, n_57, n_58, n_59, n_61, n_63, n_64, n_65, n_68, n_90, n_91, n_93, n_95, n_97, n_100, n_122, n_123, n_125, n_128, n_144, n_200, n_255, n_256, n_300, n_400, n_600, n_1536, n_3980, n_4000, n_4001, n_4300, n_65536, l_0, l_1, l_2, l_3, l_4, l_10, l_48, l_63, l_255, l_300, nI_ltI, nI_leI, nI_eq, nI_clamp, nI_add, pk_sub, pk_mul, nI_ne1, ne1_nI, nI_pge, nI_nlt0, nI_l, lN_i, lN_add, lN_mul, lN_sub, pk_lLT, pk_lLE, pk_lEQ, lg_lt, lg_ge, lg_eq0, lg_le, lg_gt, lg_ltn, lg_gen, lg_eq0n, lg_len, lg_gtn, Nat.zero_le, Nat.not_lt_zero, not_false_eq_true, not_true_eq_false, true_and, and_true]; omega) | omega)) rfl)))))))
            · have := e_s_bytesOf (so := 2) (o := t) C W (Or.inl (Or.inr (Or.inr (Or.inl ⟨rfl, ht⟩))))
              exact this
            · have := e_s_alignmentOf (so := 2) (o := t) C W (Or.inl (Or.inr (Or.inr (Or.inl ⟨rfl, ht⟩))))
              exact this
            · intro m N em hN c4 nN EA i hi' u Fu zu
              have Lu : LY u := by rw [Fu.ly]; exact L0
              have mi := mul_lt (b := sg 2 t) hi'
              have mj := mul_lt (b := sg 7 t) hi'
              have scu : SC u S := by rw [Fu.sc]; exact sc
              have Cu : CS u S sg sd := C.cg W scu (fun a h1 h2 => Fu.row (fun k => by unfold uP; omega)) (fun a h1 h2 => Fu.hj (by omega))
              have := e_u_content2 (h := u) (p := 4000 - N + i * sg 2 t) (i := i) Lu Cu W hS.1 ht (by omega) (by omega) zu
              rw [Fu.hj (by decide)] at this
              exact this
            · intro m N em hN c4 nN EA i hi' g0 g K Q Fg e
              have mi := mul_lt (b := sg 2 t) hi'
              have mj := mul_lt (b := sg 7 t) hi'
              have i6 := Nat.le_mul_of_pos_right i (show 0 < sg 7 t by omega)
              have Mg0 := Q.ms Mh
              have Mg : MS g sg sd := Mg0.cg (fun a h1 h2 => Fg.row (fun k => by unfold mV; omega)) (Fg.hj (by decide)) ⟨Fg.at (by simp [mV]), Fg.at (by simp [mV]), Fg.at (by simp [mV]), Fg.at (by simp [mV])⟩
              obtain ⟨g2, y1, F1, y2, y3, y4⟩ := e_m_struct (b := i * sg 7 t) Mg W ht (by omega) e (by omega)
              have e4 : N - (i * sg 2 t + sg 2 t) + sg 2 t = N - i * sg 2 t := by omega
              rw [e4] at y2
              refine ⟨g2, ?_, F1, y2, y3, fun j hj' => ?_⟩
              · unfold s_m_vector_370 b_m_vector_425
                rw [pk_mul]
                exact o_neg (by (first | (simp (maxSteps := 4000000) (disch := omega) only [n_0, n_1, n_2, n_3, n_4, n_5, n_6, n_7, n_8, n_9, n_10, n_11, n_12, n_13, n_14, n_15, n_16, n_18, n_20, n_24, n_31, n_32, n_34, n_40, n_41, n_44, n_45, n_47, n_48, n_57, n_58, n_59, n_61, n_63, n_64, n_65, n_68, n_90, n_91, n_93, n_95, n_97, n_100, n_122, n_123, n_125, n_128, n_144, n_200, n_255, n_256, n_300, n_400, n_600, n_1536, n_3980, n_4000, n_4001, n_4300, n_65536, l_0, l_1, l_2, l_3, l_4, l_10, l_48, l_63, l_255, l_300, nI_ltI, nI_leI, nI_eq, nI_clamp, nI_add, pk_sub, pk_mul, nI_ne1, ne1_nI, nI_pge, nI_nlt0, nI_l, lN_i, lN_add, lN_mul, lN_sub, pk_lLT, pk_lLE, pk_lEQ, lg_lt, lg_ge, lg_eq0, lg_le, lg_gt, lg_ltn, lg_gen, lg_eq0n, lg_len, lg_gtn, Nat.zero_le, Nat.not_lt_zero, not_false_eq_true, not_true_eq_false, true_and, and_true]; done) | (simp (maxSteps := 4000000) (disch := omega) only [n_0, n_1, n_2, n_3, n_4, n_5, n_6, n_7, n_8, n_9, n_10, n_11, n_12, n_13, n_14, n_15, n_16, n_18, n_20, n_24, n_31, n_32, n_34, n_40, n_41, n_44, n_45, n_47, n_48, n_57, n_58, n_59, n_61, n_63, n_64, n_65, n_68, n_90, n_91, n_93, n_95, n_97, n_100, n_122, n_123, n_125, n_128, n_144, n_200, n_255, n_256, n_300, n_400, n_600, n_1536, n_3980, n_4000, n_4001, n_4300, n_65536, l_0, l_1, l_2, l_3, l_4, l_10, l_48, l_63, l_255, l_300, nI_ltI, nI_leI, nI_eq, nI_clamp, nI_add, pk_sub, pk_mul, nI_ne1, ne1_nI, nI_pge, nI_nlt0, nI_l, lN_i, lN_add, lN_mul, lN_sub, pk_lLT, pk_lLE, pk_lEQ, lg_lt, lg_ge, lg_eq0, lg_le, lg_gt, lg_ltn, lg_gen, lg_eq0n, lg_len, lg_gtn, Nat.zero_le, Nat.not_lt_zero, not_false_eq_true, not_true_eq_false, true_and, and_true]; omega) | omega)) (o_pos (by decide) (o_neg (not_not_intro rfl) (o_bind y1 rfl)))
              · have := y4 (sg 2 t - 1 - j) (by omega)
                rw [show sg 2 t - 1 - (sg 2 t - 1 - j) = j by omega] at this
                rw [this]
                congr 1
                have vv : ∀ l, l < sg 7 t → hj g 1298 (i * sg 7 t + l) = hj h 6 (i * sg 7 t + l) := fun l hl => by rw [Fg.hj (by decide), Q.2.1 1298 (by decide), ← w3 _ (by omega)]
                exact sB_cg _ (sg 7 t) vv
        · by_cases x03 : x0 = 3
          · subst x03
            rcases R1.lkT sc x1 with ⟨q1, q2⟩ | ⟨t, ht, ex, e7, W, C, M, NN, q2⟩
            · refine vec_none H hm ⟨o1, o2⟩ w1 w2 ?_ (fun g Q q5 => ?_)
              · unfold f_t_valuesOfElement
                exact o_neg (by decide) (o_neg (by decide) (o_neg (by decide) (o_pos rfl (o_bind r4 (o_pos ⟨s1, k9⟩ (o_bind sc.2.2.2.2.1 (o_pos ⟨ut1, ut2⟩ (o_bind q1 (o_elimn rfl)))))))))
              · unfold f_m_vector
                rw [q5]
                exact o_pos (m0 g Q q5) (o_pos (by decide) (o_pos (by decide) (o_neg (not_not_intro rfl) (o_bind (q2 _ (mq g Q 7 (by decide) (by decide) (by decide)) (mq g Q 31 (by decide) (by decide) (by decide))) rfl))))
            · refine vec_ref (yc := x1) (so := 3) H hm b1 b2 b3 b4 ⟨o1, o2⟩ v6 w1 w2 w3 (Or.inr rfl) rfl (Or.inr ⟨rfl, rfl⟩) ?_ (fun g Q q5 => ?_)
              · unfold f_t_valuesOfElement
                subst ex
                exact o_neg (by decide) (o_neg (by decide) (o_neg (by decide) (o_pos rfl (o_bind r4 (o_pos ⟨s1, k9⟩ (o_bind sc.2.2.2.2.1 (o_pos ⟨ut1, ut2⟩ (o_bind (C.atT W ht) (o_elim rfl)))))))))
              · unfold f_m_vector
                rw [q5]
                exact o_pos (m0 g Q q5) (o_pos (by decide) (o_pos (by decide) (o_neg (not_not_intro rfl) (o_bind (q2 _ (mq g Q 7 (by decide) (by decide) (by decide)) (mq g Q 31 (by decide) (by decide) (by decide))) rfl))))
          · refine vec_none H hm ⟨o1, o2⟩ w1 w2 ?_ (fun g Q q5 => ?_)
            · unfold f_t_valuesOfElement
              exact o_neg x00 (o_neg x01 (o_neg x02 (o_neg x03 rfl)))
            · unfold f_m_vector
              rw [q5]
              exact o_pos (m0 g Q q5) (o_pos x00 (o_pos x02 (o_pos x03 (o_pos x01 rfl))))
  · refine vec_thw H hm w2 (j := 1) (k := 1) (by decide) ?_ (fun g Q q5 => ⟨0, ?_⟩)
    · unfold f_t_vector
      exact o_bind (e_w_takeAll L w1) (o_bind (e_u_isOpen1 (by rw [o10]; exact o1)) (o_neg one0 (o_pos hm1 rfl)))
    · unfold f_m_vector
      exact o_neg (by rw [Q.2.2 67 (by decide) (by decide) (by decide)]; exact o2) rfl
end Vec
