/-! The law: one call, both sides -/

theorem OW.rfl' {u : XH} : OW u u := Or.inl rfl
section Lw
variable {h : XH}
theorem th_law {α β : Type} {c : XH → Option (Sum α Nat × XH)} {m : XH → Option (β × XH)} {eq : α → β → Prop} {ks : List (Nat × Nat)} (A : TH h c m eq ks) {fL : Option (Int32 × XH)} {pv : α → XH → Prop} (e1 : ∀ v h1, c h = some (Sum.inl v, h1) → ∃ g1, fL = some (0, g1) ∧ OW h1 g1 ∧ pv v g1) (e2 : ∀ j k h1, (j, k) ∈ ks → c h = some (Sum.inr j, h1) → fL = some (nI k, h1)) (kp : ∀ j k, (j, k) ∈ ks → 0 < k ∧ k < 10) : ∃ x g1 w h2, fL = some (x, g1) ∧ m g1 = some (w, h2) ∧ f_m_thrown h2 = some (x, h2) ∧ RX h2 ∧ RM h h2 ∧ ((¬ x = 0) ∨ (x = 0 ∧ ∃ v, eq v w ∧ pv v g1)) := by
  rcases A with ⟨v, h1, a1, a2⟩ | ⟨j, k, h1, hjk, a1, a2⟩
  · obtain ⟨g1, b1, b2, b3⟩ := e1 v h1 a1
    obtain ⟨w, h2, c1, c2, c3, c4, c5⟩ := a2 g1 b2
    refine ⟨0, g1, w, h2, b1, c1, ?_, c4, c5, Or.inr ⟨rfl, v, c2, b3⟩⟩
    unfold f_m_thrown
    rw [c3]
  · obtain ⟨w, h2, c1, c3, c4, c5⟩ := a2 h1 (Or.inl rfl)
    obtain ⟨k0, k1⟩ := kp j k hjk
    refine ⟨nI k, h1, w, h2, e2 j k h1 hjk a1, c1, ?_, c4, c5, Or.inl (show ¬ nI k = nI 0 by (first | (simp (maxSteps := 4000000) (disch := omega) only [n_0, n_1, n_2, n_3, n_4, n_5, n_6, n_7, n_8, n_9, n_10, n_11, n_12, n_13, n_14, n_15, n_16, n_18, n_20, n_24, n_31, n_32, n_34, n_40, n_41, n_44, n_45, n_47, n_48, n_57, n_58, n_59, n_61, n_63, n_64, n_65, n_68, n_90, n_91, n_93, n_95, n_97, n_100, n_122, n_123, n_125, n_128, n_144, n_200, n_255, n_256, n_300, n_400, n_600, n_1536, n_3980, n_4000, n_4001, n_4300, n_65536, l_0, l_1, l_2, l_3, l_4, l_10, l_48, l_63, l_255, l_300, nI_ltI, nI_leI, nI_eq, nI_clamp, nI_add, pk_sub, pk_mul, nI_ne1, ne1_nI, nI_pge, nI_nlt0, nI_l, lN_i, lN_add, lN_mul, lN_sub, pk_lLT, pk_lLE, pk_lEQ, lg_lt, lg_ge, lg_eq0, lg_le, lg_gt, lg_ltn, lg_gen, lg_eq0n, lg_len, lg_gtn, Nat.zero_le, Nat.not_lt_zero, not_false_eq_true, not_true_eq_false, true_and, and_true]; done) | (simp (maxSteps := 4000000) (disch := omega) only [n_0, n_1, n_2, n_3, n_4, n_5, n_6, n_7, n_8, n_9, n_10, n_11, n_12, n_13, n_14, n_15, n_16, n_18, n_20, n_24, n_31, n_32, n_34, n_40, n_41, n_44, n_45, n_47, n_48, n_57, n_58, n_59, n_61, n_63, n_64, n_65, n_68, n_90, n_91, n_93, n_95, n_97, n_100, n_122, n_123, n_125, n_128, n_144, n_200, n_255, n_256, n_300, n_400, n_600, n_1536, n_3980, n_4000, n_4001, n_4300, n_65536, l_0, l_1, l_2, l_3, l_4, l_10, l_48, l_63, l_255, l_300, nI_ltI, nI_leI, nI_eq, nI_clamp, nI_add, pk_sub, pk_mul, nI_ne1, ne1_nI, nI_pge, nI_nlt0, nI_l, lN_i, lN_add, lN_mul, lN_sub, pk_lLT, pk_lLE, pk_lEQ, lg_lt, lg_ge, lg_eq0, lg_le, lg_gt, lg_ltn, lg_gen, lg_eq0n, lg_len, lg_gtn, Nat.zero_le, Nat.not_lt_zero, not_false_eq_true, not_true_eq_false, true_and, and_true]; omega) | omega))⟩
    unfold f_m_thrown
    rw [c3]
variable {G : XG} {i : Nat}

theorem lk {j : Nat} (hN : gN G ≤ 3072) (h6 : i + 6 ≤ gN G) (hj' : j < 6) : 0 ≤ nI i + nI j ∧ nI i + nI j < nI (gN G) := by
  rw [nI_add]
  exact ⟨nI_pos' (by omega), by (first | (simp (maxSteps := 4000000) (disch := omega) only [n_0, n_1, n_2, n_3, n_4, n_5, n_6, n_7, n_8, n_9, n_10, n_11, n_12, n_13, n_14, n_15, n_16, n_18, n_20, n_24, n_31, n_32, n_34, n_40, n_41, n_44, n_45, n_47, n_48, n_57, n_58, n_59, n_61, n_63, n_64, n_65, n_68, n_90, n_91, n_93, n_95, n_97, n_100, n_122, n_123, n_125, n_128, n_144, n_200, n_255, n_256, n_300, n_400, n_600, n_1536, n_3980, n_4000, n_4001, n_4300, n_65536, l_0, l_1, l_2, l_3, l_4, l_10, l_48, l_63, l_255, l_300, nI_ltI, nI_leI, nI_eq, nI_clamp, nI_add, pk_sub, pk_mul, nI_ne1, ne1_nI, nI_pge, nI_nlt0, nI_l, lN_i, lN_add, lN_mul, lN_sub, pk_lLT, pk_lLE, pk_lEQ, lg_lt, lg_ge, lg_eq0, lg_le, lg_gt, lg_ltn, lg_gen, lg_eq0n, lg_len, lg_gtn, Nat.zero_le, Nat.not_lt_zero, not_false_eq_true, not_true_eq_false, true_and, and_true]; done) | (simp (maxSteps := 4000000) (disch := omega) only [n_0, n_1, n_2, n_3, n_4, n_5, n_6, n_7, n_8, n_9, n_10, n_11, n_12, n_13, n_14, n_15, n_16, n_18, n_20, n_24, n_31, n_32, n_34, n_40, n_41, n_44, n_45, n_47, n_48, n_57, n_58, n_59, n_61, n_63, n_64, n_65, n_68, n_90, n_91, n_93, n_95, n_97, n_100, n_122, n_123, n_125, n_128, n_144, n_200, n_255, n_256, n_300, n_400, n_600, n_1536, n_3980, n_4000, n_4001, n_4300, n_65536, l_0, l_1, l_2, l_3, l_4, l_10, l_48, l_63, l_255, l_300, nI_ltI, nI_leI, nI_eq, nI_clamp, nI_add, pk_sub, pk_mul, nI_ne1, ne1_nI, nI_pge, nI_nlt0, nI_l, lN_i, lN_add, lN_mul, lN_sub, pk_lLT, pk_lLE, pk_lEQ, lg_lt, lg_ge, lg_eq0, lg_le, lg_gt, lg_ltn, lg_gen, lg_eq0n, lg_len, lg_gtn, Nat.zero_le, Nat.not_lt_zero, not_false_eq_true, not_true_eq_false, true_and, and_true]; omega) | omega)⟩
theorem lgo {K : Int32 → XH → Option (Int32 × XH)} {u : XH} : b_law_1263 G K (nI i) u = K (nI (i + 6)) u := by
  unfold b_law_1263
  rw [n_6, nI_add]
theorem lg_same {x : Int64} : lg_cmp x x = 0 := by rw [lg_eq0]

theorem lw_feed (hN : gN G ≤ 3072) (h6 : i + 6 ≤ gN G) (H : RX h) (hm : hz h < 900000) : ∃ h2, RX h2 ∧ RM h h2 ∧ ∀ K : Int32 → XH → Option (Int32 × XH), (if 0 ≤ ((nI i) + 1) ∧ ((nI i) + 1) < nI (gN G) then (if 0 ≤ ((nI i) + 2) ∧ ((nI i) + 2) < nI (gN G) then (if 0 ≤ ((nI i) + 3) ∧ ((nI i) + 3) < nI (gN G) then (if 0 ≤ ((nI i) + 4) ∧ ((nI i) + 4) < nI (gN G) then (if 0 ≤ ((nI i) + 5) ∧ ((nI i) + 5) < nI (gN G) then (Option.bind (f_t_feed (gX G (Int32.toNatClampNeg ((nI i) + 1))) (gX G (Int32.toNatClampNeg ((nI i) + 2))) (gX G (Int32.toNatClampNeg ((nI i) + 3))) (gX G (Int32.toNatClampNeg ((nI i) + 4))) (gX G (Int32.toNatClampNeg ((nI i) + 5))) h) fun r37 => (if 0 ≤ ((nI i) + 1) ∧ ((nI i) + 1) < nI (gN G) then (if 0 ≤ ((nI i) + 2) ∧ ((nI i) + 2) < nI (gN G) then (if 0 ≤ ((nI i) + 3) ∧ ((nI i) + 3) < nI (gN G) then (if 0 ≤ ((nI i) + 4) ∧ ((nI i) + 4) < nI (gN G) then (if 0 ≤ ((nI i) + 5) ∧ ((nI i) + 5) < nI (gN G) then (Option.bind (f_m_feed (gX G (Int32.toNatClampNeg ((nI i) + 1))) (gX G (Int32.toNatClampNeg ((nI i) + 2))) (gX G (Int32.toNatClampNeg ((nI i) + 3))) (gX G (Int32.toNatClampNeg ((nI i) + 4))) (gX G (Int32.toNatClampNeg ((nI i) + 5))) r37.2) fun r45 => (if r37.1 = r45.1 then (b_law_1263 G K (nI i) r45.2) else (some (0, r45.2)))) else none) else none) else none) else none) else none)) else none) else none) else none) else none) else none) = K (nI (i + 6)) h2 := by
  have q1 : 0 ≤ nI i + 1 ∧ nI i + 1 < nI (gN G) := lk (j := 1) hN h6 (by decide)
  have q2 : 0 ≤ nI i + 2 ∧ nI i + 2 < nI (gN G) := lk (j := 2) hN h6 (by decide)
  have q3 : 0 ≤ nI i + 3 ∧ nI i + 3 < nI (gN G) := lk (j := 3) hN h6 (by decide)
  have q4 : 0 ≤ nI i + 4 ∧ nI i + 4 < nI (gN G) := lk (j := 4) hN h6 (by decide)
  have q5 : 0 ≤ nI i + 5 ∧ nI i + 5 < nI (gN G) := lk (j := 5) hN h6 (by decide)
  obtain ⟨r, h1, h2, e1, e2, e3, e4⟩ := op_feed (a := (gX G (Int32.toNatClampNeg (nI i + 1)))) (b := (gX G (Int32.toNatClampNeg (nI i + 2)))) (c := (gX G (Int32.toNatClampNeg (nI i + 3)))) (d := (gX G (Int32.toNatClampNeg (nI i + 4)))) (e := (gX G (Int32.toNatClampNeg (nI i + 5)))) H
  exact ⟨h2, e3, e4, fun K => o_pos q1 (o_pos q2 (o_pos q3 (o_pos q4 (o_pos q5 (o_bind e1 (o_pos q1 (o_pos q2 (o_pos q3 (o_pos q4 (o_pos q5 (o_bind e2 (o_pos rfl lgo))))))))))))⟩
theorem lw_end (hN : gN G ≤ 3072) (h6 : i + 6 ≤ gN G) (H : RX h) (hm : hz h < 900000) : ∃ h2, RX h2 ∧ RM h h2 ∧ ∀ K : Int32 → XH → Option (Int32 × XH), (if 0 ≤ ((nI i) + 1) ∧ ((nI i) + 1) < nI (gN G) then (Option.bind (f_t_end (gX G (Int32.toNatClampNeg ((nI i) + 1))) h) fun r50 => (if 0 ≤ ((nI i) + 1) ∧ ((nI i) + 1) < nI (gN G) then (Option.bind (f_m_end (gX G (Int32.toNatClampNeg ((nI i) + 1))) r50.2) fun r54 => (if r50.1 = r54.1 then (b_law_1263 G K (nI i) r54.2) else (some (0, r54.2)))) else none)) else none) = K (nI (i + 6)) h2 := by
  have q1 : 0 ≤ nI i + 1 ∧ nI i + 1 < nI (gN G) := lk (j := 1) hN h6 (by decide)
  obtain ⟨r, h1, h2, e1, e2, e3, e4⟩ := op_end (x := (gX G (Int32.toNatClampNeg (nI i + 1)))) H
  exact ⟨h2, e3, e4, fun K => o_pos q1 (o_bind e1 (o_pos q1 (o_bind e2 (o_pos rfl lgo))))⟩
theorem lw_schema (hN : gN G ≤ 3072) (h6 : i + 6 ≤ gN G) (H : RX h) (hm : hz h < 900000) : ∃ h2, RX h2 ∧ RM h h2 ∧ ∀ K : Int32 → XH → Option (Int32 × XH), (Option.bind (f_L_schema h) fun r58 => (Option.bind (f_m_schema r58.2) fun r61 => (Option.bind (f_m_thrown r61.2) fun r64 => (if r64.1 = r58.1 then (if ¬ r58.1 = 0 then (b_law_299 G K (nI i) r64.2) else (if (lg_cmp (hj r64.2 1316 (Int32.toNatClampNeg 0)) (Int32.toInt64 r61.1)) = 0 then (b_law_299 G K (nI i) r64.2) else (some (0, r64.2)))) else (some (0, r64.2)))))) = K (nI (i + 6)) h2 := by
  have e2 : ∀ j k h1, (j, k) ∈ [(0, 1)] → f_t_schema  h = some (Sum.inr j, h1) → f_L_schema  h = some (nI k, h1) := by
    intro j k h1 hjk a
    have z : (j = 0 ∧ k = 1) := by simpa using hjk
    unfold f_L_schema
    rw [a]
    rcases z with ⟨z1, z2⟩ <;> subst z1 <;> subst z2 <;> rfl
  have kp : ∀ j k, (j, k) ∈ [(0, 1)] → 0 < k ∧ k < 10 := by
    intro j k hjk
    have z : (j = 0 ∧ k = 1) := by simpa using hjk
    omega
  obtain ⟨x, g1, w, h2, y1, y2, y3, y4, y5, y6⟩ := th_law (op_schema H hm) (fL := f_L_schema  h) (pv := fun v g1 => hj g1 1316 0 = (Int32.toInt64 v)) (fun v h1 a => ⟨hsj h1 1316 0 (Int32.toInt64 v), by unfold f_L_schema; rw [a]; rfl, Or.inr ⟨_, rfl⟩, hj_at⟩) e2 kp
  have jk : hj h2 1316 = hj g1 1316 := j_f_m_schema y2
  refine ⟨h2, y4, y5, fun K => o_bind y1 (o_bind y2 (o_bind y3 (o_pos rfl ?_)))⟩
  have go : b_law_299 G K (nI i) h2 = K (nI (i + 6)) h2 := by
    unfold b_law_299
    exact lgo
  rcases y6 with y6 | ⟨y6, v, v1, v2⟩
  · exact o_pos y6 go
  · have e0 : hj h2 1316 (Int32.toNatClampNeg 0) = Int32.toInt64 w := by
      rw [jk, ← v1]
      exact v2
    refine o_neg (not_not_intro y6) (o_pos ?_ go)
    show lg_cmp (hj h2 1316 (Int32.toNatClampNeg 0)) (Int32.toInt64 w) = 0
    rw [e0]
    exact lg_same
theorem lw_fault (hN : gN G ≤ 3072) (h6 : i + 6 ≤ gN G) (H : RX h) (hm : hz h < 900000) : ∃ h2, RX h2 ∧ RM h h2 ∧ ∀ K : Int32 → XH → Option (Int32 × XH), (if 0 ≤ ((nI i) + 1) ∧ ((nI i) + 1) < nI (gN G) then (Option.bind (f_t_fault (gX G (Int32.toNatClampNeg ((nI i) + 1))) h) fun r71 => (if 0 ≤ ((nI i) + 1) ∧ ((nI i) + 1) < nI (gN G) then (Option.bind (f_m_fault (gX G (Int32.toNatClampNeg ((nI i) + 1))) r71.2) fun r75 => (if r71.1 = r75.1 then (b_law_1263 G K (nI i) r75.2) else (some (0, r75.2)))) else none)) else none) = K (nI (i + 6)) h2 := by
  have q1 : 0 ≤ nI i + 1 ∧ nI i + 1 < nI (gN G) := lk (j := 1) hN h6 (by decide)
  obtain ⟨r, h1, h2, e1, e2, e3, e4⟩ := op_fault (x := (gX G (Int32.toNatClampNeg (nI i + 1)))) H
  exact ⟨h2, e3, e4, fun K => o_pos q1 (o_bind e1 (o_pos q1 (o_bind e2 (o_pos rfl lgo))))⟩
theorem lw_size (hN : gN G ≤ 3072) (h6 : i + 6 ≤ gN G) (H : RX h) (hm : hz h < 900000) : ∃ h2, RX h2 ∧ RM h h2 ∧ ∀ K : Int32 → XH → Option (Int32 × XH), (if 0 ≤ ((nI i) + 1) ∧ ((nI i) + 1) < nI (gN G) then (if 0 ≤ ((nI i) + 2) ∧ ((nI i) + 2) < nI (gN G) then (Option.bind (f_t_size (gX G (Int32.toNatClampNeg ((nI i) + 1))) (gX G (Int32.toNatClampNeg ((nI i) + 2))) h) fun r81 => (if 0 ≤ ((nI i) + 1) ∧ ((nI i) + 1) < nI (gN G) then (if 0 ≤ ((nI i) + 2) ∧ ((nI i) + 2) < nI (gN G) then (Option.bind (f_m_size (gX G (Int32.toNatClampNeg ((nI i) + 1))) (gX G (Int32.toNatClampNeg ((nI i) + 2))) r81.2) fun r86 => (if r81.1 = r86.1 then (b_law_1263 G K (nI i) r86.2) else (some (0, r86.2)))) else none) else none)) else none) else none) = K (nI (i + 6)) h2 := by
  have q1 : 0 ≤ nI i + 1 ∧ nI i + 1 < nI (gN G) := lk (j := 1) hN h6 (by decide)
  have q2 : 0 ≤ nI i + 2 ∧ nI i + 2 < nI (gN G) := lk (j := 2) hN h6 (by decide)
  obtain ⟨r, h1, h2, e1, e2, e3, e4⟩ := op_size (x := (gX G (Int32.toNatClampNeg (nI i + 1)))) (y := (gX G (Int32.toNatClampNeg (nI i + 2)))) H
  exact ⟨h2, e3, e4, fun K => o_pos q1 (o_pos q2 (o_bind e1 (o_pos q1 (o_pos q2 (o_bind e2 (o_pos rfl lgo))))))⟩
theorem lw_field (hN : gN G ≤ 3072) (h6 : i + 6 ≤ gN G) (H : RX h) (hm : hz h < 900000) : ∃ h2, RX h2 ∧ RM h h2 ∧ ∀ K : Int32 → XH → Option (Int32 × XH), (if 0 ≤ ((nI i) + 1) ∧ ((nI i) + 1) < nI (gN G) then (if (gX G (Int32.toNatClampNeg ((nI i) + 1))) = 0 then (b_law_379 G K (nI i) 0 h) else (b_law_379 G K (nI i) 1 h)) else none) = K (nI (i + 6)) h2 := by
  have q1 : 0 ≤ nI i + 1 ∧ nI i + 1 < nI (gN G) := lk (j := 1) hN h6 (by decide)
  have q2 : 0 ≤ nI i + 2 ∧ nI i + 2 < nI (gN G) := lk (j := 2) hN h6 (by decide)
  have q3 : 0 ≤ nI i + 3 ∧ nI i + 3 < nI (gN G) := lk (j := 3) hN h6 (by decide)
  have q4 : 0 ≤ nI i + 4 ∧ nI i + 4 < nI (gN G) := lk (j := 4) hN h6 (by decide)
  have go : ∀ z : Int32, (z = 0 ∨ z = 1) → ((gX G (Int32.toNatClampNeg (nI i + 1)) = 0 ∧ z = 0) ∨ (¬ gX G (Int32.toNatClampNeg (nI i + 1)) = 0 ∧ z = 1)) → ∃ h2, RX h2 ∧ RM h h2 ∧ ∀ K : Int32 → XH → Option (Int32 × XH), b_law_379 G K (nI i) z h = K (nI (i + 6)) h2 := by
    intro z _ hz'
    obtain ⟨r, h1, h2, e1, e2, e3, e4⟩ := op_field (s := z) (y := gX G (Int32.toNatClampNeg (nI i + 2))) (z := gX G (Int32.toNatClampNeg (nI i + 3))) (x := gX G (Int32.toNatClampNeg (nI i + 4))) H
    refine ⟨h2, e3, e4, fun K => ?_⟩
    have fin : b_law_415 G K (nI i) r z h1 = K (nI (i + 6)) h2 := by
      unfold b_law_415
      exact o_pos q2 (o_pos q3 (o_pos q4 (o_bind e2 (o_pos rfl lgo))))
    unfold b_law_379
    rcases hz' with ⟨a, b⟩ | ⟨a, b⟩
    · rw [b] at e1 fin ⊢
      exact o_pos q2 (o_pos q3 (o_pos q4 (o_bind e1 (o_pos q1 (o_pos a fin)))))
    · rw [b] at e1 fin ⊢
      exact o_pos q2 (o_pos q3 (o_pos q4 (o_bind e1 (o_pos q1 (o_neg a fin)))))
  by_cases a : gX G (Int32.toNatClampNeg (nI i + 1)) = 0
  · obtain ⟨h2, x1, x2, x3⟩ := go 0 (Or.inl rfl) (Or.inl ⟨a, rfl⟩)
    exact ⟨h2, x1, x2, fun K => o_pos q1 (o_pos a (x3 K))⟩
  · obtain ⟨h2, x1, x2, x3⟩ := go 1 (Or.inr rfl) (Or.inr ⟨a, rfl⟩)
    exact ⟨h2, x1, x2, fun K => o_pos q1 (o_neg a (x3 K))⟩
theorem lw_standard (hN : gN G ≤ 3072) (h6 : i + 6 ≤ gN G) (H : RX h) (hm : hz h < 900000) : ∃ h2, RX h2 ∧ RM h h2 ∧ ∀ K : Int32 → XH → Option (Int32 × XH), (if 0 ≤ ((nI i) + 1) ∧ ((nI i) + 1) < nI (gN G) then (if 0 ≤ ((nI i) + 2) ∧ ((nI i) + 2) < nI (gN G) then (Option.bind (f_t_standard (gX G (Int32.toNatClampNeg ((nI i) + 1))) (gX G (Int32.toNatClampNeg ((nI i) + 2))) h) fun r94 => (if 0 ≤ ((nI i) + 1) ∧ ((nI i) + 1) < nI (gN G) then (if 0 ≤ ((nI i) + 2) ∧ ((nI i) + 2) < nI (gN G) then (Option.bind (f_m_standard (gX G (Int32.toNatClampNeg ((nI i) + 1))) (gX G (Int32.toNatClampNeg ((nI i) + 2))) r94.2) fun r99 => (if (lg_cmp r94.1 r99.1) = 0 then (b_law_1263 G K (nI i) r99.2) else (some (0, r99.2)))) else none) else none)) else none) else none) = K (nI (i + 6)) h2 := by
  have q1 : 0 ≤ nI i + 1 ∧ nI i + 1 < nI (gN G) := lk (j := 1) hN h6 (by decide)
  have q2 : 0 ≤ nI i + 2 ∧ nI i + 2 < nI (gN G) := lk (j := 2) hN h6 (by decide)
  obtain ⟨r, h1, h2, e1, e2, e3, e4⟩ := op_standard (y := (gX G (Int32.toNatClampNeg (nI i + 1)))) (z := (gX G (Int32.toNatClampNeg (nI i + 2)))) H
  exact ⟨h2, e3, e4, fun K => o_pos q1 (o_pos q2 (o_bind e1 (o_pos q1 (o_pos q2 (o_bind e2 (o_pos lg_same lgo))))))⟩
theorem lw_find (hN : gN G ≤ 3072) (h6 : i + 6 ≤ gN G) (H : RX h) (hm : hz h < 900000) : ∃ h2, RX h2 ∧ RM h h2 ∧ ∀ K : Int32 → XH → Option (Int32 × XH), (if 0 ≤ ((nI i) + 1) ∧ ((nI i) + 1) < nI (gN G) then (if (gX G (Int32.toNatClampNeg ((nI i) + 1))) = 0 then (b_law_494 G K (nI i) 0 h) else (b_law_494 G K (nI i) 1 h)) else none) = K (nI (i + 6)) h2 := by
  have q1 : 0 ≤ nI i + 1 ∧ nI i + 1 < nI (gN G) := lk (j := 1) hN h6 (by decide)
  have q2 : 0 ≤ nI i + 2 ∧ nI i + 2 < nI (gN G) := lk (j := 2) hN h6 (by decide)
  have go : ∀ z : Int32, (z = 0 ∨ z = 1) → ((gX G (Int32.toNatClampNeg (nI i + 1)) = 0 ∧ z = 0) ∨ (¬ gX G (Int32.toNatClampNeg (nI i + 1)) = 0 ∧ z = 1)) → ∃ h2, RX h2 ∧ RM h h2 ∧ ∀ K : Int32 → XH → Option (Int32 × XH), b_law_494 G K (nI i) z h = K (nI (i + 6)) h2 := by
    intro z _ hz'
    obtain ⟨r, h1, h2, e1, e2, e3, e4⟩ := op_find (s := z) (y := gX G (Int32.toNatClampNeg (nI i + 2))) H
    refine ⟨h2, e3, e4, fun K => ?_⟩
    have fin : b_law_518 G K (nI i) r z h1 = K (nI (i + 6)) h2 := by
      unfold b_law_518
      exact o_pos q2 (o_bind e2 (o_pos rfl lgo))
    unfold b_law_494
    rcases hz' with ⟨a, b⟩ | ⟨a, b⟩
    · rw [b] at e1 fin ⊢
      exact o_pos q2 (o_bind e1 (o_pos q1 (o_pos a fin)))
    · rw [b] at e1 fin ⊢
      exact o_pos q2 (o_bind e1 (o_pos q1 (o_neg a fin)))
  by_cases a : gX G (Int32.toNatClampNeg (nI i + 1)) = 0
  · obtain ⟨h2, x1, x2, x3⟩ := go 0 (Or.inl rfl) (Or.inl ⟨a, rfl⟩)
    exact ⟨h2, x1, x2, fun K => o_pos q1 (o_pos a (x3 K))⟩
  · obtain ⟨h2, x1, x2, x3⟩ := go 1 (Or.inr rfl) (Or.inr ⟨a, rfl⟩)
    exact ⟨h2, x1, x2, fun K => o_pos q1 (o_neg a (x3 K))⟩
theorem lw_push (hN : gN G ≤ 3072) (h6 : i + 6 ≤ gN G) (H : RX h) (hm : hz h < 900000) : ∃ h2, RX h2 ∧ RM h h2 ∧ ∀ K : Int32 → XH → Option (Int32 × XH), (if 0 ≤ ((nI i) + 1) ∧ ((nI i) + 1) < nI (gN G) then (if 0 ≤ ((nI i) + 2) ∧ ((nI i) + 2) < nI (gN G) then (Option.bind (f_t_push (((Int32.toInt64 (gX G (Int32.toNatClampNeg ((nI i) + 1)))) <<< ((Int32.toInt64 32) &&& 63)) ||| ((Int32.toInt64 (gX G (Int32.toNatClampNeg ((nI i) + 2)))) &&& (4294967295 : Int64))) h) fun r107 => (if 0 ≤ ((nI i) + 1) ∧ ((nI i) + 1) < nI (gN G) then (if 0 ≤ ((nI i) + 2) ∧ ((nI i) + 2) < nI (gN G) then (Option.bind (f_m_push (((Int32.toInt64 (gX G (Int32.toNatClampNeg ((nI i) + 1)))) <<< ((Int32.toInt64 32) &&& 63)) ||| ((Int32.toInt64 (gX G (Int32.toNatClampNeg ((nI i) + 2)))) &&& (4294967295 : Int64))) r107.2) fun r112 => (if r107.1 = r112.1 then (b_law_1263 G K (nI i) r112.2) else (some (0, r112.2)))) else none) else none)) else none) else none) = K (nI (i + 6)) h2 := by
  have q1 : 0 ≤ nI i + 1 ∧ nI i + 1 < nI (gN G) := lk (j := 1) hN h6 (by decide)
  have q2 : 0 ≤ nI i + 2 ∧ nI i + 2 < nI (gN G) := lk (j := 2) hN h6 (by decide)
  obtain ⟨r, h1, h2, e1, e2, e3, e4⟩ := op_push (x := (((Int32.toInt64 (gX G (Int32.toNatClampNeg (nI i + 1)))) <<< ((Int32.toInt64 32) &&& 63)) ||| ((Int32.toInt64 (gX G (Int32.toNatClampNeg (nI i + 2)))) &&& (4294967295 : Int64)))) H
  exact ⟨h2, e3, e4, fun K => o_pos q1 (o_pos q2 (o_bind e1 (o_pos q1 (o_pos q2 (o_bind e2 (o_pos rfl lgo))))))⟩
theorem lw_text (hN : gN G ≤ 3072) (h6 : i + 6 ≤ gN G) (H : RX h) (hm : hz h < 900000) : ∃ h2, RX h2 ∧ RM h h2 ∧ ∀ K : Int32 → XH → Option (Int32 × XH), (Option.bind (f_L_text h) fun r116 => (Option.bind (f_m_text r116.2) fun r119 => (Option.bind (f_m_thrown r119.2) fun r122 => (if r122.1 = r116.1 then (if ¬ r116.1 = 0 then (b_law_630 G K (nI i) r122.2) else (if (lg_cmp (hj r122.2 1316 (Int32.toNatClampNeg 0)) (Int32.toInt64 r119.1)) = 0 then (b_law_630 G K (nI i) r122.2) else (some (0, r122.2)))) else (some (0, r122.2)))))) = K (nI (i + 6)) h2 := by
  have e2 : ∀ j k h1, (j, k) ∈ [(1, 1), (2, 2)] → f_t_text  h = some (Sum.inr j, h1) → f_L_text  h = some (nI k, h1) := by
    intro j k h1 hjk a
    have z : (j = 1 ∧ k = 1) ∨ (j = 2 ∧ k = 2) := by simpa using hjk
    unfold f_L_text
    rw [a]
    rcases z with ⟨z1, z2⟩ | ⟨z1, z2⟩ <;> subst z1 <;> subst z2 <;> rfl
  have kp : ∀ j k, (j, k) ∈ [(1, 1), (2, 2)] → 0 < k ∧ k < 10 := by
    intro j k hjk
    have z : (j = 1 ∧ k = 1) ∨ (j = 2 ∧ k = 2) := by simpa using hjk
    omega
  obtain ⟨x, g1, w, h2, y1, y2, y3, y4, y5, y6⟩ := th_law (op_text H hm) (fL := f_L_text  h) (pv := fun v g1 => hj g1 1316 0 = (Int32.toInt64 v)) (fun v h1 a => ⟨hsj h1 1316 0 (Int32.toInt64 v), by unfold f_L_text; rw [a]; rfl, Or.inr ⟨_, rfl⟩, hj_at⟩) e2 kp
  have jk : hj h2 1316 = hj g1 1316 := j_f_m_text y2
  refine ⟨h2, y4, y5, fun K => o_bind y1 (o_bind y2 (o_bind y3 (o_pos rfl ?_)))⟩
  have go : b_law_630 G K (nI i) h2 = K (nI (i + 6)) h2 := by
    unfold b_law_630
    exact lgo
  rcases y6 with y6 | ⟨y6, v, v1, v2⟩
  · exact o_pos y6 go
  · have e0 : hj h2 1316 (Int32.toNatClampNeg 0) = Int32.toInt64 w := by
      rw [jk, ← v1]
      exact v2
    refine o_neg (not_not_intro y6) (o_pos ?_ go)
    show lg_cmp (hj h2 1316 (Int32.toNatClampNeg 0)) (Int32.toInt64 w) = 0
    rw [e0]
    exact lg_same
theorem lw_vector (hN : gN G ≤ 3072) (h6 : i + 6 ≤ gN G) (H : RX h) (hm : hz h < 900000) : ∃ h2, RX h2 ∧ RM h h2 ∧ ∀ K : Int32 → XH → Option (Int32 × XH), (if 0 ≤ ((nI i) + 1) ∧ ((nI i) + 1) < nI (gN G) then (if 0 ≤ ((nI i) + 2) ∧ ((nI i) + 2) < nI (gN G) then (Option.bind (f_L_vector (gX G (Int32.toNatClampNeg ((nI i) + 1))) (gX G (Int32.toNatClampNeg ((nI i) + 2))) h) fun r130 => (if 0 ≤ ((nI i) + 1) ∧ ((nI i) + 1) < nI (gN G) then (if 0 ≤ ((nI i) + 2) ∧ ((nI i) + 2) < nI (gN G) then (Option.bind (f_m_vector (gX G (Int32.toNatClampNeg ((nI i) + 1))) (gX G (Int32.toNatClampNeg ((nI i) + 2))) r130.2) fun r135 => (Option.bind (f_m_thrown r135.2) fun r138 => (if r138.1 = r130.1 then (if ¬ r130.1 = 0 then (b_law_698 G K (nI i) r138.2) else (if (lg_cmp (hj r138.2 1316 (Int32.toNatClampNeg 0)) (Int32.toInt64 r135.1)) = 0 then (b_law_698 G K (nI i) r138.2) else (some (0, r138.2)))) else (some (0, r138.2))))) else none) else none)) else none) else none) = K (nI (i + 6)) h2 := by
  have q1 : 0 ≤ nI i + 1 ∧ nI i + 1 < nI (gN G) := lk (j := 1) hN h6 (by decide)
  have q2 : 0 ≤ nI i + 2 ∧ nI i + 2 < nI (gN G) := lk (j := 2) hN h6 (by decide)
  have e2 : ∀ j k h1, (j, k) ∈ [(1, 1), (0, 2), (2, 3)] → f_t_vector (gX G (Int32.toNatClampNeg (nI i + 1))) (gX G (Int32.toNatClampNeg (nI i + 2))) h = some (Sum.inr j, h1) → f_L_vector (gX G (Int32.toNatClampNeg (nI i + 1))) (gX G (Int32.toNatClampNeg (nI i + 2))) h = some (nI k, h1) := by
    intro j k h1 hjk a
    have z : (j = 1 ∧ k = 1) ∨ (j = 0 ∧ k = 2) ∨ (j = 2 ∧ k = 3) := by simpa using hjk
    unfold f_L_vector
    rw [a]
    rcases z with ⟨z1, z2⟩ | ⟨z1, z2⟩ | ⟨z1, z2⟩ <;> subst z1 <;> subst z2 <;> rfl
  have kp : ∀ j k, (j, k) ∈ [(1, 1), (0, 2), (2, 3)] → 0 < k ∧ k < 10 := by
    intro j k hjk
    have z : (j = 1 ∧ k = 1) ∨ (j = 0 ∧ k = 2) ∨ (j = 2 ∧ k = 3) := by simpa using hjk
    omega
  obtain ⟨x, g1, w, h2, y1, y2, y3, y4, y5, y6⟩ := th_law (op_vector (x0 := (gX G (Int32.toNatClampNeg (nI i + 1)))) (x1 := (gX G (Int32.toNatClampNeg (nI i + 2)))) H hm) (fL := f_L_vector (gX G (Int32.toNatClampNeg (nI i + 1))) (gX G (Int32.toNatClampNeg (nI i + 2))) h) (pv := fun v g1 => hj g1 1316 0 = (Int32.toInt64 v)) (fun v h1 a => ⟨hsj h1 1316 0 (Int32.toInt64 v), by unfold f_L_vector; rw [a]; rfl, Or.inr ⟨_, rfl⟩, hj_at⟩) e2 kp
  have jk : hj h2 1316 = hj g1 1316 := j_f_m_vector y2
  refine ⟨h2, y4, y5, fun K => o_pos q1 (o_pos q2 (o_bind y1 (o_pos q1 (o_pos q2 (o_bind y2 (o_bind y3 (o_pos rfl ?_)))))))⟩
  have go : b_law_698 G K (nI i) h2 = K (nI (i + 6)) h2 := by
    unfold b_law_698
    exact lgo
  rcases y6 with y6 | ⟨y6, v, v1, v2⟩
  · exact o_pos y6 go
  · have e0 : hj h2 1316 (Int32.toNatClampNeg 0) = Int32.toInt64 w := by
      rw [jk, ← v1]
      exact v2
    refine o_neg (not_not_intro y6) (o_pos ?_ go)
    show lg_cmp (hj h2 1316 (Int32.toNatClampNeg 0)) (Int32.toInt64 w) = 0
    rw [e0]
    exact lg_same
theorem lw_begin (hN : gN G ≤ 3072) (h6 : i + 6 ≤ gN G) (H : RX h) (hm : hz h < 900000) : ∃ h2, RX h2 ∧ RM h h2 ∧ ∀ K : Int32 → XH → Option (Int32 × XH), (if 0 ≤ ((nI i) + 1) ∧ ((nI i) + 1) < nI (gN G) then (Option.bind (f_L_begin (gX G (Int32.toNatClampNeg ((nI i) + 1))) h) fun r145 => (if 0 ≤ ((nI i) + 1) ∧ ((nI i) + 1) < nI (gN G) then (Option.bind (f_m_begin (gX G (Int32.toNatClampNeg ((nI i) + 1))) r145.2) fun r149 => (Option.bind (f_m_thrown r149.2) fun r152 => (if r152.1 = r145.1 then (b_law_1263 G K (nI i) r152.2) else (some (0, r152.2))))) else none)) else none) = K (nI (i + 6)) h2 := by
  have q1 : 0 ≤ nI i + 1 ∧ nI i + 1 < nI (gN G) := lk (j := 1) hN h6 (by decide)
  have e2 : ∀ j k h1, (j, k) ∈ [(1, 1), (3, 2)] → f_t_begin (gX G (Int32.toNatClampNeg (nI i + 1))) h = some (Sum.inr j, h1) → f_L_begin (gX G (Int32.toNatClampNeg (nI i + 1))) h = some (nI k, h1) := by
    intro j k h1 hjk a
    have z : (j = 1 ∧ k = 1) ∨ (j = 3 ∧ k = 2) := by simpa using hjk
    unfold f_L_begin
    rw [a]
    rcases z with ⟨z1, z2⟩ | ⟨z1, z2⟩ <;> subst z1 <;> subst z2 <;> rfl
  have kp : ∀ j k, (j, k) ∈ [(1, 1), (3, 2)] → 0 < k ∧ k < 10 := by
    intro j k hjk
    have z : (j = 1 ∧ k = 1) ∨ (j = 3 ∧ k = 2) := by simpa using hjk
    omega
  obtain ⟨x, g1, w, h2, y1, y2, y3, y4, y5, y6⟩ := th_law (op_begin (x := (gX G (Int32.toNatClampNeg (nI i + 1)))) H hm) (fL := f_L_begin (gX G (Int32.toNatClampNeg (nI i + 1))) h) (pv := fun _ _ => True) (fun v h1 a => ⟨_, by unfold f_L_begin; rw [a], Or.inl rfl, trivial⟩) e2 kp
  exact ⟨h2, y4, y5, fun K => o_pos q1 (o_bind y1 (o_pos q1 (o_bind y2 (o_bind y3 (o_pos rfl lgo)))))⟩
theorem lw_set (hN : gN G ≤ 3072) (h6 : i + 6 ≤ gN G) (H : RX h) (hm : hz h < 900000) : ∃ h2, RX h2 ∧ RM h h2 ∧ ∀ K : Int32 → XH → Option (Int32 × XH), (if 0 ≤ ((nI i) + 1) ∧ ((nI i) + 1) < nI (gN G) then (Option.bind (f_L_set (gX G (Int32.toNatClampNeg ((nI i) + 1))) h) fun r157 => (if 0 ≤ ((nI i) + 1) ∧ ((nI i) + 1) < nI (gN G) then (Option.bind (f_m_set (gX G (Int32.toNatClampNeg ((nI i) + 1))) r157.2) fun r161 => (Option.bind (f_m_thrown r161.2) fun r164 => (if r164.1 = r157.1 then (if ¬ r157.1 = 0 then (b_law_797 G K (nI i) r164.2) else (if r161.1 = 0 then (b_law_791 G K (nI i) (hj r164.2 1316 (Int32.toNatClampNeg 0)) (0 : Int64) r164.2) else (b_law_791 G K (nI i) (hj r164.2 1316 (Int32.toNatClampNeg 0)) (1 : Int64) r164.2))) else (some (0, r164.2))))) else none)) else none) = K (nI (i + 6)) h2 := by
  have q1 : 0 ≤ nI i + 1 ∧ nI i + 1 < nI (gN G) := lk (j := 1) hN h6 (by decide)
  have e2 : ∀ j k h1, (j, k) ∈ [(1, 1), (3, 2), (0, 3), (2, 4)] → f_t_set (gX G (Int32.toNatClampNeg (nI i + 1))) h = some (Sum.inr j, h1) → f_L_set (gX G (Int32.toNatClampNeg (nI i + 1))) h = some (nI k, h1) := by
    intro j k h1 hjk a
    have z : (j = 1 ∧ k = 1) ∨ (j = 3 ∧ k = 2) ∨ (j = 0 ∧ k = 3) ∨ (j = 2 ∧ k = 4) := by simpa using hjk
    unfold f_L_set
    rw [a]
    rcases z with ⟨z1, z2⟩ | ⟨z1, z2⟩ | ⟨z1, z2⟩ | ⟨z1, z2⟩ <;> subst z1 <;> subst z2 <;> rfl
  have kp : ∀ j k, (j, k) ∈ [(1, 1), (3, 2), (0, 3), (2, 4)] → 0 < k ∧ k < 10 := by
    intro j k hjk
    have z : (j = 1 ∧ k = 1) ∨ (j = 3 ∧ k = 2) ∨ (j = 0 ∧ k = 3) ∨ (j = 2 ∧ k = 4) := by simpa using hjk
    omega
  obtain ⟨x, g1, w, h2, y1, y2, y3, y4, y5, y6⟩ := th_law (op_set (x := (gX G (Int32.toNatClampNeg (nI i + 1)))) H hm) (fL := f_L_set (gX G (Int32.toNatClampNeg (nI i + 1))) h) (pv := fun v g1 => hj g1 1316 0 = (if v = 0 then 0 else 1)) (fun v h1 a => ⟨hsj h1 1316 0 (if v = 0 then 0 else 1), by unfold f_L_set; rw [a]; rfl, Or.inr ⟨_, rfl⟩, hj_at⟩) e2 kp
  have jk : hj h2 1316 = hj g1 1316 := j_f_m_set y2
  refine ⟨h2, y4, y5, fun K => o_pos q1 (o_bind y1 (o_pos q1 (o_bind y2 (o_bind y3 (o_pos rfl ?_)))))⟩
  have go : b_law_797 G K (nI i) h2 = K (nI (i + 6)) h2 := by
    unfold b_law_797
    exact lgo
  rcases y6 with y6 | ⟨y6, v, v1, v2⟩
  · exact o_pos y6 go
  · have e0 : hj h2 1316 (Int32.toNatClampNeg 0) = (if w = 0 then 0 else 1) := by
      rw [jk, ← v1]
      exact v2
    refine o_neg (not_not_intro y6) ?_
    show (if w = 0 then (b_law_791 G K (nI i) (hj h2 1316 (Int32.toNatClampNeg 0)) (0 : Int64) h2) else (b_law_791 G K (nI i) (hj h2 1316 (Int32.toNatClampNeg 0)) (1 : Int64) h2)) = _
    rw [e0]
    by_cases w0 : w = 0
    · refine o_pos w0 ?_
      rw [if_pos w0]
      unfold b_law_791
      exact o_pos lg_same go
    · refine o_neg w0 ?_
      rw [if_neg w0]
      unfold b_law_791
      exact o_pos lg_same go
theorem lw_ready (hN : gN G ≤ 3072) (h6 : i + 6 ≤ gN G) (H : RX h) (hm : hz h < 900000) : ∃ h2, RX h2 ∧ RM h h2 ∧ ∀ K : Int32 → XH → Option (Int32 × XH), (Option.bind (f_L_ready h) fun r170 => (Option.bind (f_m_ready r170.2) fun r173 => (Option.bind (f_m_thrown r173.2) fun r176 => (if r176.1 = r170.1 then (if ¬ r170.1 = 0 then (b_law_841 G K (nI i) r176.2) else (if (lg_cmp (hj r176.2 1316 (Int32.toNatClampNeg 0)) (Int32.toInt64 r173.1)) = 0 then (b_law_841 G K (nI i) r176.2) else (some (0, r176.2)))) else (some (0, r176.2)))))) = K (nI (i + 6)) h2 := by
  have e2 : ∀ j k h1, (j, k) ∈ [(1, 1), (2, 2)] → f_t_ready  h = some (Sum.inr j, h1) → f_L_ready  h = some (nI k, h1) := by
    intro j k h1 hjk a
    have z : (j = 1 ∧ k = 1) ∨ (j = 2 ∧ k = 2) := by simpa using hjk
    unfold f_L_ready
    rw [a]
    rcases z with ⟨z1, z2⟩ | ⟨z1, z2⟩ <;> subst z1 <;> subst z2 <;> rfl
  have kp : ∀ j k, (j, k) ∈ [(1, 1), (2, 2)] → 0 < k ∧ k < 10 := by
    intro j k hjk
    have z : (j = 1 ∧ k = 1) ∨ (j = 2 ∧ k = 2) := by simpa using hjk
    omega
  obtain ⟨x, g1, w, h2, y1, y2, y3, y4, y5, y6⟩ := th_law (op_ready H hm) (fL := f_L_ready  h) (pv := fun v g1 => hj g1 1316 0 = (Int32.toInt64 v)) (fun v h1 a => ⟨hsj h1 1316 0 (Int32.toInt64 v), by unfold f_L_ready; rw [a]; rfl, Or.inr ⟨_, rfl⟩, hj_at⟩) e2 kp
  have jk : hj h2 1316 = hj g1 1316 := j_f_m_ready y2
  refine ⟨h2, y4, y5, fun K => o_bind y1 (o_bind y2 (o_bind y3 (o_pos rfl ?_)))⟩
  have go : b_law_841 G K (nI i) h2 = K (nI (i + 6)) h2 := by
    unfold b_law_841
    exact lgo
  rcases y6 with y6 | ⟨y6, v, v1, v2⟩
  · exact o_pos y6 go
  · have e0 : hj h2 1316 (Int32.toNatClampNeg 0) = Int32.toInt64 w := by
      rw [jk, ← v1]
      exact v2
    refine o_neg (not_not_intro y6) (o_pos ?_ go)
    show lg_cmp (hj h2 1316 (Int32.toNatClampNeg 0)) (Int32.toInt64 w) = 0
    rw [e0]
    exact lg_same
theorem lw_finish (hN : gN G ≤ 3072) (h6 : i + 6 ≤ gN G) (H : RX h) (hm : hz h < 900000) : ∃ h2, RX h2 ∧ RM h h2 ∧ ∀ K : Int32 → XH → Option (Int32 × XH), (if 0 ≤ ((nI i) + 1) ∧ ((nI i) + 1) < nI (gN G) then (Option.bind (f_L_finish (gX G (Int32.toNatClampNeg ((nI i) + 1))) h) fun r183 => (if 0 ≤ ((nI i) + 1) ∧ ((nI i) + 1) < nI (gN G) then (Option.bind (f_m_finish (gX G (Int32.toNatClampNeg ((nI i) + 1))) r183.2) fun r187 => (Option.bind (f_m_thrown r187.2) fun r190 => (if r190.1 = r183.1 then (if ¬ r183.1 = 0 then (b_law_897 G K (nI i) r190.2) else (if (lg_cmp (hj r190.2 1316 (Int32.toNatClampNeg 0)) (Int32.toInt64 r187.1)) = 0 then (b_law_897 G K (nI i) r190.2) else (some (0, r190.2)))) else (some (0, r190.2))))) else none)) else none) = K (nI (i + 6)) h2 := by
  have q1 : 0 ≤ nI i + 1 ∧ nI i + 1 < nI (gN G) := lk (j := 1) hN h6 (by decide)
  have e2 : ∀ j k h1, (j, k) ∈ [(1, 1), (0, 2), (2, 3)] → f_t_finish (gX G (Int32.toNatClampNeg (nI i + 1))) h = some (Sum.inr j, h1) → f_L_finish (gX G (Int32.toNatClampNeg (nI i + 1))) h = some (nI k, h1) := by
    intro j k h1 hjk a
    have z : (j = 1 ∧ k = 1) ∨ (j = 0 ∧ k = 2) ∨ (j = 2 ∧ k = 3) := by simpa using hjk
    unfold f_L_finish
    rw [a]
    rcases z with ⟨z1, z2⟩ | ⟨z1, z2⟩ | ⟨z1, z2⟩ <;> subst z1 <;> subst z2 <;> rfl
  have kp : ∀ j k, (j, k) ∈ [(1, 1), (0, 2), (2, 3)] → 0 < k ∧ k < 10 := by
    intro j k hjk
    have z : (j = 1 ∧ k = 1) ∨ (j = 0 ∧ k = 2) ∨ (j = 2 ∧ k = 3) := by simpa using hjk
    omega
  obtain ⟨x, g1, w, h2, y1, y2, y3, y4, y5, y6⟩ := th_law (op_finish (x := (gX G (Int32.toNatClampNeg (nI i + 1)))) H hm) (fL := f_L_finish (gX G (Int32.toNatClampNeg (nI i + 1))) h) (pv := fun v g1 => hj g1 1316 0 = (Int32.toInt64 v)) (fun v h1 a => ⟨hsj h1 1316 0 (Int32.toInt64 v), by unfold f_L_finish; rw [a]; rfl, Or.inr ⟨_, rfl⟩, hj_at⟩) e2 kp
  have jk : hj h2 1316 = hj g1 1316 := j_f_m_finish y2
  refine ⟨h2, y4, y5, fun K => o_pos q1 (o_bind y1 (o_pos q1 (o_bind y2 (o_bind y3 (o_pos rfl ?_)))))⟩
  have go : b_law_897 G K (nI i) h2 = K (nI (i + 6)) h2 := by
    unfold b_law_897
    exact lgo
  rcases y6 with y6 | ⟨y6, v, v1, v2⟩
  · exact o_pos y6 go
  · have e0 : hj h2 1316 (Int32.toNatClampNeg 0) = Int32.toInt64 w := by
      rw [jk, ← v1]
      exact v2
    refine o_neg (not_not_intro y6) (o_pos ?_ go)
    show lg_cmp (hj h2 1316 (Int32.toNatClampNeg 0)) (Int32.toInt64 w) = 0
    rw [e0]
    exact lg_same
theorem lw_clear (hN : gN G ≤ 3072) (h6 : i + 6 ≤ gN G) (H : RX h) (hm : hz h < 900000) : ∃ h2, RX h2 ∧ RM h h2 ∧ ∀ K : Int32 → XH → Option (Int32 × XH), (Option.bind (f_t_clear h) fun r196 => (Option.bind (f_m_clear r196.2) fun r199 => (if r196.1 = r199.1 then (b_law_1263 G K (nI i) r199.2) else (some (0, r199.2))))) = K (nI (i + 6)) h2 := by
  obtain ⟨r, h1, h2, e1, e2, e3, e4⟩ := op_clear H
  exact ⟨h2, e3, e4, fun K => o_bind e1 (o_bind e2 (o_pos rfl lgo))⟩
theorem lw_out (hN : gN G ≤ 3072) (h6 : i + 6 ≤ gN G) (H : RX h) (hm : hz h < 900000) : ∃ h2, RX h2 ∧ RM h h2 ∧ ∀ K : Int32 → XH → Option (Int32 × XH), (if 0 ≤ ((nI i) + 1) ∧ ((nI i) + 1) < nI (gN G) then (Option.bind (f_t_out (gX G (Int32.toNatClampNeg ((nI i) + 1))) h) fun r204 => (if 0 ≤ ((nI i) + 1) ∧ ((nI i) + 1) < nI (gN G) then (Option.bind (f_m_out (gX G (Int32.toNatClampNeg ((nI i) + 1))) r204.2) fun r208 => (if r204.1 = r208.1 then (b_law_1263 G K (nI i) r208.2) else (some (0, r208.2)))) else none)) else none) = K (nI (i + 6)) h2 := by
  have q1 : 0 ≤ nI i + 1 ∧ nI i + 1 < nI (gN G) := lk (j := 1) hN h6 (by decide)
  obtain ⟨r, h1, h2, e1, e2, e3, e4⟩ := op_out (x := (gX G (Int32.toNatClampNeg (nI i + 1)))) H
  exact ⟨h2, e3, e4, fun K => o_pos q1 (o_bind e1 (o_pos q1 (o_bind e2 (o_pos rfl lgo))))⟩
theorem lw_count (hN : gN G ≤ 3072) (h6 : i + 6 ≤ gN G) (H : RX h) (hm : hz h < 900000) : ∃ h2, RX h2 ∧ RM h h2 ∧ ∀ K : Int32 → XH → Option (Int32 × XH), (if 0 ≤ ((nI i) + 1) ∧ ((nI i) + 1) < nI (gN G) then (Option.bind (f_t_count (gX G (Int32.toNatClampNeg ((nI i) + 1))) h) fun r213 => (if 0 ≤ ((nI i) + 1) ∧ ((nI i) + 1) < nI (gN G) then (Option.bind (f_m_count (gX G (Int32.toNatClampNeg ((nI i) + 1))) r213.2) fun r217 => (if r213.1 = r217.1 then (b_law_1263 G K (nI i) r217.2) else (some (0, r217.2)))) else none)) else none) = K (nI (i + 6)) h2 := by
  have q1 : 0 ≤ nI i + 1 ∧ nI i + 1 < nI (gN G) := lk (j := 1) hN h6 (by decide)
  obtain ⟨r, h1, h2, e1, e2, e3, e4⟩ := op_count (x := (gX G (Int32.toNatClampNeg (nI i + 1)))) H
  exact ⟨h2, e3, e4, fun K => o_pos q1 (o_bind e1 (o_pos q1 (o_bind e2 (o_pos rfl lgo))))⟩
theorem lw_load (hN : gN G ≤ 3072) (h6 : i + 6 ≤ gN G) (H : RX h) (hm : hz h < 900000) : ∃ h2, RX h2 ∧ RM h h2 ∧ ∀ K : Int32 → XH → Option (Int32 × XH), (if 0 ≤ ((nI i) + 1) ∧ ((nI i) + 1) < nI (gN G) then (Option.bind (f_L_load (gX G (Int32.toNatClampNeg ((nI i) + 1))) h) fun r222 => (if 0 ≤ ((nI i) + 1) ∧ ((nI i) + 1) < nI (gN G) then (Option.bind (f_m_load (gX G (Int32.toNatClampNeg ((nI i) + 1))) r222.2) fun r226 => (Option.bind (f_m_thrown r226.2) fun r229 => (if r229.1 = r222.1 then (if ¬ r222.1 = 0 then (b_law_1023 G K (nI i) r229.2) else (if r226.1 = 0 then (b_law_1017 G K (nI i) (hj r229.2 1316 (Int32.toNatClampNeg 0)) (0 : Int64) r229.2) else (b_law_1017 G K (nI i) (hj r229.2 1316 (Int32.toNatClampNeg 0)) (1 : Int64) r229.2))) else (some (0, r229.2))))) else none)) else none) = K (nI (i + 6)) h2 := by
  have q1 : 0 ≤ nI i + 1 ∧ nI i + 1 < nI (gN G) := lk (j := 1) hN h6 (by decide)
  have e2 : ∀ j k h1, (j, k) ∈ [(0, 1), (1, 2)] → f_t_load (gX G (Int32.toNatClampNeg (nI i + 1))) h = some (Sum.inr j, h1) → f_L_load (gX G (Int32.toNatClampNeg (nI i + 1))) h = some (nI k, h1) := by
    intro j k h1 hjk a
    have z : (j = 0 ∧ k = 1) ∨ (j = 1 ∧ k = 2) := by simpa using hjk
    unfold f_L_load
    rw [a]
    rcases z with ⟨z1, z2⟩ | ⟨z1, z2⟩ <;> subst z1 <;> subst z2 <;> rfl
  have kp : ∀ j k, (j, k) ∈ [(0, 1), (1, 2)] → 0 < k ∧ k < 10 := by
    intro j k hjk
    have z : (j = 0 ∧ k = 1) ∨ (j = 1 ∧ k = 2) := by simpa using hjk
    omega
  obtain ⟨x, g1, w, h2, y1, y2, y3, y4, y5, y6⟩ := th_law (op_load (x := (gX G (Int32.toNatClampNeg (nI i + 1)))) H hm) (fL := f_L_load (gX G (Int32.toNatClampNeg (nI i + 1))) h) (pv := fun v g1 => hj g1 1316 0 = (if v = 0 then 0 else 1)) (fun v h1 a => ⟨hsj h1 1316 0 (if v = 0 then 0 else 1), by unfold f_L_load; rw [a]; rfl, Or.inr ⟨_, rfl⟩, hj_at⟩) e2 kp
  have jk : hj h2 1316 = hj g1 1316 := j_f_m_load y2
  refine ⟨h2, y4, y5, fun K => o_pos q1 (o_bind y1 (o_pos q1 (o_bind y2 (o_bind y3 (o_pos rfl ?_)))))⟩
  have go : b_law_1023 G K (nI i) h2 = K (nI (i + 6)) h2 := by
    unfold b_law_1023
    exact lgo
  rcases y6 with y6 | ⟨y6, v, v1, v2⟩
  · exact o_pos y6 go
  · have e0 : hj h2 1316 (Int32.toNatClampNeg 0) = (if w = 0 then 0 else 1) := by
      rw [jk, ← v1]
      exact v2
    refine o_neg (not_not_intro y6) ?_
    show (if w = 0 then (b_law_1017 G K (nI i) (hj h2 1316 (Int32.toNatClampNeg 0)) (0 : Int64) h2) else (b_law_1017 G K (nI i) (hj h2 1316 (Int32.toNatClampNeg 0)) (1 : Int64) h2)) = _
    rw [e0]
    by_cases w0 : w = 0
    · refine o_pos w0 ?_
      rw [if_pos w0]
      unfold b_law_1017
      exact o_pos lg_same go
    · refine o_neg w0 ?_
      rw [if_neg w0]
      unfold b_law_1017
      exact o_pos lg_same go
theorem lw_node (hN : gN G ≤ 3072) (h6 : i + 6 ≤ gN G) (H : RX h) (hm : hz h < 900000) : ∃ h2, RX h2 ∧ RM h h2 ∧ ∀ K : Int32 → XH → Option (Int32 × XH), (if 0 ≤ ((nI i) + 1) ∧ ((nI i) + 1) < nI (gN G) then (Option.bind (f_t_node (gX G (Int32.toNatClampNeg ((nI i) + 1))) h) fun r236 => (if 0 ≤ ((nI i) + 1) ∧ ((nI i) + 1) < nI (gN G) then (Option.bind (f_m_node (gX G (Int32.toNatClampNeg ((nI i) + 1))) r236.2) fun r240 => (if r236.1 = r240.1 then (b_law_1263 G K (nI i) r240.2) else (some (0, r240.2)))) else none)) else none) = K (nI (i + 6)) h2 := by
  have q1 : 0 ≤ nI i + 1 ∧ nI i + 1 < nI (gN G) := lk (j := 1) hN h6 (by decide)
  obtain ⟨r, h1, h2, e1, e2, e3, e4⟩ := op_node (x := (gX G (Int32.toNatClampNeg (nI i + 1)))) H
  exact ⟨h2, e3, e4, fun K => o_pos q1 (o_bind e1 (o_pos q1 (o_bind e2 (o_pos rfl lgo))))⟩
theorem lw_has (hN : gN G ≤ 3072) (h6 : i + 6 ≤ gN G) (H : RX h) (hm : hz h < 900000) : ∃ h2, RX h2 ∧ RM h h2 ∧ ∀ K : Int32 → XH → Option (Int32 × XH), (if 0 ≤ ((nI i) + 1) ∧ ((nI i) + 1) < nI (gN G) then (Option.bind (f_t_has (gX G (Int32.toNatClampNeg ((nI i) + 1))) h) fun r245 => (if 0 ≤ ((nI i) + 1) ∧ ((nI i) + 1) < nI (gN G) then (Option.bind (f_m_has (gX G (Int32.toNatClampNeg ((nI i) + 1))) r245.2) fun r249 => (if r245.1 = r249.1 then (b_law_1263 G K (nI i) r249.2) else (some (0, r249.2)))) else none)) else none) = K (nI (i + 6)) h2 := by
  have q1 : 0 ≤ nI i + 1 ∧ nI i + 1 < nI (gN G) := lk (j := 1) hN h6 (by decide)
  obtain ⟨r, h1, h2, e1, e2, e3, e4⟩ := op_has (x := (gX G (Int32.toNatClampNeg (nI i + 1)))) H
  exact ⟨h2, e3, e4, fun K => o_pos q1 (o_bind e1 (o_pos q1 (o_bind e2 (o_pos rfl lgo))))⟩
theorem lw_read (hN : gN G ≤ 3072) (h6 : i + 6 ≤ gN G) (H : RX h) (hm : hz h < 900000) : ∃ h2, RX h2 ∧ RM h h2 ∧ ∀ K : Int32 → XH → Option (Int32 × XH), (if 0 ≤ ((nI i) + 1) ∧ ((nI i) + 1) < nI (gN G) then (Option.bind (f_L_read (gX G (Int32.toNatClampNeg ((nI i) + 1))) h) fun r254 => (if 0 ≤ ((nI i) + 1) ∧ ((nI i) + 1) < nI (gN G) then (Option.bind (f_m_read (gX G (Int32.toNatClampNeg ((nI i) + 1))) r254.2) fun r258 => (Option.bind (f_m_thrown r258.2) fun r261 => (if r261.1 = r254.1 then (if ¬ r254.1 = 0 then (b_law_1128 G K (nI i) r261.2) else (if (lg_cmp (hj r261.2 1316 (Int32.toNatClampNeg 0)) r258.1) = 0 then (b_law_1128 G K (nI i) r261.2) else (some (0, r261.2)))) else (some (0, r261.2))))) else none)) else none) = K (nI (i + 6)) h2 := by
  have q1 : 0 ≤ nI i + 1 ∧ nI i + 1 < nI (gN G) := lk (j := 1) hN h6 (by decide)
  have e2 : ∀ j k h1, (j, k) ∈ [(3, 1)] → f_t_read (gX G (Int32.toNatClampNeg (nI i + 1))) h = some (Sum.inr j, h1) → f_L_read (gX G (Int32.toNatClampNeg (nI i + 1))) h = some (nI k, h1) := by
    intro j k h1 hjk a
    have z : (j = 3 ∧ k = 1) := by simpa using hjk
    unfold f_L_read
    rw [a]
    rcases z with ⟨z1, z2⟩ <;> subst z1 <;> subst z2 <;> rfl
  have kp : ∀ j k, (j, k) ∈ [(3, 1)] → 0 < k ∧ k < 10 := by
    intro j k hjk
    have z : (j = 3 ∧ k = 1) := by simpa using hjk
    omega
  obtain ⟨x, g1, w, h2, y1, y2, y3, y4, y5, y6⟩ := th_law (op_read (x := (gX G (Int32.toNatClampNeg (nI i + 1)))) H hm) (fL := f_L_read (gX G (Int32.toNatClampNeg (nI i + 1))) h) (pv := fun v g1 => hj g1 1316 0 = (v)) (fun v h1 a => ⟨hsj h1 1316 0 (v), by unfold f_L_read; rw [a]; rfl, Or.inr ⟨_, rfl⟩, hj_at⟩) e2 kp
  have jk : hj h2 1316 = hj g1 1316 := j_f_m_read y2
  refine ⟨h2, y4, y5, fun K => o_pos q1 (o_bind y1 (o_pos q1 (o_bind y2 (o_bind y3 (o_pos rfl ?_)))))⟩
  have go : b_law_1128 G K (nI i) h2 = K (nI (i + 6)) h2 := by
    unfold b_law_1128
    exact lgo
  rcases y6 with y6 | ⟨y6, v, v1, v2⟩
  · exact o_pos y6 go
  · have e0 : hj h2 1316 (Int32.toNatClampNeg 0) = w := by
      rw [jk, ← v1]
      exact v2
    refine o_neg (not_not_intro y6) (o_pos ?_ go)
    show lg_cmp (hj h2 1316 (Int32.toNatClampNeg 0)) (w) = 0
    rw [e0]
    exact lg_same
theorem lw_into (hN : gN G ≤ 3072) (h6 : i + 6 ≤ gN G) (H : RX h) (hm : hz h < 900000) : ∃ h2, RX h2 ∧ RM h h2 ∧ ∀ K : Int32 → XH → Option (Int32 × XH), (if 0 ≤ ((nI i) + 1) ∧ ((nI i) + 1) < nI (gN G) then (Option.bind (f_t_into (gX G (Int32.toNatClampNeg ((nI i) + 1))) h) fun r268 => (if 0 ≤ ((nI i) + 1) ∧ ((nI i) + 1) < nI (gN G) then (Option.bind (f_m_into (gX G (Int32.toNatClampNeg ((nI i) + 1))) r268.2) fun r272 => (if r268.1 = r272.1 then (b_law_1263 G K (nI i) r272.2) else (some (0, r272.2)))) else none)) else none) = K (nI (i + 6)) h2 := by
  have q1 : 0 ≤ nI i + 1 ∧ nI i + 1 < nI (gN G) := lk (j := 1) hN h6 (by decide)
  obtain ⟨r, h1, h2, e1, e2, e3, e4⟩ := op_into (x := (gX G (Int32.toNatClampNeg (nI i + 1)))) H
  exact ⟨h2, e3, e4, fun K => o_pos q1 (o_bind e1 (o_pos q1 (o_bind e2 (o_pos rfl lgo))))⟩
theorem lw_up (hN : gN G ≤ 3072) (h6 : i + 6 ≤ gN G) (H : RX h) (hm : hz h < 900000) : ∃ h2, RX h2 ∧ RM h h2 ∧ ∀ K : Int32 → XH → Option (Int32 × XH), (Option.bind (f_t_up h) fun r276 => (Option.bind (f_m_up r276.2) fun r279 => (if r276.1 = r279.1 then (b_law_1263 G K (nI i) r279.2) else (some (0, r279.2))))) = K (nI (i + 6)) h2 := by
  obtain ⟨r, h1, h2, e1, e2, e3, e4⟩ := op_up H
  exact ⟨h2, e3, e4, fun K => o_bind e1 (o_bind e2 (o_pos rfl lgo))⟩
theorem lw_write (hN : gN G ≤ 3072) (h6 : i + 6 ≤ gN G) (H : RX h) (hm : hz h < 900000) : ∃ h2, RX h2 ∧ RM h h2 ∧ ∀ K : Int32 → XH → Option (Int32 × XH), (if 0 ≤ ((nI i) + 1) ∧ ((nI i) + 1) < nI (gN G) then (if 0 ≤ ((nI i) + 2) ∧ ((nI i) + 2) < nI (gN G) then (if 0 ≤ ((nI i) + 3) ∧ ((nI i) + 3) < nI (gN G) then (Option.bind (f_t_write (gX G (Int32.toNatClampNeg ((nI i) + 1))) (((Int32.toInt64 (gX G (Int32.toNatClampNeg ((nI i) + 2)))) <<< ((Int32.toInt64 32) &&& 63)) ||| ((Int32.toInt64 (gX G (Int32.toNatClampNeg ((nI i) + 3)))) &&& (4294967295 : Int64))) h) fun r286 => (if 0 ≤ ((nI i) + 1) ∧ ((nI i) + 1) < nI (gN G) then (if 0 ≤ ((nI i) + 2) ∧ ((nI i) + 2) < nI (gN G) then (if 0 ≤ ((nI i) + 3) ∧ ((nI i) + 3) < nI (gN G) then (Option.bind (f_m_write (gX G (Int32.toNatClampNeg ((nI i) + 1))) (((Int32.toInt64 (gX G (Int32.toNatClampNeg ((nI i) + 2)))) <<< ((Int32.toInt64 32) &&& 63)) ||| ((Int32.toInt64 (gX G (Int32.toNatClampNeg ((nI i) + 3)))) &&& (4294967295 : Int64))) r286.2) fun r292 => (if r286.1 = r292.1 then (b_law_1263 G K (nI i) r292.2) else (some (0, r292.2)))) else none) else none) else none)) else none) else none) else none) = K (nI (i + 6)) h2 := by
  have q1 : 0 ≤ nI i + 1 ∧ nI i + 1 < nI (gN G) := lk (j := 1) hN h6 (by decide)
  have q2 : 0 ≤ nI i + 2 ∧ nI i + 2 < nI (gN G) := lk (j := 2) hN h6 (by decide)
  have q3 : 0 ≤ nI i + 3 ∧ nI i + 3 < nI (gN G) := lk (j := 3) hN h6 (by decide)
  obtain ⟨r, h1, h2, e1, e2, e3, e4⟩ := op_write (x := (gX G (Int32.toNatClampNeg (nI i + 1)))) (w := (((Int32.toInt64 (gX G (Int32.toNatClampNeg (nI i + 2)))) <<< ((Int32.toInt64 32) &&& 63)) ||| ((Int32.toInt64 (gX G (Int32.toNatClampNeg (nI i + 3)))) &&& (4294967295 : Int64)))) H hm
  exact ⟨h2, e3, e4, fun K => o_pos q1 (o_pos q2 (o_pos q3 (o_bind e1 (o_pos q1 (o_pos q2 (o_pos q3 (o_bind e2 (o_pos rfl lgo))))))))⟩
theorem lw_byteAt (hN : gN G ≤ 3072) (h6 : i + 6 ≤ gN G) (H : RX h) (hm : hz h < 900000) : ∃ h2, RX h2 ∧ RM h h2 ∧ ∀ K : Int32 → XH → Option (Int32 × XH), (if 0 ≤ ((nI i) + 1) ∧ ((nI i) + 1) < nI (gN G) then (Option.bind (f_t_byteAt (gX G (Int32.toNatClampNeg ((nI i) + 1))) h) fun r297 => (if 0 ≤ ((nI i) + 1) ∧ ((nI i) + 1) < nI (gN G) then (Option.bind (f_m_byteAt (gX G (Int32.toNatClampNeg ((nI i) + 1))) r297.2) fun r301 => (if r297.1 = r301.1 then (b_law_1263 G K (nI i) r301.2) else (some (0, r301.2)))) else none)) else none) = K (nI (i + 6)) h2 := by
  have q1 : 0 ≤ nI i + 1 ∧ nI i + 1 < nI (gN G) := lk (j := 1) hN h6 (by decide)
  obtain ⟨r, h1, h2, e1, e2, e3, e4⟩ := op_byteAt (x := (gX G (Int32.toNatClampNeg (nI i + 1)))) H
  exact ⟨h2, e3, e4, fun K => o_pos q1 (o_bind e1 (o_pos q1 (o_bind e2 (o_pos rfl lgo))))⟩
theorem law_turn (hN : gN G ≤ 3072) (h6 : i + 6 ≤ gN G) (H : RX h) (hm : hz h < 900000) : ∃ h2, RX h2 ∧ RM h h2 ∧ ∀ K : Int32 → XH → Option (Int32 × XH), s_law_23 G K (nI i) h = K (nI (i + 6)) h2 := by
  have ri : 0 ≤ nI i ∧ nI i < nI (gN G) := ⟨nI_pos' (by omega), by (first | (simp (maxSteps := 4000000) (disch := omega) only [n_0, n_1, n_2, n_3, n_4, n_5, n_6, n_7, n_8, n_9, n_10, n_11, n_12, n_13, n_14, n_15, n_16, n_18, n_20, n_24, n_31, n_32, n_34, n_40, n_41, n_44, n_45, n_47, n_48, n_57, n_58, n_59, n_61, n_63, n_64, n_65, n_68, n_90, n_91, n_93, n_95, n_97, n_100, n_122, n_123, n_125, n_128, n_144, n_200, n_255, n_256, n_300, n_400, n_600, n_1536, n_3980, n_4000, n_4001, n_4300, n_65536, l_0, l_1, l_2, l_3, l_4, l_10, l_48, l_63, l_255, l_300, nI_ltI, nI_leI, nI_eq, nI_clamp, nI_add, pk_sub, pk_mul, nI_ne1, ne1_nI, nI_pge, nI_nlt0, nI_l, lN_i, lN_add, lN_mul, lN_sub, pk_lLT, pk_lLE, pk_lEQ, lg_lt, lg_ge, lg_eq0, lg_le, lg_gt, lg_ltn, lg_gen, lg_eq0n, lg_len, lg_gtn, Nat.zero_le, Nat.not_lt_zero, not_false_eq_true, not_true_eq_false, true_and, and_true]; done) | (simp (maxSteps := 4000000) (disch := omega) only [n_0, n_1, n_2, n_3, n_4, n_5, n_6, n_7, n_8, n_9, n_10, n_11, n_12, n_13, n_14, n_15, n_16, n_18, n_20, n_24, n_31, n_32, n_34, n_40, n_41, n_44, n_45, n_47, n_48, n_57, n_58, n_59, n_61, n_63, n_64, n_65, n_68, n_90, n_91, n_93, n_95, n_97, n_100, n_122, n_123, n_125, n_128, n_144, n_200, n_255, n_256, n_300, n_400, n_600, n_1536, n_3980, n_4000, n_4001, n_4300, n_65536, l_0, l_1, l_2, l_3, l_4, l_10, l_48, l_63, l_255, l_300, nI_ltI, nI_leI, nI_eq, nI_clamp, nI_add, pk_sub, pk_mul, nI_ne1, ne1_nI, nI_pge, nI_nlt0, nI_l, lN_i, lN_add, lN_mul, lN_sub, pk_lLT, pk_lLE, pk_lEQ, lg_lt, lg_ge, lg_eq0, lg_le, lg_gt, lg_ltn, lg_gen, lg_eq0n, lg_len, lg_gtn, Nat.zero_le, Nat.not_lt_zero, not_false_eq_true, not_true_eq_false, true_and, and_true]; omega) | omega)⟩
  have nl : ¬ (nI (gN G) - 6 < nI i) := by
    rw [n_6, pk_sub (by omega)]
    (first | (simp (maxSteps := 4000000) (disch := omega) only [n_0, n_1, n_2, n_3, n_4, n_5, n_6, n_7, n_8, n_9, n_10, n_11, n_12, n_13, n_14, n_15, n_16, n_18, n_20, n_24, n_31, n_32, n_34, n_40, n_41, n_44, n_45, n_47, n_48, n_57, n_58, n_59, n_61, n_63, n_64, n_65, n_68, n_90, n_91, n_93, n_95, n_97, n_100, n_122, n_123, n_125, n_128, n_144, n_200, n_255, n_256, n_300, n_400, n_600, n_1536, n_3980, n_4000, n_4001, n_4300, n_65536, l_0, l_1, l_2, l_3, l_4, l_10, l_48, l_63, l_255, l_300, nI_ltI, nI_leI, nI_eq, nI_clamp, nI_add, pk_sub, pk_mul, nI_ne1, ne1_nI, nI_pge, nI_nlt0, nI_l, lN_i, lN_add, lN_mul, lN_sub, pk_lLT, pk_lLE, pk_lEQ, lg_lt, lg_ge, lg_eq0, lg_le, lg_gt, lg_ltn, lg_gen, lg_eq0n, lg_len, lg_gtn, Nat.zero_le, Nat.not_lt_zero, not_false_eq_true, not_true_eq_false, true_and, and_true]; done) | (simp (maxSteps := 4000000) (disch := omega) only [n_0, n_1, n_2, n_3, n_4, n_5, n_6, n_7, n_8, n_9, n_10, n_11, n_12, n_13, n_14, n_15, n_16, n_18, n_20, n_24, n_31, n_32, n_34, n_40, n_41, n_44, n_45, n_47, n_48, n_57, n_58, n_59, n_61, n_63, n_64, n_65, n_68, n_90, n_91, n_93, n_95, n_97, n_100, n_122, n_123, n_125, n_128, n_144, n_200, n_255, n_256, n_300, n_400, n_600, n_1536, n_3980, n_4000, n_4001, n_4300, n_65536, l_0, l_1, l_2, l_3, l_4, l_10, l_48, l_63, l_255, l_300, nI_ltI, nI_leI, nI_eq, nI_clamp, nI_add, pk_sub, pk_mul, nI_ne1, ne1_nI, nI_pge, nI_nlt0, nI_l, lN_i, lN_add, lN_mul, lN_sub, pk_lLT, pk_lLE, pk_lEQ, lg_lt, lg_ge, lg_eq0, lg_le, lg_gt, lg_ltn, lg_gen, lg_eq0n, lg_len, lg_gtn, Nat.zero_le, Nat.not_lt_zero, not_false_eq_true, not_true_eq_false, true_and, and_true]; omega) | omega)
  have ci : Int32.toNatClampNeg (nI i) = i := nI_clamp (by omega)
  by_cases k0 : gX G (Int32.toNatClampNeg (nI i)) &&& 31 = 0
  · obtain ⟨h2, x1, x2, x3⟩ := lw_feed hN h6 H hm
    refine ⟨h2, x1, x2, fun K => ?_⟩
    unfold s_law_23
    exact o_neg nl (o_pos ri (o_pos k0 (x3 K)))
  by_cases k1 : gX G (Int32.toNatClampNeg (nI i)) &&& 31 = 1
  · obtain ⟨h2, x1, x2, x3⟩ := lw_end hN h6 H hm
    refine ⟨h2, x1, x2, fun K => ?_⟩
    unfold s_law_23
    exact o_neg nl (o_pos ri (o_neg k0 (o_pos k1 (x3 K))))
  by_cases k2 : gX G (Int32.toNatClampNeg (nI i)) &&& 31 = 2
  · obtain ⟨h2, x1, x2, x3⟩ := lw_schema hN h6 H hm
    refine ⟨h2, x1, x2, fun K => ?_⟩
    unfold s_law_23
    exact o_neg nl (o_pos ri (o_neg k0 (o_neg k1 (o_pos k2 (x3 K)))))
  by_cases k3 : gX G (Int32.toNatClampNeg (nI i)) &&& 31 = 3
  · obtain ⟨h2, x1, x2, x3⟩ := lw_fault hN h6 H hm
    refine ⟨h2, x1, x2, fun K => ?_⟩
    unfold s_law_23
    exact o_neg nl (o_pos ri (o_neg k0 (o_neg k1 (o_neg k2 (o_pos k3 (x3 K))))))
  by_cases k4 : gX G (Int32.toNatClampNeg (nI i)) &&& 31 = 4
  · obtain ⟨h2, x1, x2, x3⟩ := lw_size hN h6 H hm
    refine ⟨h2, x1, x2, fun K => ?_⟩
    unfold s_law_23
    exact o_neg nl (o_pos ri (o_neg k0 (o_neg k1 (o_neg k2 (o_neg k3 (o_pos k4 (x3 K)))))))
  by_cases k5 : gX G (Int32.toNatClampNeg (nI i)) &&& 31 = 5
  · obtain ⟨h2, x1, x2, x3⟩ := lw_field hN h6 H hm
    refine ⟨h2, x1, x2, fun K => ?_⟩
    unfold s_law_23
    exact o_neg nl (o_pos ri (o_neg k0 (o_neg k1 (o_neg k2 (o_neg k3 (o_neg k4 (o_pos k5 (x3 K))))))))
  by_cases k6 : gX G (Int32.toNatClampNeg (nI i)) &&& 31 = 6
  · obtain ⟨h2, x1, x2, x3⟩ := lw_standard hN h6 H hm
    refine ⟨h2, x1, x2, fun K => ?_⟩
    unfold s_law_23
    exact o_neg nl (o_pos ri (o_neg k0 (o_neg k1 (o_neg k2 (o_neg k3 (o_neg k4 (o_neg k5 (o_pos k6 (x3 K)))))))))
  by_cases k7 : gX G (Int32.toNatClampNeg (nI i)) &&& 31 = 7
  · obtain ⟨h2, x1, x2, x3⟩ := lw_find hN h6 H hm
    refine ⟨h2, x1, x2, fun K => ?_⟩
    unfold s_law_23
    exact o_neg nl (o_pos ri (o_neg k0 (o_neg k1 (o_neg k2 (o_neg k3 (o_neg k4 (o_neg k5 (o_neg k6 (o_pos k7 (x3 K))))))))))
  by_cases k8 : gX G (Int32.toNatClampNeg (nI i)) &&& 31 = 8
  · obtain ⟨h2, x1, x2, x3⟩ := lw_push hN h6 H hm
    refine ⟨h2, x1, x2, fun K => ?_⟩
    unfold s_law_23
    exact o_neg nl (o_pos ri (o_neg k0 (o_neg k1 (o_neg k2 (o_neg k3 (o_neg k4 (o_neg k5 (o_neg k6 (o_neg k7 (o_pos k8 (x3 K)))))))))))
  by_cases k9 : gX G (Int32.toNatClampNeg (nI i)) &&& 31 = 9
  · obtain ⟨h2, x1, x2, x3⟩ := lw_text hN h6 H hm
    refine ⟨h2, x1, x2, fun K => ?_⟩
    unfold s_law_23
    exact o_neg nl (o_pos ri (o_neg k0 (o_neg k1 (o_neg k2 (o_neg k3 (o_neg k4 (o_neg k5 (o_neg k6 (o_neg k7 (o_neg k8 (o_pos k9 (x3 K))))))))))))
  by_cases k10 : gX G (Int32.toNatClampNeg (nI i)) &&& 31 = 10
  · obtain ⟨h2, x1, x2, x3⟩ := lw_vector hN h6 H hm
    refine ⟨h2, x1, x2, fun K => ?_⟩
    unfold s_law_23
    exact o_neg nl (o_pos ri (o_neg k0 (o_neg k1 (o_neg k2 (o_neg k3 (o_neg k4 (o_neg k5 (o_neg k6 (o_neg k7 (o_neg k8 (o_neg k9 (o_pos k10 (x3 K)))))))))))))
  by_cases k11 : gX G (Int32.toNatClampNeg (nI i)) &&& 31 = 11
  · obtain ⟨h2, x1, x2, x3⟩ := lw_begin hN h6 H hm
    refine ⟨h2, x1, x2, fun K => ?_⟩
    unfold s_law_23
    exact o_neg nl (o_pos ri (o_neg k0 (o_neg k1 (o_neg k2 (o_neg k3 (o_neg k4 (o_neg k5 (o_neg k6 (o_neg k7 (o_neg k8 (o_neg k9 (o_neg k10 (o_pos k11 (x3 K))))))))))))))
  by_cases k12 : gX G (Int32.toNatClampNeg (nI i)) &&& 31 = 12
  · obtain ⟨h2, x1, x2, x3⟩ := lw_set hN h6 H hm
    refine ⟨h2, x1, x2, fun K => ?_⟩
    unfold s_law_23
    exact o_neg nl (o_pos ri (o_neg k0 (o_neg k1 (o_neg k2 (o_neg k3 (o_neg k4 (o_neg k5 (o_neg k6 (o_neg k7 (o_neg k8 (o_neg k9 (o_neg k10 (o_neg k11 (o_pos k12 (x3 K)))))))))))))))
  by_cases k13 : gX G (Int32.toNatClampNeg (nI i)) &&& 31 = 13
  · obtain ⟨h2, x1, x2, x3⟩ := lw_ready hN h6 H hm
    refine ⟨h2, x1, x2, fun K => ?_⟩
    unfold s_law_23
    exact o_neg nl (o_pos ri (o_neg k0 (o_neg k1 (o_neg k2 (o_neg k3 (o_neg k4 (o_neg k5 (o_neg k6 (o_neg k7 (o_neg k8 (o_neg k9 (o_neg k10 (o_neg k11 (o_neg k12 (o_pos k13 (x3 K))))))))))))))))
  by_cases k14 : gX G (Int32.toNatClampNeg (nI i)) &&& 31 = 14
  · obtain ⟨h2, x1, x2, x3⟩ := lw_finish hN h6 H hm
    refine ⟨h2, x1, x2, fun K => ?_⟩
    unfold s_law_23
    exact o_neg nl (o_pos ri (o_neg k0 (o_neg k1 (o_neg k2 (o_neg k3 (o_neg k4 (o_neg k5 (o_neg k6 (o_neg k7 (o_neg k8 (o_neg k9 (o_neg k10 (o_neg k11 (o_neg k12 (o_neg k13 (o_pos k14 (x3 K)))))))))))))))))
  by_cases k15 : gX G (Int32.toNatClampNeg (nI i)) &&& 31 = 15
  · obtain ⟨h2, x1, x2, x3⟩ := lw_clear hN h6 H hm
    refine ⟨h2, x1, x2, fun K => ?_⟩
    unfold s_law_23
    exact o_neg nl (o_pos ri (o_neg k0 (o_neg k1 (o_neg k2 (o_neg k3 (o_neg k4 (o_neg k5 (o_neg k6 (o_neg k7 (o_neg k8 (o_neg k9 (o_neg k10 (o_neg k11 (o_neg k12 (o_neg k13 (o_neg k14 (o_pos k15 (x3 K))))))))))))))))))
  by_cases k16 : gX G (Int32.toNatClampNeg (nI i)) &&& 31 = 16
  · obtain ⟨h2, x1, x2, x3⟩ := lw_out hN h6 H hm
    refine ⟨h2, x1, x2, fun K => ?_⟩
    unfold s_law_23
    exact o_neg nl (o_pos ri (o_neg k0 (o_neg k1 (o_neg k2 (o_neg k3 (o_neg k4 (o_neg k5 (o_neg k6 (o_neg k7 (o_neg k8 (o_neg k9 (o_neg k10 (o_neg k11 (o_neg k12 (o_neg k13 (o_neg k14 (o_neg k15 (o_pos k16 (x3 K)))))))))))))))))))
  by_cases k17 : gX G (Int32.toNatClampNeg (nI i)) &&& 31 = 17
  · obtain ⟨h2, x1, x2, x3⟩ := lw_count hN h6 H hm
    refine ⟨h2, x1, x2, fun K => ?_⟩
    unfold s_law_23
    exact o_neg nl (o_pos ri (o_neg k0 (o_neg k1 (o_neg k2 (o_neg k3 (o_neg k4 (o_neg k5 (o_neg k6 (o_neg k7 (o_neg k8 (o_neg k9 (o_neg k10 (o_neg k11 (o_neg k12 (o_neg k13 (o_neg k14 (o_neg k15 (o_neg k16 (o_pos k17 (x3 K))))))))))))))))))))
  by_cases k18 : gX G (Int32.toNatClampNeg (nI i)) &&& 31 = 18
  · obtain ⟨h2, x1, x2, x3⟩ := lw_load hN h6 H hm
    refine ⟨h2, x1, x2, fun K => ?_⟩
    unfold s_law_23
    exact o_neg nl (o_pos ri (o_neg k0 (o_neg k1 (o_neg k2 (o_neg k3 (o_neg k4 (o_neg k5 (o_neg k6 (o_neg k7 (o_neg k8 (o_neg k9 (o_neg k10 (o_neg k11 (o_neg k12 (o_neg k13 (o_neg k14 (o_neg k15 (o_neg k16 (o_neg k17 (o_pos k18 (x3 K)))))))))))))))))))))
  by_cases k19 : gX G (Int32.toNatClampNeg (nI i)) &&& 31 = 19
  · obtain ⟨h2, x1, x2, x3⟩ := lw_node hN h6 H hm
    refine ⟨h2, x1, x2, fun K => ?_⟩
    unfold s_law_23
    exact o_neg nl (o_pos ri (o_neg k0 (o_neg k1 (o_neg k2 (o_neg k3 (o_neg k4 (o_neg k5 (o_neg k6 (o_neg k7 (o_neg k8 (o_neg k9 (o_neg k10 (o_neg k11 (o_neg k12 (o_neg k13 (o_neg k14 (o_neg k15 (o_neg k16 (o_neg k17 (o_neg k18 (o_pos k19 (x3 K))))))))))))))))))))))
  by_cases k20 : gX G (Int32.toNatClampNeg (nI i)) &&& 31 = 20
  · obtain ⟨h2, x1, x2, x3⟩ := lw_has hN h6 H hm
    refine ⟨h2, x1, x2, fun K => ?_⟩
    unfold s_law_23
    exact o_neg nl (o_pos ri (o_neg k0 (o_neg k1 (o_neg k2 (o_neg k3 (o_neg k4 (o_neg k5 (o_neg k6 (o_neg k7 (o_neg k8 (o_neg k9 (o_neg k10 (o_neg k11 (o_neg k12 (o_neg k13 (o_neg k14 (o_neg k15 (o_neg k16 (o_neg k17 (o_neg k18 (o_neg k19 (o_pos k20 (x3 K)))))))))))))))))))))))
  by_cases k21 : gX G (Int32.toNatClampNeg (nI i)) &&& 31 = 21
  · obtain ⟨h2, x1, x2, x3⟩ := lw_read hN h6 H hm
    refine ⟨h2, x1, x2, fun K => ?_⟩
    unfold s_law_23
    exact o_neg nl (o_pos ri (o_neg k0 (o_neg k1 (o_neg k2 (o_neg k3 (o_neg k4 (o_neg k5 (o_neg k6 (o_neg k7 (o_neg k8 (o_neg k9 (o_neg k10 (o_neg k11 (o_neg k12 (o_neg k13 (o_neg k14 (o_neg k15 (o_neg k16 (o_neg k17 (o_neg k18 (o_neg k19 (o_neg k20 (o_pos k21 (x3 K))))))))))))))))))))))))
  by_cases k22 : gX G (Int32.toNatClampNeg (nI i)) &&& 31 = 22
  · obtain ⟨h2, x1, x2, x3⟩ := lw_into hN h6 H hm
    refine ⟨h2, x1, x2, fun K => ?_⟩
    unfold s_law_23
    exact o_neg nl (o_pos ri (o_neg k0 (o_neg k1 (o_neg k2 (o_neg k3 (o_neg k4 (o_neg k5 (o_neg k6 (o_neg k7 (o_neg k8 (o_neg k9 (o_neg k10 (o_neg k11 (o_neg k12 (o_neg k13 (o_neg k14 (o_neg k15 (o_neg k16 (o_neg k17 (o_neg k18 (o_neg k19 (o_neg k20 (o_neg k21 (o_pos k22 (x3 K)))))))))))))))))))))))))
  by_cases k23 : gX G (Int32.toNatClampNeg (nI i)) &&& 31 = 23
  · obtain ⟨h2, x1, x2, x3⟩ := lw_up hN h6 H hm
    refine ⟨h2, x1, x2, fun K => ?_⟩
    unfold s_law_23
    exact o_neg nl (o_pos ri (o_neg k0 (o_neg k1 (o_neg k2 (o_neg k3 (o_neg k4 (o_neg k5 (o_neg k6 (o_neg k7 (o_neg k8 (o_neg k9 (o_neg k10 (o_neg k11 (o_neg k12 (o_neg k13 (o_neg k14 (o_neg k15 (o_neg k16 (o_neg k17 (o_neg k18 (o_neg k19 (o_neg k20 (o_neg k21 (o_neg k22 (o_pos k23 (x3 K))))))))))))))))))))))))))
  by_cases k24 : gX G (Int32.toNatClampNeg (nI i)) &&& 31 = 24
  · obtain ⟨h2, x1, x2, x3⟩ := lw_write hN h6 H hm
    refine ⟨h2, x1, x2, fun K => ?_⟩
    unfold s_law_23
    exact o_neg nl (o_pos ri (o_neg k0 (o_neg k1 (o_neg k2 (o_neg k3 (o_neg k4 (o_neg k5 (o_neg k6 (o_neg k7 (o_neg k8 (o_neg k9 (o_neg k10 (o_neg k11 (o_neg k12 (o_neg k13 (o_neg k14 (o_neg k15 (o_neg k16 (o_neg k17 (o_neg k18 (o_neg k19 (o_neg k20 (o_neg k21 (o_neg k22 (o_neg k23 (o_pos k24 (x3 K)))))))))))))))))))))))))))
  by_cases k25 : gX G (Int32.toNatClampNeg (nI i)) &&& 31 = 25
  · obtain ⟨h2, x1, x2, x3⟩ := lw_byteAt hN h6 H hm
    refine ⟨h2, x1, x2, fun K => ?_⟩
    unfold s_law_23
    exact o_neg nl (o_pos ri (o_neg k0 (o_neg k1 (o_neg k2 (o_neg k3 (o_neg k4 (o_neg k5 (o_neg k6 (o_neg k7 (o_neg k8 (o_neg k9 (o_neg k10 (o_neg k11 (o_neg k12 (o_neg k13 (o_neg k14 (o_neg k15 (o_neg k16 (o_neg k17 (o_neg k18 (o_neg k19 (o_neg k20 (o_neg k21 (o_neg k22 (o_neg k23 (o_neg k24 (o_pos k25 (x3 K))))))))))))))))))))))))))))
  refine ⟨h, H, RM.same rfl rfl, fun K => ?_⟩
  unfold s_law_23
  exact o_neg nl (o_pos ri (o_neg k0 (o_neg k1 (o_neg k2 (o_neg k3 (o_neg k4 (o_neg k5 (o_neg k6 (o_neg k7 (o_neg k8 (o_neg k9 (o_neg k10 (o_neg k11 (o_neg k12 (o_neg k13 (o_neg k14 (o_neg k15 (o_neg k16 (o_neg k17 (o_neg k18 (o_neg k19 (o_neg k20 (o_neg k21 (o_neg k22 (o_neg k23 (o_neg k24 (o_neg k25 (lgo))))))))))))))))))))))))))))
theorem law_all (hN : gN G ≤ 3072) (hN6 : 6 ≤ gN G) : ∀ (m i fuel : Nat) (h : XH), gN G ≤ i + 6 * m → m < fuel → RX h → hz h + 400 * m ≤ 600000 → hw h + 1000 * m ≤ 7000000 → i ≤ gN G + 6 → ∃ h2, b_law_23 G fuel (nI i) h = some (1, h2) ∧ hz h2 ≤ 601024 ∧ hw h2 ≤ 7293034 := by
  intro m
  induction m with
  | zero =>
    intro i fuel h e hf H z w li
    obtain ⟨fu, rfl, -⟩ := fuel_pos hf
    refine ⟨h, ?_, by omega, by omega⟩
    show s_law_23 G (b_law_23 G fu) _ _ = _
    unfold s_law_23
    refine o_pos ?_ rfl
    rw [n_6, pk_sub (by omega)]
    (first | (simp (maxSteps := 4000000) (disch := omega) only [n_0, n_1, n_2, n_3, n_4, n_5, n_6, n_7, n_8, n_9, n_10, n_11, n_12, n_13, n_14, n_15, n_16, n_18, n_20, n_24, n_31, n_32, n_34, n_40, n_41, n_44, n_45, n_47, n_48, n_57, n_58, n_59, n_61, n_63, n_64, n_65, n_68, n_90, n_91, n_93, n_95, n_97, n_100, n_122, n_123, n_125, n_128, n_144, n_200, n_255, n_256, n_300, n_400, n_600, n_1536, n_3980, n_4000, n_4001, n_4300, n_65536, l_0, l_1, l_2, l_3, l_4, l_10, l_48, l_63, l_255, l_300, nI_ltI, nI_leI, nI_eq, nI_clamp, nI_add, pk_sub, pk_mul, nI_ne1, ne1_nI, nI_pge, nI_nlt0, nI_l, lN_i, lN_add, lN_mul, lN_sub, pk_lLT, pk_lLE, pk_lEQ, lg_lt, lg_ge, lg_eq0, lg_le, lg_gt, lg_ltn, lg_gen, lg_eq0n, lg_len, lg_gtn, Nat.zero_le, Nat.not_lt_zero, not_false_eq_true, not_true_eq_false, true_and, and_true]; done) | (simp (maxSteps := 4000000) (disch := omega) only [n_0, n_1, n_2, n_3, n_4, n_5, n_6, n_7, n_8, n_9, n_10, n_11, n_12, n_13, n_14, n_15, n_16, n_18, n_20, n_24, n_31, n_32, n_34, n_40, n_41, n_44, n_45, n_47, n_48, n_57, n_58, n_59, n_61, n_63, n_64, n_65, n_68, n_90, n_91, n_93, n_95, n_97, n_100, n_122, n_123, n_125, n_128, n_144, n_200, n_255, n_256, n_300, n_400, n_600, n_1536, n_3980, n_4000, n_4001, n_4300, n_65536, l_0, l_1, l_2, l_3, l_4, l_10, l_48, l_63, l_255, l_300, nI_ltI, nI_leI, nI_eq, nI_clamp, nI_add, pk_sub, pk_mul, nI_ne1, ne1_nI, nI_pge, nI_nlt0, nI_l, lN_i, lN_add, lN_mul, lN_sub, pk_lLT, pk_lLE, pk_lEQ, lg_lt, lg_ge, lg_eq0, lg_le, lg_gt, lg_ltn, lg_gen, lg_eq0n, lg_len, lg_gtn, Nat.zero_le, Nat.not_lt_zero, not_false_eq_true, not_true_eq_false, true_and, and_true]; omega) | omega)
  | succ m ih =>
    intro i fuel h e hf H z w li
    obtain ⟨fu, rfl, -⟩ := fuel_pos hf
    by_cases c : gN G < i + 6
    · refine ⟨h, ?_, by omega, by omega⟩
      show s_law_23 G (b_law_23 G fu) _ _ = _
      unfold s_law_23
      refine o_pos ?_ rfl
      rw [n_6, pk_sub (by omega)]
      (first | (simp (maxSteps := 4000000) (disch := omega) only [n_0, n_1, n_2, n_3, n_4, n_5, n_6, n_7, n_8, n_9, n_10, n_11, n_12, n_13, n_14, n_15, n_16, n_18, n_20, n_24, n_31, n_32, n_34, n_40, n_41, n_44, n_45, n_47, n_48, n_57, n_58, n_59, n_61, n_63, n_64, n_65, n_68, n_90, n_91, n_93, n_95, n_97, n_100, n_122, n_123, n_125, n_128, n_144, n_200, n_255, n_256, n_300, n_400, n_600, n_1536, n_3980, n_4000, n_4001, n_4300, n_65536, l_0, l_1, l_2, l_3, l_4, l_10, l_48, l_63, l_255, l_300, nI_ltI, nI_leI, nI_eq, nI_clamp, nI_add, pk_sub, pk_mul, nI_ne1, ne1_nI, nI_pge, nI_nlt0, nI_l, lN_i, lN_add, lN_mul, lN_sub, pk_lLT, pk_lLE, pk_lEQ, lg_lt, lg_ge, lg_eq0, lg_le, lg_gt, lg_ltn, lg_gen, lg_eq0n, lg_len, lg_gtn, Nat.zero_le, Nat.not_lt_zero, not_false_eq_true, not_true_eq_false, true_and, and_true]; done) | (simp (maxSteps := 4000000) (disch := omega) only [n_0, n_1, n_2, n_3, n_4, n_5, n_6, n_7, n_8, n_9, n_10, n_11, n_12, n_13, n_14, n_15, n_16, n_18, n_20, n_24, n_31, n_32, n_34, n_40, n_41, n_44, n_45, n_47, n_48, n_57, n_58, n_59, n_61, n_63, n_64, n_65, n_68, n_90, n_91, n_93, n_95, n_97, n_100, n_122, n_123, n_125, n_128, n_144, n_200, n_255, n_256, n_300, n_400, n_600, n_1536, n_3980, n_4000, n_4001, n_4300, n_65536, l_0, l_1, l_2, l_3, l_4, l_10, l_48, l_63, l_255, l_300, nI_ltI, nI_leI, nI_eq, nI_clamp, nI_add, pk_sub, pk_mul, nI_ne1, ne1_nI, nI_pge, nI_nlt0, nI_l, lN_i, lN_add, lN_mul, lN_sub, pk_lLT, pk_lLE, pk_lEQ, lg_lt, lg_ge, lg_eq0, lg_le, lg_gt, lg_ltn, lg_gen, lg_eq0n, lg_len, lg_gtn, Nat.zero_le, Nat.not_lt_zero, not_false_eq_true, not_true_eq_false, true_and, and_true]; omega) | omega)
    · obtain ⟨h1, x1, x2, x3⟩ := law_turn (G := G) (i := i) hN (by omega) H (by omega)
      unfold RM at x2
      obtain ⟨h2, y1, y2, y3⟩ := ih (i + 6) fu h1 (by omega) (by omega) x1 (by omega) (by omega) (by omega)
      exact ⟨h2, (x3 _).trans y1, y2, y3⟩
end Lw
