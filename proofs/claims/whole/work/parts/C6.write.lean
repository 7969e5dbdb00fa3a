/-! Calls: write -/

/-- what the model's write does once the bytes stand -/
def wrX (h : XH) : Option (Int32 × XH) := Option.bind (f_m_judge h) fun r10 => (if ¬ r10.1 = 0 then (b_m_write_119 100000 0 r10.2) else (Option.bind (f_m_back r10.2) fun r14 => (some (0, r14.2))))
def wmS (m : XH) (f f2 : Nat → Int32) (ct root pl : Nat) : XH := ENm (hsi (hri (hsi (hsi (hsi (hri m 1310 f) 1262 76 0) 1262 77 0) 1262 78 (nI ct)) 1311 f2) 1262 87 0) 0 (nI 3) (nI root) (-1) (nI pl)
def wmF (m : XH) (f f2 : Nat → Int32) (n : Nat) (x : J3) : XH := hri (hsi (hsi (hsi (hsi (hsi (hsi (hri m 1310 f) 1262 76 0) 1262 77 0) 1262 78 (nI x.2.2)) 1262 76 (nI x.1)) 1262 77 (nI x.2.1)) 1262 75 (nI n)) 1310 f2
section Wr
variable {h g : XH} {S n : Nat} {sg : SGT} {sd : Nat → Int64}
theorem e_m_write65_loop {m : XH} {v : Int64} {q oo : Nat} (ho : oo < 11) (hq : q + bO oo ≤ 4000) : ∀ (r j fuel : Nat) (f : Nat → Int32), r < fuel → j + r = bO oo → (∀ l, l < j → f (q + l) = nI (v8 v l)) → (∀ k, k < q ∨ q + bO oo ≤ k → f k = hi m 1310 k) → ∃ f', b_m_write_65 fuel v (nI oo) (nI q) (nI j) (hri m 1310 f) = wrX (hri m 1310 f') ∧ (∀ l, l < bO oo → f' (q + l) = nI (v8 v l)) ∧ ∀ k, k < q ∨ q + bO oo ≤ k → f' k = hi m 1310 k := by
  have bb := bO_le oo
  intro r
  induction r with
  | zero =>
    intro j fuel f hf hj' q1 q2
    obtain ⟨fu, rfl, -⟩ := fuel_pos hf
    have ej : j = bO oo := by omega
    subst ej
    refine ⟨f, ?_, q1, q2⟩
    show s_m_write_65 (b_m_write_65 fu) _ _ _ _ _ = _
    unfold s_m_write_65
    exact o_bind (e_m_bytesOf ho) (o_pos (by (first | (simp (maxSteps := 4000000) (disch := omega) only [n_0, n_1, n_2, n_3, n_4, n_5, n_6, n_7, n_8, n_9, n_10, n_11, n_12, n_13, n_14, n_15, n_16, n_18, n_20, n_24, n_31, n_32, n_34, n_40, n_41, n_44, n_45, n_47, n_48, n_57, n_58, n_59, n_61, n_63, n_64, n_65, n_68, n_90, n_91, n_93, n_95, n_97, n_100, n_122, n_123, n_125, n_128, n_144, n_200, n_255, n_256, n_300, n_400, n_600, n_1536, n_3980, n_4000, n_4001, n_4300, n_65536, l_0, l_1, l_2, l_3, l_4, l_10, l_48, l_63, l_255, l_300, nI_ltI, nI_leI, nI_eq, nI_clamp, nI_add, pk_sub, pk_mul, nI_ne1, ne1_nI, nI_pge, nI_nlt0, nI_l, lN_i, lN_add, lN_mul, lN_sub, pk_lLT, pk_lLE, pk_lEQ, lg_lt, lg_ge, lg_eq0, lg_le, lg_gt, lg_ltn, lg_gen, lg_eq0n, lg_len, lg_gtn, Nat.zero_le, Nat.not_lt_zero, not_false_eq_true, not_true_eq_false, true_and, and_true]; done) | (simp (maxSteps := 4000000) (disch := omega) only [n_0, n_1, n_2, n_3, n_4, n_5, n_6, n_7, n_8, n_9, n_10, n_11, n_12, n_13, n_14, n_15, n_16, n_18, n_20, n_24, n_31, n_32, n_34, n_40, n_41, n_44, n_45, n_47, n_48, n_57, n_58, n_59, n_61, n_63, n_64, n_65, n_68, n_90, n_91, n_93, n_95, n_97, n_100, n_122, n_123, n_125, n_128, n_144, n_200, n_255, n_256, n_300, n_400, n_600, n_1536, n_3980, n_4000, n_4001, n_4300, n_65536, l_0, l_1, l_2, l_3, l_4, l_10, l_48, l_63, l_255, l_300, nI_ltI, nI_leI, nI_eq, nI_clamp, nI_add, pk_sub, pk_mul, nI_ne1, ne1_nI, nI_pge, nI_nlt0, nI_l, lN_i, lN_add, lN_mul, lN_sub, pk_lLT, pk_lLE, pk_lEQ, lg_lt, lg_ge, lg_eq0, lg_le, lg_gt, lg_ltn, lg_gen, lg_eq0n, lg_len, lg_gtn, Nat.zero_le, Nat.not_lt_zero, not_false_eq_true, not_true_eq_false, true_and, and_true]; omega) | omega)) rfl)
  | succ r ih =>
    intro j fuel f hf hj' q1 q2
    obtain ⟨fu, rfl, -⟩ := fuel_pos hf
    obtain ⟨f', r1, r2, r3⟩ := ih (j + 1) fu (upd f (q + j) (nI (v8 v j))) (by omega) (by omega) (fun l hl => by
      by_cases w : l = j
      · subst w; rw [pk_us]
      · rw [pk_un (by omega)]; exact q1 l (by omega)) (fun k hk' => by rw [pk_un (by omega)]; exact q2 k hk')
    refine ⟨f', ?_, r2, r3⟩
    show s_m_write_65 (b_m_write_65 fu) _ _ _ _ _ = _
    unfold s_m_write_65
    refine o_bind (e_m_bytesOf ho) (o_neg (by (first | (simp (maxSteps := 4000000) (disch := omega) only [n_0, n_1, n_2, n_3, n_4, n_5, n_6, n_7, n_8, n_9, n_10, n_11, n_12, n_13, n_14, n_15, n_16, n_18, n_20, n_24, n_31, n_32, n_34, n_40, n_41, n_44, n_45, n_47, n_48, n_57, n_58, n_59, n_61, n_63, n_64, n_65, n_68, n_90, n_91, n_93, n_95, n_97, n_100, n_122, n_123, n_125, n_128, n_144, n_200, n_255, n_256, n_300, n_400, n_600, n_1536, n_3980, n_4000, n_4001, n_4300, n_65536, l_0, l_1, l_2, l_3, l_4, l_10, l_48, l_63, l_255, l_300, nI_ltI, nI_leI, nI_eq, nI_clamp, nI_add, pk_sub, pk_mul, nI_ne1, ne1_nI, nI_pge, nI_nlt0, nI_l, lN_i, lN_add, lN_mul, lN_sub, pk_lLT, pk_lLE, pk_lEQ, lg_lt, lg_ge, lg_eq0, lg_le, lg_gt, lg_ltn, lg_gen, lg_eq0n, lg_len, lg_gtn, Nat.zero_le, Nat.not_lt_zero, not_false_eq_true, not_true_eq_false, true_and, and_true]; done) | (simp (maxSteps := 4000000) (disch := omega) only [n_0, n_1, n_2, n_3, n_4, n_5, n_6, n_7, n_8, n_9, n_10, n_11, n_12, n_13, n_14, n_15, n_16, n_18, n_20, n_24, n_31, n_32, n_34, n_40, n_41, n_44, n_45, n_47, n_48, n_57, n_58, n_59, n_61, n_63, n_64, n_65, n_68, n_90, n_91, n_93, n_95, n_97, n_100, n_122, n_123, n_125, n_128, n_144, n_200, n_255, n_256, n_300, n_400, n_600, n_1536, n_3980, n_4000, n_4001, n_4300, n_65536, l_0, l_1, l_2, l_3, l_4, l_10, l_48, l_63, l_255, l_300, nI_ltI, nI_leI, nI_eq, nI_clamp, nI_add, pk_sub, pk_mul, nI_ne1, ne1_nI, nI_pge, nI_nlt0, nI_l, lN_i, lN_add, lN_mul, lN_sub, pk_lLT, pk_lLE, pk_lEQ, lg_lt, lg_ge, lg_eq0, lg_le, lg_gt, lg_ltn, lg_gen, lg_eq0n, lg_len, lg_gtn, Nat.zero_le, Nat.not_lt_zero, not_false_eq_true, not_true_eq_false, true_and, and_true]; omega) | omega)) ?_)
    dsimp only
    rw [m_byte v j (by omega), nI_add, nI_clamp (by omega), hsi_row, hi_hri_eq, hri_hri, nI_1]
    exact o_pos (by (first | (simp (maxSteps := 4000000) (disch := omega) only [n_0, n_1, n_2, n_3, n_4, n_5, n_6, n_7, n_8, n_9, n_10, n_11, n_12, n_13, n_14, n_15, n_16, n_18, n_20, n_24, n_31, n_32, n_34, n_40, n_41, n_44, n_45, n_47, n_48, n_57, n_58, n_59, n_61, n_63, n_64, n_65, n_68, n_90, n_91, n_93, n_95, n_97, n_100, n_122, n_123, n_125, n_128, n_144, n_200, n_255, n_256, n_300, n_400, n_600, n_1536, n_3980, n_4000, n_4001, n_4300, n_65536, l_0, l_1, l_2, l_3, l_4, l_10, l_48, l_63, l_255, l_300, nI_ltI, nI_leI, nI_eq, nI_clamp, nI_add, pk_sub, pk_mul, nI_ne1, ne1_nI, nI_pge, nI_nlt0, nI_l, lN_i, lN_add, lN_mul, lN_sub, pk_lLT, pk_lLE, pk_lEQ, lg_lt, lg_ge, lg_eq0, lg_le, lg_gt, lg_ltn, lg_gen, lg_eq0n, lg_len, lg_gtn, Nat.zero_le, Nat.not_lt_zero, not_false_eq_true, not_true_eq_false, true_and, and_true]; done) | (simp (maxSteps := 4000000) (disch := omega) only [n_0, n_1, n_2, n_3, n_4, n_5, n_6, n_7, n_8, n_9, n_10, n_11, n_12, n_13, n_14, n_15, n_16, n_18, n_20, n_24, n_31, n_32, n_34, n_40, n_41, n_44, n_45, n_47, n_48, n_57, n_58, n_59, n_61, n_63, n_64, n_65, n_68, n_90, n_91, n_93, n_95, n_97, n_100, n_122, n_123, n_125, n_128, n_144, n_200, n_255, n_256, n_300, n_400, n_600, n_1536, n_3980, n_4000, n_4001, n_4300, n_65536, l_0, l_1, l_2, l_3, l_4, l_10, l_48, l_63, l_255, l_300, nI_ltI, nI_leI, nI_eq, nI_clamp, nI_add, pk_sub, pk_mul, nI_ne1, ne1_nI, nI_pge, nI_nlt0, nI_l, lN_i, lN_add, lN_mul, lN_sub, pk_lLT, pk_lLE, pk_lEQ, lg_lt, lg_ge, lg_eq0, lg_le, lg_gt, lg_ltn, lg_gen, lg_eq0n, lg_len, lg_gtn, Nat.zero_le, Nat.not_lt_zero, not_false_eq_true, not_true_eq_false, true_and, and_true]; omega) | omega)) r1
theorem m_write {m : XH} {y y2 : Nat → Nat} {v : Int64} {q oo : Nat} (C : MC m n y sg sd) (W : WF sg sd) (ho : oo < 11) (hq : q + bO oo ≤ n) (e80 : hi m 1262 80 = nI n) (b11 : ∀ k, k < n → hi m 1311 k = nI (y k)) (hy2 : ∀ k, y2 k < 256) (ey1 : ∀ j, j < bO oo → y2 (q + j) = v8 v j) (ey2 : ∀ k, k < q ∨ q + bO oo ≤ k → y2 k = y k) : ∃ f, (∀ k, k < n → f k = nI (y2 k)) ∧ (¬ (jA sg y2 n).1 = 0 → ∃ f2, b_m_write_65 100000 v (nI oo) (nI q) 0 m = some (0, wmF m f f2 n (jA sg y2 n)) ∧ ∀ j, j < n → f2 j = nI (y j)) ∧ ((jA sg y2 n).1 = 0 → ∃ f2, b_m_write_65 100000 v (nI oo) (nI q) 0 m = some (1, wmS m f f2 (jA sg y2 n).2.2 (sg 0 3) (nb y2 4 0)) ∧ ∀ j, j < n → f2 j = nI (y2 j)) := by
  have n4 := C.1.2
  have bb := bO_le oo
  obtain ⟨f, r1, r2, r3⟩ := e_m_write65_loop (m := m) (v := v) (q := q) ho (by omega) (bO oo) 0 100000 (hi m 1310) (by omega) (by omega) (fun l hl => absurd hl (Nat.not_lt_zero l)) (fun _ _ => rfl)
  rw [hri_self, nI_0] at r1
  have fy : ∀ k, k < n → f k = nI (y2 k) := by
    intro k hk'
    by_cases c : k < q ∨ q + bO oo ≤ k
    · rw [r3 k c, ey2 k c]; exact C.2.2.1 k hk'
    · have z1 := r2 (k - q) (by omega)
      have z2 := ey1 (k - q) (by omega)
      rw [show q + (k - q) = k by omega] at z1 z2
      rw [z1, z2]
  have CM : MC (hri m 1310 f) n y2 sg sd := by
    obtain ⟨⟨c1, c2⟩, c3, c4, c5⟩ := C
    exact ⟨⟨by rw [hi_hri_ne (by decide)]; exact c1, c2⟩, hy2, fun k hk' => by rw [hi_hri_eq]; exact fy k hk', c5.cg (fun a h1 h2 => by rw [hi_hri_ne (by omega)]) rfl (by rw [hi_hri_ne (by decide)]; exact ⟨rfl, rfl, rfl, rfl⟩)⟩
  have eJ := e_m_judge CM W
  refine ⟨f, fy, fun z => ?_, fun z => ?_⟩
  · rw [jb_0 z] at eJ
    generalize hX : jA sg y2 n = X at *
    have e7 : mH (hsi (hsi (hri m 1310 f) 1262 76 0) 1262 77 0) X = hsi (hsi (hsi (hsi (hsi (hri m 1310 f) 1262 76 0) 1262 77 0) 1262 78 (nI X.2.2)) 1262 76 (nI X.1)) 1262 77 (nI X.2.1) := by
      unfold mH mh
      rw [if_neg z]
    rw [e7] at eJ
    obtain ⟨f2, b1, b2⟩ := e_m_back (m := hsi (hsi (hsi (hsi (hsi (hri m 1310 f) 1262 76 0) 1262 77 0) 1262 78 (nI X.2.2)) 1262 76 (nI X.1)) 1262 77 (nI X.2.1)) (n := n) (by
      simp (disch := decide) only [hi_nk, hi_hri_ne]
      exact e80) n4
    refine ⟨f2, r1.trans ?_, fun j hj' => ?_⟩
    · unfold wrX wmF
      exact o_bind eJ (o_neg (not_not_intro rfl) (o_bind b1 rfl))
    · rw [b2 j hj']
      simp (disch := decide) only [hi_hsi_ne, hi_hri_ne]
      exact b11 j hj'
  · have k4 := (jA_ok z W.1.2.2.2).1
    rw [jb_1 z] at eJ
    generalize hX : jA sg y2 n = X at *
    rw [mH_0 z] at eJ
    obtain ⟨f2, b1, b2⟩ := e_m_write119_loop (m := hsi (hsi (hsi (hri m 1310 f) 1262 76 0) 1262 77 0) 1262 78 (nI X.2.2)) (n := n) (by
      simp (disch := decide) only [hi_nk, hi_hri_ne]
      exact C.1.1) n4 n 0 100000 (hi (hsi (hsi (hsi (hri m 1310 f) 1262 76 0) 1262 77 0) 1262 78 (nI X.2.2)) 1311) (by omega) (by omega) (fun j hj' => absurd hj' (Nat.not_lt_zero j))
    rw [hri_self, nI_0] at b1
    have CR : MC (hri (hsi (hsi (hsi (hri m 1310 f) 1262 76 0) 1262 77 0) 1262 78 (nI X.2.2)) 1311 f2) n y2 sg sd := by
      have C1 := ((CM.si (k := 76) (v := 0) (by decide)).si (k := 77) (v := 0) (by decide)).si (k := 78) (v := nI X.2.2) (by decide)
      obtain ⟨⟨c1, c2⟩, c3, c4, c5⟩ := C1
      exact ⟨⟨by rw [hi_hri_ne (by decide)]; exact c1, c2⟩, c3, fun k hk' => by rw [hi_hri_ne (by decide)]; exact c4 k hk', c5.cg (fun a h1 h2 => by rw [hi_hri_ne (by omega)]) rfl (by rw [hi_hri_ne (by decide)]; exact ⟨rfl, rfl, rfl, rfl⟩)⟩
    refine ⟨f2, r1.trans ?_, fun j hj' => ?_⟩
    · unfold wrX wmS
      exact o_bind eJ (o_pos one0 (b1.trans (o_bind (e_m_atRoot CR k4) rfl)))
    · rw [b2 j hj']
      simp (disch := decide) only [hi_hsi_ne, hi_hri_eq]
      exact fy j hj'
end Wr
