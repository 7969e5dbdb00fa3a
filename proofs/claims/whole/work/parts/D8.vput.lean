/-! The builder: a vector is put -/

def mV (a k : Nat) : Prop := a = 1299 ∨ (a = 1262 ∧ (k = 57 ∨ k = 58))
section VPut
variable {h g : XH} {S : Nat} {sg : SGT} {sd : Nat → Int64}
theorem FRM.msm {P : Nat → Nat → Prop} (F : FRM P h g) (w : ∀ a k, P a k → a < 1262 ∨ (a = 1262 ∧ (k = 0 ∨ k = 2 ∨ k = 55))) : MSm h g := ⟨fun a h1 h2 => F.row fun k z => by have := w a k z; omega, fun a ha => F.hj (by omega), fun k h1 h2 h3 => F.at fun z => by have := w 1262 k z; omega⟩
theorem mul_lt {i m b : Nat} (h : i < m) : i * b + b ≤ m * b := by
  have h1 : (i + 1) * b ≤ m * b := Nat.mul_le_mul_right b h
  rw [Nat.add_mul, Nat.one_mul] at h1
  exact h1
/-- the class's loop -/
theorem vec_c_put {x0 yc : Int32} {m bytes N : Nat} {EB : Nat → Nat → Nat} {u1 : XH} (hN : N ≤ 4000) (mb : m * bytes ≤ N) (m6 : m ≤ 600) (pc : ∀ i, i < m → ∀ u, FRM (fun a _ => a = 1246) u1 u → (∀ j, j < bytes → cb u 1246 (4000 - N + i * bytes + j) = 0) → ∃ g, f_u_putContent S (nI (4000 - N + i * bytes)) x0 yc 5 (nI i) u = some ((), g) ∧ FRM (fun a _ => a = 1246) u g ∧ (∀ j, j < bytes → cb g 1246 (4000 - N + i * bytes + j) = EB i j) ∧ ∀ k, k < 4000 - N + i * bytes ∨ 4000 - N + i * bytes + bytes ≤ k → hi g 1246 k = hi u 1246 k) : ∀ (r i fuel : Nat) (u : XH), i + r = m → r < fuel → FRM (fun a _ => a = 1246) u1 u → (∀ i', i' < i → ∀ j, j < bytes → cb u 1246 (4000 - N + i' * bytes + j) = EB i' j) → (∀ k, 4000 - N + i * bytes ≤ k → k < 4000 - N + m * bytes → cb u 1246 k = 0) → (∀ k, k < 4000 - N ∨ 4000 - N + m * bytes ≤ k → hi u 1246 k = hi u1 1246 k) → ∃ u', b_u_addVector_62 fuel S x0 yc 5 (nI m) (nI bytes) (nI (4000 - N)) (nI i) u = (Option.bind (f_u_grow 4 4 u') fun r2 => (Option.bind (f_b_putNumber 1245 r2.1 4 (lN m) r2.2) fun r5 => (Option.bind (f_u_addThing 5 yc x0 r5.2) fun r8 => (some (r8.1, r8.2))))) ∧ FRM (fun a _ => a = 1246) u1 u' ∧ (∀ i', i' < m → ∀ j, j < bytes → cb u' 1246 (4000 - N + i' * bytes + j) = EB i' j) ∧ ∀ k, k < 4000 - N ∨ 4000 - N + m * bytes ≤ k → hi u' 1246 k = hi u1 1246 k := by
  intro r
  induction r with
  | zero =>
    intro i fuel u e hf F q1 q2 q3
    obtain ⟨f, rfl, -⟩ := fuel_pos hf
    have ei : i = m := by omega
    subst ei
    refine ⟨u, ?_, F, q1, q3⟩
    show s_u_addVector_62 (b_u_addVector_62 f) _ _ _ _ _ _ _ _ _ = _
    unfold s_u_addVector_62
    rw [nI_l (show i < 2 ^ 31 by omega)]
    exact o_pos (Int32.le_refl _) rfl
  | succ r ih =>
    intro i fuel u e hf F q1 q2 q3
    obtain ⟨f, rfl, -⟩ := fuel_pos hf
    have mi := mul_lt (i := i) (m := m) (b := bytes) (by omega)
    obtain ⟨g, y1, F1, y2, y3⟩ := pc i (by omega) u F (fun j hj' => q2 _ (by omega) (by omega))
    have nx : (i + 1) * bytes = i * bytes + bytes := by rw [Nat.add_mul, Nat.one_mul]
    obtain ⟨u', z1, z2⟩ := ih (i + 1) f g (by omega) (by omega) (F.trans F1) (fun i' hi' j hj' => by
      by_cases c : i' = i
      · rw [c]
        exact y2 j hj'
      · have mj := mul_lt (i := i') (m := i) (b := bytes) (by omega)
        rw [← q1 i' (by omega) j hj']
        unfold cb
        rw [y3 _ (by omega)]) (fun k h1 h2 => by
      rw [nx] at h1
      rw [← q2 k (by omega) h2]
      unfold cb
      rw [y3 _ (by omega)]) (fun k hk' => by rw [y3 _ (by omega)]; exact q3 k hk')
    refine ⟨u', ?_, z2⟩
    show s_u_addVector_62 (b_u_addVector_62 f) _ _ _ _ _ _ _ _ _ = _
    unfold s_u_addVector_62
    refine o_neg (by (first | (simp (maxSteps := 4000000) (disch := omega) only [n_0, n_1, n_2, n_3, n_4, n_5, n_6, n_7, n_8, n_9, n_10, n_11, n_12, n_13, n_14, n_15, n_16, n_18, n_20, n_24, n_31, n_32, n_34, n_40, n_41, n_44, n_45, n_47, n_48, n_57, n_58, n_59, n_61, n_63, n_64, n_65, n_68, n_90, n_91, n_93, n_95, n_97, n_100, n_122, n_123, n_125, n_128, n_144, n_200, n_255, n_256, n_300, n_400, n_600, n_1536, n_3980, n_4000, n_4001, n_4300, n_65536, l_0, l_1, l_2, l_3, l_4, l_10, l_48, l_63, l_255, l_300, nI_ltI, nI_leI, nI_eq, nI_clamp, nI_add, pk_sub, pk_mul, nI_ne1, ne1_nI, nI_pge, nI_nlt0, nI_l, lN_i, lN_add, lN_mul, lN_sub, pk_lLT, pk_lLE, pk_lEQ, lg_lt, lg_ge, lg_eq0, lg_le, lg_gt, lg_ltn, lg_gen, lg_eq0n, lg_len, lg_gtn, Nat.zero_le, Nat.not_lt_zero, not_false_eq_true, not_true_eq_false, true_and, and_true]; done) | (simp (maxSteps := 4000000) (disch := omega) only [n_0, n_1, n_2, n_3, n_4, n_5, n_6, n_7, n_8, n_9, n_10, n_11, n_12, n_13, n_14, n_15, n_16, n_18, n_20, n_24, n_31, n_32, n_34, n_40, n_41, n_44, n_45, n_47, n_48, n_57, n_58, n_59, n_61, n_63, n_64, n_65, n_68, n_90, n_91, n_93, n_95, n_97, n_100, n_122, n_123, n_125, n_128, n_144, n_200, n_255, n_256, n_300, n_400, n_600, n_1536, n_3980, n_4000, n_4001, n_4300, n_65536, l_0, l_1, l_2, l_3, l_4, l_10, l_48, l_63, l_255, l_300, nI_ltI, nI_leI, nI_eq, nI_clamp, nI_add, pk_sub, pk_mul, nI_ne1, ne1_nI, nI_pge, nI_nlt0, nI_l, lN_i, lN_add, lN_mul, lN_sub, pk_lLT, pk_lLE, pk_lEQ, lg_lt, lg_ge, lg_eq0, lg_le, lg_gt, lg_ltn, lg_gen, lg_eq0n, lg_len, lg_gtn, Nat.zero_le, Nat.not_lt_zero, not_false_eq_true, not_true_eq_false, true_and, and_true]; omega) | omega)) ?_
    rw [pk_mul, nI_add]
    refine o_bind y1 ?_
    rw [n_1, nI_add]
    exact z1
/-- the model's loop -/
theorem vec_m_put {x0 x1 : Int32} {each m bytes N : Nat} {EB : Nat → Nat → Nat} {p1 : XH} (hN : N ≤ 4000) (mb : m * bytes ≤ N) (m6 : m ≤ 600) (pm : ∀ i, i < m → ∀ g K, FRM mP p1 g → hi g 1262 57 = nI (N - (i * bytes + bytes)) → ∃ g2, s_m_vector_370 K x0 x1 (nI each) (nI m) (nI bytes) (nI i) g = K x0 x1 (nI each) (nI m) (nI bytes) (nI i + -1) g2 ∧ FRM mP g g2 ∧ hi g2 1262 57 = nI (N - i * bytes) ∧ (∀ k, k < N - (i * bytes + bytes) → hi g2 1299 k = hi g 1299 k) ∧ ∀ j, j < bytes → hi g2 1299 (N - (i * bytes + bytes) + j) = nI (EB i (bytes - 1 - j))) : ∀ (r fuel : Nat) (g : XH), r ≤ m → r < fuel → FRM mP p1 g → hi g 1262 57 = nI (N - r * bytes) → ∃ g', b_m_vector_370 fuel x0 x1 (nI each) (nI m) (nI bytes) (nI r - 1) g = (Option.bind (f_m_ahead (lN m) 4 g') fun r5 => (if ¬ x0 = 1 then (b_m_vector_452 5 x0 x1 r5.2) else (b_m_vector_452 5 x0 0 r5.2))) ∧ FRM mP p1 g' ∧ hi g' 1262 57 = nI N ∧ (∀ k, k < N - r * bytes → hi g' 1299 k = hi g 1299 k) ∧ ∀ i, i < r → ∀ j, j < bytes → hi g' 1299 (N - 1 - (i * bytes + j)) = nI (EB i j) := by
  intro r
  induction r with
  | zero =>
    intro fuel g hr' hf F e
    obtain ⟨f, rfl, -⟩ := fuel_pos hf
    rw [Nat.zero_mul, Nat.sub_zero] at e
    refine ⟨g, ?_, F, e, fun _ _ => rfl, fun i hi' => absurd hi' (Nat.not_lt_zero i)⟩
    show s_m_vector_370 (b_m_vector_370 f) _ _ _ _ _ _ _ = _
    unfold s_m_vector_370
    rw [nI_l (show m < 2 ^ 31 by omega)]
    exact o_pos (by decide) rfl
  | succ r ih =>
    intro fuel g hr' hf F e
    obtain ⟨f, rfl, -⟩ := fuel_pos hf
    have mi := mul_lt (i := r) (m := m) (b := bytes) (by omega)
    have nx : (r + 1) * bytes = r * bytes + bytes := by rw [Nat.add_mul, Nat.one_mul]
    rw [nx] at e ⊢
    obtain ⟨g2, y1, F1, y2, y3, y4⟩ := pm r (by omega) g (b_m_vector_370 f) F e
    obtain ⟨g', z1, F2, z2, z3, z4⟩ := ih f g2 (by omega) (by omega) (F.trans F1) y2
    refine ⟨g', ?_, F2, z2, fun k hk' => by rw [z3 k (by omega), y3 k hk'], fun i hi' j hj' => ?_⟩
    · show s_m_vector_370 (b_m_vector_370 f) _ _ _ _ _ _ _ = _
      rw [nI_pred]
      rw [i_m1] at y1
      exact y1.trans z1
    · by_cases c : i = r
      · rw [c, z3 _ (by omega)]
        have := y4 (bytes - 1 - j) (by omega)
        rw [show N - (r * bytes + bytes) + (bytes - 1 - j) = N - 1 - (r * bytes + j) by omega, show bytes - 1 - (bytes - 1 - j) = j by omega] at this
        exact this
      · exact z4 i (by omega) j hj'
theorem vec_cls {c : XH} {x0 yc : Int32} {m bytes al n tc ga N : Nat} {EB : Nat → Nat → Nat} (L : LY c) (s1 : S < hz c ∧ hk c S = 9) (i1 : hi c 1244 1 = nI n) (i2 : hi c 1244 2 = nI ga) (i7 : hi c 1244 7 = nI tc) (hg : ga ≤ 8) (n4 : n ≤ 4000) (ab : al = 1 ∨ al = 2 ∨ al = 4 ∨ al = 8) (by1 : bytes ≤ 128) (m6 : m ≤ 600) (hN : N = rU (n + m * bytes) (max 4 al)) (c4 : N + 4 ≤ 4000) (t3 : tc < 300) (cB : f_s_bytesOf S x0 yc c = some (nI bytes, c)) (cA : f_s_alignmentOf S x0 yc c = some (nI al, c)) (pc : ∀ i, i < m → ∀ u, FRM uP c u → (∀ j, j < bytes → cb u 1246 (4000 - N + i * bytes + j) = 0) → ∃ g, f_u_putContent S (nI (4000 - N + i * bytes)) x0 yc 5 (nI i) u = some ((), g) ∧ FRM (fun a _ => a = 1246) u g ∧ (∀ j, j < bytes → cb g 1246 (4000 - N + i * bytes + j) = EB i j) ∧ ∀ k, k < 4000 - N + i * bytes ∨ 4000 - N + i * bytes + bytes ≤ k → hi g 1246 k = hi u 1246 k) : ∃ u, f_u_addVector S x0 yc 5 (nI m) c = some (nI tc, u) ∧ FRM (uA tc) c u ∧ (hi u 1244 1 = nI (N + 4) ∧ hi u 1244 2 = nI (max (max ga (max 4 al)) 4) ∧ hi u 1244 7 = nI (tc + 1)) ∧ (hi u 1247 tc = 5 ∧ hi u 1248 tc = yc ∧ hi u 1249 tc = x0 ∧ hi u 1250 tc = nI (N + 4)) ∧ (∀ k, 4000 - n ≤ k → cb u 1246 k = cb c 1246 k) ∧ (∀ k, 4000 - N + m * bytes ≤ k → k < 4000 - n → cb u 1246 k = 0) ∧ (∀ i, i < m → ∀ j, j < bytes → cb u 1246 (4000 - N + i * bytes + j) = EB i j) ∧ ∀ j, j < 4 → cb u 1246 (4000 - (N + 4) + j) = v8 (lN m) j := by
  have ab2 : max 4 al = 1 ∨ max 4 al = 2 ∨ max 4 al = 4 ∨ max 4 al = 8 := by omega
  have mb7 : m * bytes ≤ 600 * 128 := Nat.mul_le_mul m6 by1
  obtain ⟨r1, r2, r3⟩ := rU_f (x := n + m * bytes) ab2
  have r3' : N % 4 = 0 := by
    rw [← hN] at r3
    rcases (show max 4 al = 4 ∨ max 4 al = 8 by omega) with q | q <;> rw [q] at r3 <;> omega
  have eR := e_t_roundUp (h := c) (x := n + m * bytes) (a := max 4 al) (by omega) ab2
  rw [← hN] at r1 r2 eR
  have mx : (if 4 < nI al then nI al else 4) = nI (max 4 al) := by
    rcases ab with q | q | q | q <;> subst q <;> rfl
  have rm : f_u_hasRoomForThing (nI (N + 4)) c = some (1, c) := by
    rcases e_u_room (h := c) (N := N + 4) i7 (by omega) (by omega) with ⟨-, -, q⟩ | ⟨q, -⟩
    · exact q
    · omega
  have rU2 : rU (N + 4) 4 = N + 4 := by unfold rU; omega
  obtain ⟨u1, y1, F1, y2, y3, y4, y5⟩ := e_u_grow (b := m * bytes) (a := max 4 al) L.b1245 i1 i2 hg ab2 (by rw [← hN]; omega)
  rw [← hN] at y1 y2 y4 y5
  obtain ⟨u2, z1, F2, z2, z3⟩ := vec_c_put (S := S) (x0 := x0) (yc := yc) (m := m) (bytes := bytes) (N := N) (EB := EB) (u1 := u1) (by omega) (by omega) m6 (fun i hi' u Fu zu => pc i hi' u (F1.trans (Fu.mono (fun a k q => Or.inl q))) zu) m 0 100000 u1 (by omega) (by omega) FRM.refl (fun i' hi' => absurd hi' (Nat.not_lt_zero i')) (fun k h1 h2 => y4 k (by omega) (by omega)) (fun _ _ => rfl)
  have B2 : BY u2 1245 1246 := by rw [F2.by, F1.by]; exact L.b1245
  obtain ⟨u3, x1, F3, x2, x3, x4, x5⟩ := e_u_grow (b := 4) (a := 4) B2 (by rw [F2.at (by decide)]; exact y2) (by rw [F2.at (by decide)]; exact y3) (by omega) (by omega) (by rw [rU2]; exact c4)
  rw [rU2] at x1 x2 x4 x5
  have B3 : BY u3 1245 1246 := by rw [F3.by]; exact B2
  obtain ⟨u4, w1, F4, w2, w3⟩ := e_u_put (i := 4000 - (N + 4)) (k := 4) (v := lN m) B3 (by decide) (by omega)
  obtain ⟨u5, v1, F5, v2, v3, v4, v5, v6⟩ := e_u_addThing (h := u4) (x := 5) (y := yc) (z := x0) (by rw [F4.at (by decide), F3.at (by simp [uP]), F2.at (by decide), F1.at (by simp [uP])]; exact i7) t3
  have cb5 : ∀ k, cb u5 1246 k = cb u4 1246 k := fun k => F5.cbq (by simp [uTh])
  refine ⟨u5, ?_, (((F1.mono (fun _ _ => uP_uA)).trans (F2.mono (fun _ _ => e46_uA))).trans (F3.mono (fun _ _ => uP_uA))).trans ((F4.mono (fun _ _ => e46_uA)).trans (F5.mono (fun _ _ => uTh_uA))), ⟨?_, ?_, v2⟩, ⟨v3, v4, v5, ?_⟩, fun k hk' => ?_, fun k h1 h2 => ?_, fun i hi' j hj' => ?_, fun j hj' => ?_⟩
  · unfold f_u_addVector
    refine o_pos s1 (o_bind cB (o_pos s1 (o_bind cA ?_)))
    dsimp only
    rw [mx, i1, pk_mul, nI_add]
    refine o_bind eR ?_
    dsimp only
    rw [n_4, nI_add]
    refine o_bind rm (o_pos one0 (o_bind y1 ?_))
    dsimp only
    rw [nI_0] at z1
    rw [z1]
    exact o_bind x1 (o_bind w1 (o_bind v1 rfl))
  · rw [F5.at (by simp [uTh]), F4.at (by decide)]; exact x2
  · rw [F5.at (by simp [uTh]), F4.at (by decide)]; exact x3
  · rw [v6, F4.at (by decide)]; exact x2
  · rw [cb5, cb_q (w3 k (by omega)), cb_q (x5 k (by omega)), cb_q (z3 k (by omega)), cb_q (y5 k (by omega))]
  · rw [cb5, cb_q (w3 k (by omega)), cb_q (x5 k (by omega)), cb_q (z3 k (by omega))]
    exact y4 k (by omega) h2
  · have mi := mul_lt (b := bytes) hi'
    rw [cb5, cb_q (w3 _ (by omega)), cb_q (x5 _ (by omega))]
    exact z2 i hi' j hj'
  · rw [cb5]; exact w2 j hj'
theorem mP_mV {a k : Nat} (q : mP a k) : mV a k := by unfold mP at q; unfold mV; omega
theorem mV_mA {tc a k : Nat} (q : mV a k) : mA tc a k := by unfold mV at q; unfold mA; omega
theorem vec_mod {c : XH} {x0 x1 yc : Int32} {each m bytes al n tc gm N : Nat} {EB : Nat → Nat → Nat} (k57 : hi c 1262 57 = nI n) (k58 : hi c 1262 58 = nI gm) (k59 : hi c 1262 59 = nI tc) (hg : gm ≤ 8) (n4 : n ≤ 4000) (a8 : al ≤ 8) (m6 : m ≤ 600) (nN : n + m * bytes ≤ N) (c4 : N + 4 ≤ 4000) (t3 : tc < 300) (hyc : (x0 = 1 ∧ yc = 0) ∨ (¬ x0 = 1 ∧ yc = x1)) (pm : ∀ i, i < m → ∀ g K, FRM mV c g → hi g 1262 57 = nI (N - (i * bytes + bytes)) → ∃ g2, s_m_vector_370 K x0 x1 (nI each) (nI m) (nI bytes) (nI i) g = K x0 x1 (nI each) (nI m) (nI bytes) (nI i + -1) g2 ∧ FRM mP g g2 ∧ hi g2 1262 57 = nI (N - i * bytes) ∧ (∀ k, k < N - (i * bytes + bytes) → hi g2 1299 k = hi g 1299 k) ∧ ∀ j, j < bytes → hi g2 1299 (N - (i * bytes + bytes) + j) = nI (EB i (bytes - 1 - j))) : ∃ p, (Option.bind (f_m_aligned (nI al) c) fun r27 => (Option.bind (f_m_zeros (nI (N - (n + m * bytes))) r27.2) fun r30 => (b_m_vector_370 100000 x0 x1 (nI each) (nI m) (nI bytes) ((nI m) - 1) r30.2))) = some (nI tc, p) ∧ FRM (mA tc) c p ∧ (hi p 1262 57 = nI (N + 4) ∧ hi p 1262 58 = nI (max gm al) ∧ hi p 1262 59 = nI (tc + 1)) ∧ (hi p 1300 tc = 5 ∧ hi p 1301 tc = x0 ∧ hi p 1302 tc = yc ∧ hi p 1303 tc = nI (N + 4)) ∧ (∀ i, i < n → hi p 1299 i = hi c 1299 i) ∧ (∀ i, n ≤ i → i < N - m * bytes → hi p 1299 i = 0) ∧ (∀ i, i < m → ∀ j, j < bytes → hi p 1299 (N - 1 - (i * bytes + j)) = nI (EB i j)) ∧ ∀ i, N ≤ i → i < N + 4 → hi p 1299 i = nI (v8 (lN m) (N + 3 - i)) := by
  have al1 := e_m_aligned (a := al) k58 hg a8
  obtain ⟨p2, s1', G2, s2, s3, s4⟩ := e_m_zeros (h := hsi c 1262 58 (nI (max gm al))) (n := n) (k := N - (n + m * bytes)) (by rw [hi_nk (by decide)]; exact k57) (by omega)
  have en : n + (N - (n + m * bytes)) = N - m * bytes := by omega
  rw [en] at s2 s4
  have GV : FRM mV c p2 := (FRM.refl.si (by simp [mV])).trans (G2.mono (fun _ _ => mP_mV))
  obtain ⟨p3, d1, G3, d2, d3, d4⟩ := vec_m_put (x0 := x0) (x1 := x1) (each := each) (m := m) (bytes := bytes) (N := N) (EB := EB) (p1 := p2) (by omega) (by omega) m6 (fun i hi' g K Fg e => pm i hi' g K (GV.trans (Fg.mono (fun _ _ => mP_mV))) e) m 100000 p2 (Nat.le_refl m) (by omega) FRM.refl s2
  obtain ⟨p4, f1, G4, f2, f3, f4⟩ := e_m_aheadk (v := lN m) (k := 4) d2 (by decide) (by omega)
  obtain ⟨p5, l1, G5, l2, l3, l4, l5, l6⟩ := e_m_thing (h := p4) (x := 5) (y := x0) (z := yc) (by rw [G4.at (by simp [mP]), G3.at (by simp [mP]), GV.at (by simp [mV])]; exact k59) t3
  refine ⟨p5, ?_, ((GV.mono (fun _ _ => mV_mA)).trans (G3.mono (fun _ _ => mP_mA))).trans ((G4.mono (fun _ _ => mP_mA)).trans (G5.mono (fun _ _ => mTh_mA))), ⟨?_, ?_, l2⟩, ⟨l3, l4, l5, ?_⟩, fun i hi' => ?_, fun i h1 h2 => ?_, fun i hi' j hj' => ?_, fun i h1 h2 => ?_⟩
  · refine o_bind al1 (o_bind s1' ?_)
    dsimp only
    rw [d1]
    refine o_bind f1 ?_
    rcases hyc with ⟨q1, q2⟩ | ⟨q1, q2⟩
    · refine o_neg (not_not_intro q1) ?_
      unfold b_m_vector_452
      rw [← q2]
      exact o_bind l1 rfl
    · refine o_pos q1 ?_
      unfold b_m_vector_452
      rw [← q2]
      exact o_bind l1 rfl
  · rw [G5.at (by simp [mTh])]; exact f2
  · rw [G5.at (by simp [mTh]), G4.at (by simp [mP]), G3.at (by simp [mP]), G2.at (by simp [mP]), hi_at]
  · rw [l6]; exact f2
  · rw [G5.at (by simp [mTh]), f3 i (by omega), d3 i (by omega), s3 i hi', hi_hsi_ne (by decide)]
  · rw [G5.at (by simp [mTh]), f3 i (by omega), d3 i h2]
    exact s4 i h1 h2
  · have mi := mul_lt (b := bytes) hi'
    rw [G5.at (by simp [mTh]), f3 _ (by omega)]
    exact d4 i hi' j hj'
  · rw [G5.at (by simp [mTh])]
    have := f4 (i - N) (by omega)
    rw [show N + (i - N) = i by omega] at this
    rw [this]
    congr 2
    omega
/-- a vector is put, on both sides -/
theorem vec_put {x0 x1 yc : Int32} {each m bytes al so n tc N : Nat} {EB : Nat → Nat → Nat} (H : RA h S sg sd) (hm : hz h < 900000) (b1 : RBr h n) (b2 : RBg h) (b3 : RBt h n tc sg) (b4 : RBl h n tc) (o : hi h 1244 10 = -1 ∧ hi h 1262 67 = -1) (ex0 : x0 = nI so) (so3 : so ≤ 3) (hyc : (x0 = 1 ∧ yc = 0) ∨ (¬ x0 = 1 ∧ yc = x1)) (ab : al = 1 ∨ al = 2 ∨ al = 4 ∨ al = 8) (by1 : bytes ≤ 128) (m6 : m ≤ 600) (e1 : 1 ≤ each) (e8 : each ≤ 128) (me : m * each ≤ 600) (hN : N = rU (n + m * bytes) (max 4 al)) (cB : f_s_bytesOf S x0 yc (hsi h 5 1 0) = some (nI bytes, hsi h 5 1 0)) (cA : f_s_alignmentOf S x0 yc (hsi h 5 1 0) = some (nI al, hsi h 5 1 0)) (pc : N + 4 ≤ 4000 → ∀ i, i < m → ∀ u, FRM uP (hsi h 5 1 0) u → (∀ j, j < bytes → cb u 1246 (4000 - N + i * bytes + j) = 0) → ∃ g, f_u_putContent S (nI (4000 - N + i * bytes)) x0 yc 5 (nI i) u = some ((), g) ∧ FRM (fun a _ => a = 1246) u g ∧ (∀ j, j < bytes → cb g 1246 (4000 - N + i * bytes + j) = EB i j) ∧ ∀ k, k < 4000 - N + i * bytes ∨ 4000 - N + i * bytes + bytes ≤ k → hi g 1246 k = hi u 1246 k) (pm : N + 4 ≤ 4000 → ∀ i, i < m → ∀ g0 g K, MSm h g0 → FRM mV g0 g → hi g 1262 57 = nI (N - (i * bytes + bytes)) → ∃ g2, s_m_vector_370 K x0 x1 (nI each) (nI m) (nI bytes) (nI i) g = K x0 x1 (nI each) (nI m) (nI bytes) (nI i + -1) g2 ∧ FRM mP g g2 ∧ hi g2 1262 57 = nI (N - i * bytes) ∧ (∀ k, k < N - (i * bytes + bytes) → hi g2 1299 k = hi g 1299 k) ∧ ∀ j, j < bytes → hi g2 1299 (N - (i * bytes + bytes) + j) = nI (EB i (bytes - 1 - j))) : (∃ u, b_t_vector_79 x0 (nI (m * each)) (nI each) yc (hsi h 5 1 0) = some (Sum.inl (nI tc), u) ∧ ∀ p0, OW u p0 → MSm h p0 ∧ hi p0 1262 55 = hi h 1262 55 ∧ ∃ p, b_m_vector_285 x0 x1 (nI each) (nI m) (nI bytes) (nI al) (hsi (hsi p0 1262 0 0) 1262 55 0) = some (nI tc, p) ∧ hi p 1262 0 = 0 ∧ RX p ∧ RM h p) ∨ (b_t_vector_79 x0 (nI (m * each)) (nI each) yc (hsi h 5 1 0) = some (Sum.inr 2, hthr (hsi h 5 1 0)) ∧ ∀ g, MSm h g → b_m_vector_285 x0 x1 (nI each) (nI m) (nI bytes) (nI al) g = some (0, hsi g 1262 0 3)) := by
  have L := H.1
  have F0 : FRM (fun a k => a = 5 ∧ k = 1) h (hsi h 5 1 0) := FRM.refl.si ⟨rfl, rfl⟩
  have n4 := b1.1
  have tc3 := b3.1
  obtain ⟨c1, hc1⟩ : ∃ c1, c1 = hsi h 5 1 0 := ⟨_, rfl⟩
  rw [← hc1] at cB cA pc F0 ⊢
  have L0 : LY c1 := by rw [F0.ly]; exact L
  have hm1 : hz c1 < 1000000 := by rw [F0.1.1]; omega
  have sc : SC c1 S := by rw [F0.sc]; exact H.sc rfl
  have s1 : S < hz c1 ∧ hk c1 S = 9 := ⟨by have := sc.1; omega, sc.2.2.1⟩
  have r4 : hr c1 0 4 = some S := by rw [F0.1.2.2.2.2]; exact H.2.1.1
  have ab2 : max 4 al = 1 ∨ max 4 al = 2 ∨ max 4 al = 4 ∨ max 4 al = 8 := by omega
  have mb7 : m * bytes ≤ 600 * 128 := Nat.mul_le_mul m6 by1
  obtain ⟨r1, r2, r3⟩ := rU_f (x := n + m * bytes) ab2
  have eR := e_t_roundUp (h := c1) (x := n + m * bytes) (a := max 4 al) (by omega) ab2
  rw [← hN] at r1 r2 eR
  have i1 : hi c1 1244 1 = nI n := by rw [F0.at (by simp)]; exact b1.2.1
  have i7 : hi c1 1244 7 = nI tc := by rw [F0.at (by simp)]; exact b3.2.1
  have mx : (if 4 < nI al then nI al else 4) = nI (max 4 al) := by
    rcases ab with q | q | q | q <;> subst q <;> rfl
  have c79 : ∀ X : Option (Sum Int32 Nat × XH), (Option.bind (f_u_addVector S x0 yc 5 (nI m) c1) fun r4 => (if ¬ r4.1 = (-1) then (some (Sum.inl r4.1, r4.2)) else (if hz r4.2 < 1000000 then (some (Sum.inr 2, hthr r4.2)) else none))) = X → b_t_vector_79 x0 (nI (m * each)) (nI each) yc c1 = X := by
    intro X q
    unfold b_t_vector_79
    refine o_bind r4 (o_pos (show ¬ nI each = 0 by (first | (simp (maxSteps := 4000000) (disch := omega) only [n_0, n_1, n_2, n_3, n_4, n_5, n_6, n_7, n_8, n_9, n_10, n_11, n_12, n_13, n_14, n_15, n_16, n_18, n_20, n_24, n_31, n_32, n_34, n_40, n_41, n_44, n_45, n_47, n_48, n_57, n_58, n_59, n_61, n_63, n_64, n_65, n_68, n_90, n_91, n_93, n_95, n_97, n_100, n_122, n_123, n_125, n_128, n_144, n_200, n_255, n_256, n_300, n_400, n_600, n_1536, n_3980, n_4000, n_4001, n_4300, n_65536, l_0, l_1, l_2, l_3, l_4, l_10, l_48, l_63, l_255, l_300, nI_ltI, nI_leI, nI_eq, nI_clamp, nI_add, pk_sub, pk_mul, nI_ne1, ne1_nI, nI_pge, nI_nlt0, nI_l, lN_i, lN_add, lN_mul, lN_sub, pk_lLT, pk_lLE, pk_lEQ, lg_lt, lg_ge, lg_eq0, lg_le, lg_gt, lg_ltn, lg_gen, lg_eq0n, lg_len, lg_gtn, Nat.zero_le, Nat.not_lt_zero, not_false_eq_true, not_true_eq_false, true_and, and_true]; done) | (simp (maxSteps := 4000000) (disch := omega) only [n_0, n_1, n_2, n_3, n_4, n_5, n_6, n_7, n_8, n_9, n_10, n_11, n_12, n_13, n_14, n_15, n_16, n_18, n_20, n_24, n_31, n_32, n_34, n_40, n_41, n_44, n_45, n_47, n_48, n_57, n_58, n_59, n_61, n_63, n_64, n_65, n_68, n_90, n_91, n_93, n_95, n_97, n_100, n_122, n_123, n_125, n_128, n_144, n_200, n_255, n_256, n_300, n_400, n_600, n_1536, n_3980, n_4000, n_4001, n_4300, n_65536, l_0, l_1, l_2, l_3, l_4, l_10, l_48, l_63, l_255, l_300, nI_ltI, nI_leI, nI_eq, nI_clamp, nI_add, pk_sub, pk_mul, nI_ne1, ne1_nI, nI_pge, nI_nlt0, nI_l, lN_i, lN_add, lN_mul, lN_sub, pk_lLT, pk_lLE, pk_lEQ, lg_lt, lg_ge, lg_eq0, lg_le, lg_gt, lg_ltn, lg_gen, lg_eq0n, lg_len, lg_gtn, Nat.zero_le, Nat.not_lt_zero, not_false_eq_true, not_true_eq_false, true_and, and_true]; omega) | omega)) ?_)
    rw [pk_div (by omega) (by omega) (by omega), Nat.mul_div_cancel _ (by omega)]
    exact q
  have m285 : ∀ (g : XH) X, hi g 1262 57 = nI n → (if (hi g 1262 59) = 300 then (b_m_vector_345 g) else (if nI (N + 4) ≤ 4000 then (Option.bind (f_m_aligned (nI al) g) fun r27 => (Option.bind (f_m_zeros (nI (N - (n + m * bytes))) r27.2) fun r30 => (b_m_vector_370 100000 x0 x1 (nI each) (nI m) (nI bytes) ((nI m) - 1) r30.2))) else (b_m_vector_345 g))) = X → b_m_vector_285 x0 x1 (nI each) (nI m) (nI bytes) (nI al) g = X := by
    intro g X q1 q
    have s3 : b_m_vector_309 x0 x1 (nI each) (nI m) (nI bytes) (nI al) (hi g 1262 57) (nI m * nI bytes) (nI (max 4 al)) g = X := by
      unfold b_m_vector_309
      have fl := e_m_fill (h := g) (n := n) (k := m * bytes) (a := max 4 al) (by omega) ab2
      rw [← hN] at fl
      rw [q1, pk_mul]
      refine o_bind fl ?_
      dsimp only
      rw [q1, nI_add, nI_add, n_4, nI_add, show n + (N - (n + m * bytes)) + m * bytes + 4 = N + 4 by omega]
      exact q
    unfold b_m_vector_285
    rcases ab with q | q | q | q <;> subst q
    · exact o_pos (by decide) s3
    · exact o_pos (by decide) s3
    · exact o_pos (by decide) s3
    · exact o_neg (by decide) s3
  by_cases c4 : tc < 300 ∧ N + 4 ≤ 4000
  · -- room
    refine Or.inl ?_
    obtain ⟨ga, gm, g1, g2, g3, g4, g5⟩ := b2
    obtain ⟨u, y1, F1, ⟨y2, y3, y4⟩, ⟨y5, y6, y7, y8⟩, y9, y10, y11, y12⟩ := vec_cls (ga := ga) (EB := EB) L0 s1 i1 (by rw [F0.at (by simp)]; exact g2) i7 (by omega) n4 ab by1 m6 hN c4.2 c4.1 cB cA (pc c4.2)
    refine ⟨u, c79 _ (o_bind y1 (o_pos (nI_n1 (by omega)) rfl)), fun p0 W => ?_⟩
    have FO : FRM (bT tc) h p0 := ((F0.mono (fun _ _ => e5_bT)).trans (F1.mono (fun _ _ => uA_bT))).ow W
    have FL : FRM lt62 h p0 := ((F0.mono (fun _ _ => e5_62)).trans (F1.mono (fun _ _ => uA_62))).ow W
    have Q0 : MSm h p0 := FL.msm (fun a k q => Or.inl q)
    refine ⟨Q0, FL.up (by decide), ?_⟩
    have MS0 : MSm h (hsi (hsi p0 1262 0 0) 1262 55 0) := (Q0.si (Or.inl rfl)).si (Or.inr (Or.inr rfl))
    obtain ⟨q0, hq0⟩ : ∃ q0, q0 = hsi (hsi p0 1262 0 0) 1262 55 0 := ⟨_, rfl⟩
    rw [← hq0] at MS0 ⊢
    have kq : ∀ k, k ≠ 0 → k ≠ 2 → k ≠ 55 → hi q0 1262 k = hi h 1262 k := MS0.2.2
    obtain ⟨p, z1, G1, ⟨z2, z3, z4⟩, ⟨z5, z6, z7, z8⟩, z9, z10, z11, z12⟩ := vec_mod (c := q0) (x0 := x0) (x1 := x1) (yc := yc) (each := each) (m := m) (bytes := bytes) (al := al) (n := n) (tc := tc) (gm := gm) (N := N) (EB := EB) (by rw [kq 57 (by decide) (by decide) (by decide)]; exact b1.2.2.1) (by rw [kq 58 (by decide) (by decide) (by decide)]; exact g3) (by rw [kq 59 (by decide) (by decide) (by decide)]; exact b3.2.2.1) (by omega) n4 (by omega) m6 r1 c4.2 c4.1 hyc (fun i hi' g K Fg e => pm c4.2 i hi' q0 g K MS0 Fg e)
    have mo : b_m_vector_285 x0 x1 (nI each) (nI m) (nI bytes) (nI al) q0 = some (nI tc, p) := by
      refine m285 q0 _ (by rw [kq 57 (by decide) (by decide) (by decide)]; exact b1.2.2.1) ?_
      rw [kq 59 (by decide) (by decide) (by decide), b3.2.2.1]
      exact o_neg (show ¬ nI tc = nI 300 by (first | (simp (maxSteps := 4000000) (disch := omega) only [n_0, n_1, n_2, n_3, n_4, n_5, n_6, n_7, n_8, n_9, n_10, n_11, n_12, n_13, n_14, n_15, n_16, n_18, n_20, n_24, n_31, n_32, n_34, n_40, n_41, n_44, n_45, n_47, n_48, n_57, n_58, n_59, n_61, n_63, n_64, n_65, n_68, n_90, n_91, n_93, n_95, n_97, n_100, n_122, n_123, n_125, n_128, n_144, n_200, n_255, n_256, n_300, n_400, n_600, n_1536, n_3980, n_4000, n_4001, n_4300, n_65536, l_0, l_1, l_2, l_3, l_4, l_10, l_48, l_63, l_255, l_300, nI_ltI, nI_leI, nI_eq, nI_clamp, nI_add, pk_sub, pk_mul, nI_ne1, ne1_nI, nI_pge, nI_nlt0, nI_l, lN_i, lN_add, lN_mul, lN_sub, pk_lLT, pk_lLE, pk_lEQ, lg_lt, lg_ge, lg_eq0, lg_le, lg_gt, lg_ltn, lg_gen, lg_eq0n, lg_len, lg_gtn, Nat.zero_le, Nat.not_lt_zero, not_false_eq_true, not_true_eq_false, true_and, and_true]; done) | (simp (maxSteps := 4000000) (disch := omega) only [n_0, n_1, n_2, n_3, n_4, n_5, n_6, n_7, n_8, n_9, n_10, n_11, n_12, n_13, n_14, n_15, n_16, n_18, n_20, n_24, n_31, n_32, n_34, n_40, n_41, n_44, n_45, n_47, n_48, n_57, n_58, n_59, n_61, n_63, n_64, n_65, n_68, n_90, n_91, n_93, n_95, n_97, n_100, n_122, n_123, n_125, n_128, n_144, n_200, n_255, n_256, n_300, n_400, n_600, n_1536, n_3980, n_4000, n_4001, n_4300, n_65536, l_0, l_1, l_2, l_3, l_4, l_10, l_48, l_63, l_255, l_300, nI_ltI, nI_leI, nI_eq, nI_clamp, nI_add, pk_sub, pk_mul, nI_ne1, ne1_nI, nI_pge, nI_nlt0, nI_l, lN_i, lN_add, lN_mul, lN_sub, pk_lLT, pk_lLE, pk_lEQ, lg_lt, lg_ge, lg_eq0, lg_le, lg_gt, lg_ltn, lg_gen, lg_eq0n, lg_len, lg_gtn, Nat.zero_le, Nat.not_lt_zero, not_false_eq_true, not_true_eq_false, true_and, and_true]; omega) | omega)) (o_pos (show nI (N + 4) ≤ nI 4000 by (first | (simp (maxSteps := 4000000) (disch := omega) only [n_0, n_1, n_2, n_3, n_4, n_5, n_6, n_7, n_8, n_9, n_10, n_11, n_12, n_13, n_14, n_15, n_16, n_18, n_20, n_24, n_31, n_32, n_34, n_40, n_41, n_44, n_45, n_47, n_48, n_57, n_58, n_59, n_61, n_63, n_64, n_65, n_68, n_90, n_91, n_93, n_95, n_97, n_100, n_122, n_123, n_125, n_128, n_144, n_200, n_255, n_256, n_300, n_400, n_600, n_1536, n_3980, n_4000, n_4001, n_4300, n_65536, l_0, l_1, l_2, l_3, l_4, l_10, l_48, l_63, l_255, l_300, nI_ltI, nI_leI, nI_eq, nI_clamp, nI_add, pk_sub, pk_mul, nI_ne1, ne1_nI, nI_pge, nI_nlt0, nI_l, lN_i, lN_add, lN_mul, lN_sub, pk_lLT, pk_lLE, pk_lEQ, lg_lt, lg_ge, lg_eq0, lg_le, lg_gt, lg_ltn, lg_gen, lg_eq0n, lg_len, lg_gtn, Nat.zero_le, Nat.not_lt_zero, not_false_eq_true, not_true_eq_false, true_and, and_true]; done) | (simp (maxSteps := 4000000) (disch := omega) only [n_0, n_1, n_2, n_3, n_4, n_5, n_6, n_7, n_8, n_9, n_10, n_11, n_12, n_13, n_14, n_15, n_16, n_18, n_20, n_24, n_31, n_32, n_34, n_40, n_41, n_44, n_45, n_47, n_48, n_57, n_58, n_59, n_61, n_63, n_64, n_65, n_68, n_90, n_91, n_93, n_95, n_97, n_100, n_122, n_123, n_125, n_128, n_144, n_200, n_255, n_256, n_300, n_400, n_600, n_1536, n_3980, n_4000, n_4001, n_4300, n_65536, l_0, l_1, l_2, l_3, l_4, l_10, l_48, l_63, l_255, l_300, nI_ltI, nI_leI, nI_eq, nI_clamp, nI_add, pk_sub, pk_mul, nI_ne1, ne1_nI, nI_pge, nI_nlt0, nI_l, lN_i, lN_add, lN_mul, lN_sub, pk_lLT, pk_lLE, pk_lEQ, lg_lt, lg_ge, lg_eq0, lg_le, lg_gt, lg_ltn, lg_gen, lg_eq0n, lg_len, lg_gtn, Nat.zero_le, Nat.not_lt_zero, not_false_eq_true, not_true_eq_false, true_and, and_true]; omega) | omega)) z1)
    have G0 : FRM (fun a k => a = 1262 ∧ (k = 0 ∨ k = 55)) p0 q0 := by rw [hq0]; exact (FRM.refl.si (by simp)).si (by simp)
    have FA : FRM (bT tc) h p := (FO.trans (G0.mono (fun a k q => by rw [q.1]; simp [bT]; rcases q.2 with z | z <;> simp [z]))).trans (G1.mono (fun _ _ => mA_bT))
    have GL : FRM ge62 p0 p := (G0.mono (fun a k q => by rw [q.1]; exact Nat.le_refl _)).trans (G1.mono (fun _ _ => mA_62))
    have cel : ∀ a k, a < 1262 → hi p a k = hi u a k := fun a k ha => by rw [GL.lo ha, W.hiq]
    have cbe : ∀ k, cb p 1246 k = cb u 1246 k := fun k => cb_q (cel 1246 k (by decide))
    have c46 : ∀ k, cb c1 1246 k = cb h 1246 k := fun k => F0.cbq (by simp)
    have X : FX (bT tc) h p := FA.fx L
    clear pc pm cB cA eR c79 m285 z1 y1
    have row : ∀ i, i < N + 4 → hi p 1299 i = nI (cb p 1246 (3999 - i)) := by
      intro i hi'
      rw [cbe]
      by_cases i1 : i < N
      · by_cases i2 : i < N - m * bytes
        · by_cases i3 : i < n
          · rw [z9 i i3, MS0.1 1299 (by decide) (by decide), y9 _ (by omega), c46]
            exact b1.2.2.2 i i3
          · rw [z10 i (by omega) i2, y10 _ (by omega) (by omega)]
            rfl
        · have bp : 0 < bytes := by
            rcases Nat.eq_zero_or_pos bytes with q | q
            · rw [q, Nat.mul_zero] at i2
              omega
            · exact q
          have ym : N - 1 - i < m * bytes := by omega
          have iq : (N - 1 - i) / bytes < m := (Nat.div_lt_iff_lt_mul bp).mpr ym
          have ir : (N - 1 - i) % bytes < bytes := Nat.mod_lt _ bp
          have dm : (N - 1 - i) / bytes * bytes + (N - 1 - i) % bytes = N - 1 - i := by rw [Nat.mul_comm]; exact Nat.div_add_mod _ _
          have a1 := z11 _ iq _ ir
          have a2 := y11 _ iq _ ir
          rw [Nat.add_assoc, dm] at a2
          rw [dm] at a1
          rw [show N - 1 - (N - 1 - i) = i by omega] at a1
          rw [show 4000 - N + (N - 1 - i) = 3999 - i by omega] at a2
          rw [a1, a2]
      · have := y12 (N + 3 - i) (by omega)
        rw [show 4000 - (N + 4) + (N + 3 - i) = 3999 - i by omega] at this
        rw [z12 i (by omega) hi', this]
    have r0 : hi p 1262 0 = 0 := by rw [G1.at (by simp [mA]), hq0, hi_nk (by decide), hi_at]
    have rt : RT p := H.2.2.1.cg (by rw [cel 1 1 (by decide), F1.at (by simp [uA]), F0.at (by simp)]) (by rw [G1.at (by simp [mA]), hq0, hi_nk (by decide), hi_nk (by decide)]; exact FL.up (by decide)) (X.row (by decide) (fun k => by simp [bT])) (X.row (by decide) (fun k => by simp [bT]))
    have rv : RV p := RV.zero (by rw [cel 5 1 (by decide), F1.at (by simp [uA]), hc1, hi_at]) (by rw [G1.at (by simp [mA]), hq0, hi_at])
    have rg : RBg p := ⟨max (max ga (max 4 al)) 4, max gm al, by omega, by rw [cel 1244 2 (by decide)]; exact y3, z3, by omega, fun q => by
      rw [FA.at (by simp [bT])] at q
      have := g5 q
      omega⟩
    have rb : RB p sg := RB.add b1 b3 b4 o X.2.2.1 ⟨by omega, c4.2, by omega⟩ (by rw [cel 1244 1 (by decide)]; exact y2) z2 row (fun k h1 h2 => by rw [cbe, y9 k h1, c46]) rg (by rw [cel 1244 7 (by decide)]; exact y4) z4 c4.1 (so := 5) (Or.inr (Or.inr rfl)) (fun q => absurd q (by decide)) (by rw [cel 1247 tc (by decide)]; exact y5) z5 (by rw [cel 1248 tc (by decide), y6, z7]) (by rw [cel 1249 tc (by decide), y7, z6]) (by rw [cel 1250 tc (by decide)]; exact y8) z8
    exact ⟨p, mo, r0, ⟨S, sg, sd, H.bld (X.mono fun a k => bT_bP) rt rv rb⟩, X.2.2.2.2⟩
  · -- no room
    have c3 : f_u_hasRoomForThing (nI (N + 4)) c1 = some (0, c1) := by
      rcases e_u_room (h := c1) (N := N + 4) i7 tc3 (by omega) with ⟨q1, q2, -⟩ | ⟨-, q⟩
      · exact absurd ⟨q1, q2⟩ c4
      · exact q
    refine Or.inr ⟨c79 _ (o_bind (v := (-1, c1)) ?_ (o_neg (not_not_intro rfl) (o_pos hm1 rfl))), fun g Q => m285 g _ (by rw [Q.2.2 57 (by decide) (by decide) (by decide)]; exact b1.2.2.1) ?_⟩
    · unfold f_u_addVector
      refine o_pos s1 (o_bind cB (o_pos s1 (o_bind cA ?_)))
      dsimp only
      rw [mx, i1, pk_mul, nI_add]
      refine o_bind eR ?_
      dsimp only
      rw [n_4, nI_add]
      exact o_bind c3 (o_neg (not_not_intro rfl) rfl)
    · rw [Q.2.2 59 (by decide) (by decide) (by decide), b3.2.2.1]
      by_cases c5 : tc = 300
      · exact o_pos (by rw [c5]; rfl) rfl
      · exact o_neg (show ¬ nI tc = nI 300 by (first | (simp (maxSteps := 4000000) (disch := omega) only [n_0, n_1, n_2, n_3, n_4, n_5, n_6, n_7, n_8, n_9, n_10, n_11, n_12, n_13, n_14, n_15, n_16, n_18, n_20, n_24, n_31, n_32, n_34, n_40, n_41, n_44, n_45, n_47, n_48, n_57, n_58, n_59, n_61, n_63, n_64, n_65, n_68, n_90, n_91, n_93, n_95, n_97, n_100, n_122, n_123, n_125, n_128, n_144, n_200, n_255, n_256, n_300, n_400, n_600, n_1536, n_3980, n_4000, n_4001, n_4300, n_65536, l_0, l_1, l_2, l_3, l_4, l_10, l_48, l_63, l_255, l_300, nI_ltI, nI_leI, nI_eq, nI_clamp, nI_add, pk_sub, pk_mul, nI_ne1, ne1_nI, nI_pge, nI_nlt0, nI_l, lN_i, lN_add, lN_mul, lN_sub, pk_lLT, pk_lLE, pk_lEQ, lg_lt, lg_ge, lg_eq0, lg_le, lg_gt, lg_ltn, lg_gen, lg_eq0n, lg_len, lg_gtn, Nat.zero_le, Nat.not_lt_zero, not_false_eq_true, not_true_eq_false, true_and, and_true]; done) | (simp (maxSteps := 4000000) (disch := omega) only [n_0, n_1, n_2, n_3, n_4, n_5, n_6, n_7, n_8, n_9, n_10, n_11, n_12, n_13, n_14, n_15, n_16, n_18, n_20, n_24, n_31, n_32, n_34, n_40, n_41, n_44, n_45, n_47, n_48, n_57, n_58, n_59, n_61, n_63, n_64, n_65, n_68, n_90, n_91, n_93, n_95, n_97, n_100, n_122, n_123, n_125, n_128, n_144, n_200, n_255, n_256, n_300, n_400, n_600, n_1536, n_3980, n_4000, n_4001, n_4300, n_65536, l_0, l_1, l_2, l_3, l_4, l_10, l_48, l_63, l_255, l_300, nI_ltI, nI_leI, nI_eq, nI_clamp, nI_add, pk_sub, pk_mul, nI_ne1, ne1_nI, nI_pge, nI_nlt0, nI_l, lN_i, lN_add, lN_mul, lN_sub, pk_lLT, pk_lLE, pk_lEQ, lg_lt, lg_ge, lg_eq0, lg_le, lg_gt, lg_ltn, lg_gen, lg_eq0n, lg_len, lg_gtn, Nat.zero_le, Nat.not_lt_zero, not_false_eq_true, not_true_eq_false, true_and, and_true]; omega) | omega)) (o_neg (show ¬ nI (N + 4) ≤ nI 4000 by (first | (simp (maxSteps := 4000000) (disch := omega) only [n_0, n_1, n_2, n_3, n_4, n_5, n_6, n_7, n_8, n_9, n_10, n_11, n_12, n_13, n_14, n_15, n_16, n_18, n_20, n_24, n_31, n_32, n_34, n_40, n_41, n_44, n_45, n_47, n_48, n_57, n_58, n_59, n_61, n_63, n_64, n_65, n_68, n_90, n_91, n_93, n_95, n_97, n_100, n_122, n_123, n_125, n_128, n_144, n_200, n_255, n_256, n_300, n_400, n_600, n_1536, n_3980, n_4000, n_4001, n_4300, n_65536, l_0, l_1, l_2, l_3, l_4, l_10, l_48, l_63, l_255, l_300, nI_ltI, nI_leI, nI_eq, nI_clamp, nI_add, pk_sub, pk_mul, nI_ne1, ne1_nI, nI_pge, nI_nlt0, nI_l, lN_i, lN_add, lN_mul, lN_sub, pk_lLT, pk_lLE, pk_lEQ, lg_lt, lg_ge, lg_eq0, lg_le, lg_gt, lg_ltn, lg_gen, lg_eq0n, lg_len, lg_gtn, Nat.zero_le, Nat.not_lt_zero, not_false_eq_true, not_true_eq_false, true_and, and_true]; done) | (simp (maxSteps := 4000000) (disch := omega) only [n_0, n_1, n_2, n_3, n_4, n_5, n_6, n_7, n_8, n_9, n_10, n_11, n_12, n_13, n_14, n_15, n_16, n_18, n_20, n_24, n_31, n_32, n_34, n_40, n_41, n_44, n_45, n_47, n_48, n_57, n_58, n_59, n_61, n_63, n_64, n_65, n_68, n_90, n_91, n_93, n_95, n_97, n_100, n_122, n_123, n_125, n_128, n_144, n_200, n_255, n_256, n_300, n_400, n_600, n_1536, n_3980, n_4000, n_4001, n_4300, n_65536, l_0, l_1, l_2, l_3, l_4, l_10, l_48, l_63, l_255, l_300, nI_ltI, nI_leI, nI_eq, nI_clamp, nI_add, pk_sub, pk_mul, nI_ne1, ne1_nI, nI_pge, nI_nlt0, nI_l, lN_i, lN_add, lN_mul, lN_sub, pk_lLT, pk_lLE, pk_lEQ, lg_lt, lg_ge, lg_eq0, lg_le, lg_gt, lg_ltn, lg_gen, lg_eq0n, lg_len, lg_gtn, Nat.zero_le, Nat.not_lt_zero, not_false_eq_true, not_true_eq_false, true_and, and_true]; omega) | omega)) rfl)
end VPut
