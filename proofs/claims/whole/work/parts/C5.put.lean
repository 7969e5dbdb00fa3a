/-! Numbers are put into rows of bytes -/

section Put
variable {h g : XH} {S n : Nat} {sg : SGT} {sd : Nat → Int64}
theorem e_b_putNumber {b cl i k : Nat} {v : Int64} (B : BY h b cl) (hk8 : k ≤ 8) (hik : i + k ≤ 4000) : ∃ f, f_b_putNumber b (nI i) (nI k) v h = some ((), hri h cl f) ∧ (∀ j, j < k → cb (hri h cl f) cl (i + j) = v8 v j) ∧ ∀ m, m < i ∨ i + k ≤ m → f m = hi h cl m := by
  have lp : ∀ (r j fuel : Nat) (f : Nat → Int32), r < fuel → j + r = k → (∀ l, l < j → cb (hri h cl f) cl (i + l) = v8 v l) → (∀ m, m < i ∨ i + k ≤ m → f m = hi h cl m) → ∃ f', b_b_putNumber_3 fuel b (nI i) (nI k) v (nI j) (hri h cl f) = some ((), hri h cl f') ∧ (∀ j, j < k → cb (hri h cl f') cl (i + j) = v8 v j) ∧ ∀ m, m < i ∨ i + k ≤ m → f' m = hi h cl m := by
    intro r
    induction r with
    | zero =>
      intro j fuel f hfu hj' q1 q2
      obtain ⟨fu, rfl, -⟩ := fuel_pos hfu
      have ej : j = k := by omega
      subst ej
      refine ⟨f, ?_, q1, q2⟩
      show s_b_putNumber_3 (b_b_putNumber_3 fu) _ _ _ _ _ _ = _
      unfold s_b_putNumber_3
      exact o_pos (by (first | (simp (maxSteps := 4000000) (disch := omega) only [n_0, n_1, n_2, n_3, n_4, n_5, n_6, n_7, n_8, n_9, n_10, n_11, n_12, n_13, n_14, n_15, n_16, n_18, n_20, n_24, n_31, n_32, n_34, n_40, n_41, n_44, n_45, n_47, n_48, n_57, n_58, n_59, n_61, n_63, n_64, n_65, n_68, n_90, n_91, n_93, n_95, n_97, n_100, n_122, n_123, n_125, n_128, n_144, n_200, n_255, n_256, n_300, n_400, n_600, n_1536, n_3980, n_4000, n_4001, n_4300, n_65536, l_0, l_1, l_2, l_3, l_4, l_10, l_48, l_63, l_255, l_300, nI_ltI, nI_leI, nI_eq, nI_clamp, nI_add, pk_sub, pk_mul, nI_ne1, ne1_nI, nI_pge, nI_nlt0, nI_l, lN_i, lN_add, lN_mul, lN_sub, pk_lLT, pk_lLE, pk_lEQ, lg_lt, lg_ge, lg_eq0, lg_le, lg_gt, lg_ltn, lg_gen, lg_eq0n, lg_len, lg_gtn, Nat.zero_le, Nat.not_lt_zero, not_false_eq_true, not_true_eq_false, true_and, and_true]; done) | (simp (maxSteps := 4000000) (disch := omega) only [n_0, n_1, n_2, n_3, n_4, n_5, n_6, n_7, n_8, n_9, n_10, n_11, n_12, n_13, n_14, n_15, n_16, n_18, n_20, n_24, n_31, n_32, n_34, n_40, n_41, n_44, n_45, n_47, n_48, n_57, n_58, n_59, n_61, n_63, n_64, n_65, n_68, n_90, n_91, n_93, n_95, n_97, n_100, n_122, n_123, n_125, n_128, n_144, n_200, n_255, n_256, n_300, n_400, n_600, n_1536, n_3980, n_4000, n_4001, n_4300, n_65536, l_0, l_1, l_2, l_3, l_4, l_10, l_48, l_63, l_255, l_300, nI_ltI, nI_leI, nI_eq, nI_clamp, nI_add, pk_sub, pk_mul, nI_ne1, ne1_nI, nI_pge, nI_nlt0, nI_l, lN_i, lN_add, lN_mul, lN_sub, pk_lLT, pk_lLE, pk_lEQ, lg_lt, lg_ge, lg_eq0, lg_le, lg_gt, lg_ltn, lg_gen, lg_eq0n, lg_len, lg_gtn, Nat.zero_le, Nat.not_lt_zero, not_false_eq_true, not_true_eq_false, true_and, and_true]; omega) | omega)) rfl
    | succ r ih =>
      intro j fuel f hfu hj' q1 q2
      obtain ⟨fu, rfl, -⟩ := fuel_pos hfu
      have Bf : BY (hri h cl f) b cl := B
      have e2 := e_b_putOctet Bf (i := i + j) (z := Int64.toInt32 (((Int64.toUInt64 v) >>> ((Int32.toInt64 (8 * nI j)).toUInt64 &&& Int64.toUInt64 63)).toInt64)) (by omega)
      have tz := c_byte v j (by omega)
      obtain ⟨z, hzz⟩ : ∃ z, z = Int64.toInt32 (((Int64.toUInt64 v) >>> ((Int32.toInt64 (8 * nI j)).toUInt64 &&& Int64.toUInt64 63)).toInt64) := ⟨_, rfl⟩
      rw [← hzz] at e2 tz
      have e3 : hsi (hri h cl f) cl (i + j) (vp_nar .byte z.toInt8.toInt32) = hri h cl (upd f (i + j) (vp_nar .byte z.toInt8.toInt32)) := by
        rw [hsi_row, hi_hri_eq, hri_hri]
      obtain ⟨f3, r1, r2, r3⟩ := ih (j + 1) fu (upd f (i + j) (vp_nar .byte z.toInt8.toInt32)) (by omega) (by omega) (fun l hl => by
        rw [← e3]
        by_cases w : l = j
        · subst w
          rw [cb_put, tz]
        · rw [cb_nk (by omega)]
          exact q1 l (by omega)) (fun m hm => by rw [pk_un (by omega)]; exact q2 m hm)
      refine ⟨f3, ?_, r2, r3⟩
      rw [← nI_add, e3] at e2
      rw [← nI_1 j] at r1
      show s_b_putNumber_3 (b_b_putNumber_3 fu) _ _ _ _ _ _ = _
      unfold s_b_putNumber_3
      rw [← hzz]
      exact o_neg (by (first | (simp (maxSteps := 4000000) (disch := omega) only [n_0, n_1, n_2, n_3, n_4, n_5, n_6, n_7, n_8, n_9, n_10, n_11, n_12, n_13, n_14, n_15, n_16, n_18, n_20, n_24, n_31, n_32, n_34, n_40, n_41, n_44, n_45, n_47, n_48, n_57, n_58, n_59, n_61, n_63, n_64, n_65, n_68, n_90, n_91, n_93, n_95, n_97, n_100, n_122, n_123, n_125, n_128, n_144, n_200, n_255, n_256, n_300, n_400, n_600, n_1536, n_3980, n_4000, n_4001, n_4300, n_65536, l_0, l_1, l_2, l_3, l_4, l_10, l_48, l_63, l_255, l_300, nI_ltI, nI_leI, nI_eq, nI_clamp, nI_add, pk_sub, pk_mul, nI_ne1, ne1_nI, nI_pge, nI_nlt0, nI_l, lN_i, lN_add, lN_mul, lN_sub, pk_lLT, pk_lLE, pk_lEQ, lg_lt, lg_ge, lg_eq0, lg_le, lg_gt, lg_ltn, lg_gen, lg_eq0n, lg_len, lg_gtn, Nat.zero_le, Nat.not_lt_zero, not_false_eq_true, not_true_eq_false, true_and, and_true]; done) | (simp (maxSteps := 4000000) (disch := omega) only [n_0, n_1, n_2, n_3, n_4, n_5, n_6, n_7, n_8, n_9, n_10, n_11, n_12, n_13, n_14, n_15, n_16, n_18, n_20, n_24, n_31, n_32, n_34, n_40, n_41, n_44, n_45, n_47, n_48, n_57, n_58, n_59, n_61, n_63, n_64, n_65, n_68, n_90, n_91, n_93, n_95, n_97, n_100, n_122, n_123, n_125, n_128, n_144, n_200, n_255, n_256, n_300, n_400, n_600, n_1536, n_3980, n_4000, n_4001, n_4300, n_65536, l_0, l_1, l_2, l_3, l_4, l_10, l_48, l_63, l_255, l_300, nI_ltI, nI_leI, nI_eq, nI_clamp, nI_add, pk_sub, pk_mul, nI_ne1, ne1_nI, nI_pge, nI_nlt0, nI_l, lN_i, lN_add, lN_mul, lN_sub, pk_lLT, pk_lLE, pk_lEQ, lg_lt, lg_ge, lg_eq0, lg_le, lg_gt, lg_ltn, lg_gen, lg_eq0n, lg_len, lg_gtn, Nat.zero_le, Nat.not_lt_zero, not_false_eq_true, not_true_eq_false, true_and, and_true]; omega) | omega)) (o_pos ⟨B.1, B.2.1⟩ (o_bind e2 r1))
  obtain ⟨f, r1, r2, r3⟩ := lp k 0 100000 (hi h cl) (by omega) (by omega) (fun j hj' => absurd hj' (Nat.not_lt_zero j)) (fun _ _ => rfl)
  rw [hri_self, nI_0] at r1
  exact ⟨f, r1, r2, r3⟩
/-- a number's bytes are those it was put together of -/
theorem v8_nb {y : Nat → Nat} (hy : ∀ k, y k < 256) : ∀ (k i j : Nat), k ≤ 8 → j < k → nb y k i / 256 ^ j % 256 = y (i + j)
  | 0, _, _, _, hj' => absurd hj' (Nat.not_lt_zero _)
  | k + 1, i, 0, _, _ => by
    have := hy i
    show (y i + 256 * nb y k (i + 1)) / 256 ^ 0 % 256 = y i
    rw [Nat.pow_zero, Nat.div_one]
    omega
  | k + 1, i, j + 1, hk8, hj' => by
    have h1 := v8_nb hy k (i + 1) j (by omega) (by omega)
    have := hy i
    unfold nb
    rw [Nat.pow_succ, Nat.mul_comm (256 ^ j) 256, ← Nat.div_div_eq_div_mul]
    have e : (y i + 256 * nb y k (i + 1)) / 256 = nb y k (i + 1) := by omega
    rw [e, h1]
    congr 1
    omega
theorem v8_lN {y : Nat → Nat} (hy : ∀ k, y k < 256) {k i j : Nat} (hk8 : k ≤ 8) (hj' : j < k) : v8 (lN (nb y k i)) j = y (i + j) := by
  have l : nb y k i < 2 ^ 64 := Nat.lt_of_lt_of_le (nb_lt hy k i) (Nat.le_trans (Nat.pow_le_pow_right (by decide) hk8) (by decide))
  unfold v8 tl
  rw [lN_tn l]
  exact v8_nb hy k i j hk8 hj'
end Put
