/-! A judge is made and judges; rows of bytes are copied -/

section Jg
variable {h g : XH} {S n : Nat} {sg : SGT} {sd : Nat → Int64}
theorem KP.si2 {m t k : Nat} {v : Int32} (K : KP h g m) (ht : m ≤ t) : KP h (hsi g t k v) m := fun b hb => by
  obtain ⟨a1, a2, a3, a4, a5⟩ := K b hb
  exact ⟨a1, a2, fun j => by rw [hi_hsi_ne (by omega)]; exact a3 j, a4, a5⟩
theorem KP.sr2 {m t k : Nat} {v : Option Nat} (K : KP h g m) (ht : m ≤ t) : KP h (hsr g t k v) m := fun b hb => by
  obtain ⟨a1, a2, a3, a4, a5⟩ := K b hb
  exact ⟨a1, a2, a3, a4, fun j => by rw [hr_hsr_ne (by omega)]; exact a5 j⟩
theorem KP.hi {m a : Nat} (K : KP h g m) (ha : a < m) : hi g a = hi h a := funext (K a ha).2.2.1
theorem KP.hj {m a : Nat} (K : KP h g m) (ha : a < m) : hj g a = hj h a := funext (K a ha).2.2.2.1
theorem KP.hr {m a : Nat} (K : KP h g m) (ha : a < m) : hr g a = hr h a := funext (K a ha).2.2.2.2
theorem KP.ra (H : RA h S sg sd) (K : KP h g (hz h)) (h1 : hz h ≤ hz g) (h2 : hz g ≤ 1000000) : RA g S sg sd := by
  have l := H.1.1
  exact H.gen (H.1.keep (fun b hb => K b (by omega)) (by omega) h2) (by rw [K.hr (by omega)]; exact ⟨rfl, rfl⟩) (fun a ha _ => K.hi (by omega)) (by rw [K.hi (by omega)]) (fun a ha _ => K.hj (by omega))
theorem KP.by {b c m : Nat} (B : BY h b c) (K : KP h g m) (hb : b < m) (hc : c < m) (hz1 : hz h ≤ hz g) (hz2 : hz g ≤ 1000000) : BY g b c := by
  obtain ⟨b1, b2, b3, b4, b5, b6, b7⟩ := B
  exact ⟨by omega, by rw [(K b hb).1]; exact b2, by rw [(K b hb).2.2.2.2]; exact b3, by omega, by rw [(K c hc).1]; exact b5, by rw [(K c hc).2.1]; exact b6, hz2⟩
def jI (h : XH) (S b : Nat) (n : Int32) : XH := hsi (hsr (hsr (hsi (hsi (hsi (hnew h 5 6) (hz h) 3 0) (hz h) 4 0) (hz h) 5 0) (hz h) 0 (some S)) (hz h) 1 (some b)) (hz h) 2 n
theorem jI_kp {b : Nat} {x : Int32} : KP h (jI h S b x) (hz h) := ((((((hnew_kp).si2 (Nat.le_refl _)).si2 (Nat.le_refl _)).si2 (Nat.le_refl _)).sr2 (Nat.le_refl _)).sr2 (Nat.le_refl _)).si2 (Nat.le_refl _)
theorem e_j_init {b : Nat} {x : Int32} (l : 1317 ≤ hz h) : f_j_init (hz h) S b x (hnew h 5 6) = some ((), jI h S b x) := by
  have k1 : hz h < hz (hnew h 5 6) := Nat.lt_succ_self _
  have k2 : hk (hnew h 5 6) (hz h) = 5 := hnew_k
  unfold f_j_init
  exact o_pos ⟨k1, k2⟩ (o_pos l (o_pos ⟨k1, k2⟩ (o_pos l (o_pos ⟨k1, k2⟩ rfl))))
theorem jI_jc {b c : Nat} (L : LY h) (hm : hz h < 1000000) (C : CS h S sg sd) (W : WF sg sd) (hS : S + 616 ≤ 1317) (B : BY h b c) (hb : b < 1317) (hc : c < 1317) (hn' : n ≤ 4000) : JC (jI h S b (nI n)) (hz h) S b c n (cb h c) sg sd ∧ hi (jI h S b (nI n)) (hz h) 3 = nI 0 ∧ hi (jI h S b (nI n)) (hz h) 4 = nI 0 ∧ hi (jI h S b (nI n)) (hz h) 5 = nI 0 := by
  have l := L.1
  have K := jI_kp (h := h) (S := S) (b := b) (x := nI n)
  have z1 : hz (jI h S b (nI n)) = hz h + 1 := rfl
  have L2 : LY (jI h S b (nI n)) := L.keep (fun b hb => K b (by omega)) (by omega) (by omega)
  refine ⟨⟨⟨l, by omega, hnew_k (n := 6), ?_, ?_, ?_, hn'⟩, KP.by B K (by omega) (by omega) (by omega) (by omega), ⟨hc, hS⟩, cb_cg (K.hi (by omega)), C.cg W ?_ (fun a h1 h2 => K.hi (by omega)) (fun a h1 h2 => K.hj (by omega))⟩, ?_, ?_, ?_⟩
  · unfold jI
    rw [hr_hsi, hr_hsr, if_neg (by omega), hr_hsr, if_pos ⟨rfl, rfl⟩]
  · unfold jI
    rw [hr_hsi, hr_hsr, if_pos ⟨rfl, rfl⟩]
  · unfold jI
    rw [hi_at]
  · have q := C.1
    exact q.keepR (fun b h1 h2 => K b (by omega)) (by omega) (by omega)
  · unfold jI
    rw [hi_nk (by decide), hi_hsr, hi_hsr, hi_nk (by decide), hi_nk (by decide), hi_at]
    rfl
  · unfold jI
    rw [hi_nk (by decide), hi_hsr, hi_hsr, hi_nk (by decide), hi_at]
    rfl
  · unfold jI
    rw [hi_nk (by decide), hi_hsr, hi_hsr, hi_at]
    rfl
/-- a new judge judges -/
theorem e_judge {b c : Nat} (L : LY h) (hm : hz h < 1000000) (C : CS h S sg sd) (W : WF sg sd) (hS : S + 616 ≤ 1317) (B : BY h b c) (hb : b < 1317) (hc : c < 1317) (hn' : n ≤ 4000) : ∃ g, f_j_accepts (hz h) (jI h S b (nI n)) = some (jb (jA sg (cb h c) n).1, g) ∧ KP h g (hz h) ∧ hz g = hz h + 1 ∧ hw g = hw h + 6 ∧ hk g (hz h) = 5 ∧ hi g (hz h) 3 = nI (jA sg (cb h c) n).2.2 ∧ hi g (hz h) 4 = nI (jA sg (cb h c) n).1 ∧ hi g (hz h) 5 = nI (if (jA sg (cb h c) n).1 = 0 then 0 else (jA sg (cb h c) n).2.1) := by
  obtain ⟨JJ, i3, i4, i5⟩ := jI_jc (n := n) L hm C W hS B hb hc hn'
  have eA := (e_j_accepts JJ W i3).1
  have K := jI_kp (h := h) (S := S) (b := b) (x := nI n)
  refine ⟨_, eA, ?_⟩
  generalize jA sg (cb h c) n = x
  by_cases q : x.1 = 0
  · rw [jH_0 q, if_pos q]
    refine ⟨K.si2 (Nat.le_refl _), rfl, rfl, hnew_k (n := 6), hi_at, ?_, ?_⟩
    · rw [hi_nk (by decide), i4, q]
    · rw [hi_nk (by decide), i5]
  · unfold jH jh
    rw [if_neg q, if_neg q]
    refine ⟨((K.si2 (Nat.le_refl _)).si2 (Nat.le_refl _)).si2 (Nat.le_refl _), rfl, rfl, hnew_k (n := 6), ?_, ?_, ?_⟩
    · rw [hi_nk (by decide), hi_nk (by decide), hi_at]
    · rw [hi_nk (by decide), hi_at]
    · rw [hi_at]
/-- bytes are copied -/
theorem e_b_copy {b cl b2 cl2 f0 t0 m : Nat} (B : BY h b cl) (B2 : BY h b2 cl2) (ne : cl2 ≠ cl) (hf : f0 + m ≤ 4000) (ht : t0 + m ≤ 4000) : ∃ f, f_b_copy b b2 (nI f0) (nI t0) (nI m) h = some ((), hri h cl f) ∧ (∀ j, j < m → cb (hri h cl f) cl (t0 + j) = cb h cl2 (f0 + j)) ∧ ∀ k, k < t0 ∨ t0 + m ≤ k → f k = hi h cl k := by
  have lp : ∀ (r i fuel : Nat) (f : Nat → Int32), r < fuel → i + r = m → (∀ j, j < i → cb (hri h cl f) cl (t0 + j) = cb h cl2 (f0 + j)) → (∀ k, k < t0 ∨ t0 + m ≤ k → f k = hi h cl k) → ∃ f', b_b_copy_3 fuel b b2 (nI f0) (nI t0) (nI m) (nI i) (hri h cl f) = some ((), hri h cl f') ∧ (∀ j, j < m → cb (hri h cl f') cl (t0 + j) = cb h cl2 (f0 + j)) ∧ ∀ k, k < t0 ∨ t0 + m ≤ k → f' k = hi h cl k := by
    intro r
    induction r with
    | zero =>
      intro i fuel f hfu hi' q1 q2
      obtain ⟨fu, rfl, -⟩ := fuel_pos hfu
      have ei : i = m := by omega
      subst ei
      refine ⟨f, ?_, q1, q2⟩
      show s_b_copy_3 (b_b_copy_3 fu) _ _ _ _ _ _ _ = _
      unfold s_b_copy_3
      exact o_pos (by (first | (simp (maxSteps := 4000000) (disch := omega) only [n_0, n_1, n_2, n_3, n_4, n_5, n_6, n_7, n_8, n_9, n_10, n_11, n_12, n_13, n_14, n_15, n_16, n_18, n_20, n_24, n_31, n_32, n_34, n_40, n_41, n_44, n_45, n_47, n_48, n_57, n_58, n_59, n_61, n_63, n_64, n_65, n_68, n_90, n_91, n_93, n_95, n_97, n_100, n_122, n_123, n_125, n_128, n_144, n_200, n_255, n_256, n_300, n_400, n_600, n_1536, n_3980, n_4000, n_4001, n_4300, n_65536, l_0, l_1, l_2, l_3, l_4, l_10, l_48, l_63, l_255, l_300, nI_ltI, nI_leI, nI_eq, nI_clamp, nI_add, pk_sub, pk_mul, nI_ne1, ne1_nI, nI_pge, nI_nlt0, nI_l, lN_i, lN_add, lN_mul, lN_sub, pk_lLT, pk_lLE, pk_lEQ, lg_lt, lg_ge, lg_eq0, lg_le, lg_gt, lg_ltn, lg_gen, lg_eq0n, lg_len, lg_gtn, Nat.zero_le, Nat.not_lt_zero, not_false_eq_true, not_true_eq_false, true_and, and_true]; done) | (simp (maxSteps := 4000000) (disch := omega) only [n_0, n_1, n_2, n_3, n_4, n_5, n_6, n_7, n_8, n_9, n_10, n_11, n_12, n_13, n_14, n_15, n_16, n_18, n_20, n_24, n_31, n_32, n_34, n_40, n_41, n_44, n_45, n_47, n_48, n_57, n_58, n_59, n_61, n_63, n_64, n_65, n_68, n_90, n_91, n_93, n_95, n_97, n_100, n_122, n_123, n_125, n_128, n_144, n_200, n_255, n_256, n_300, n_400, n_600, n_1536, n_3980, n_4000, n_4001, n_4300, n_65536, l_0, l_1, l_2, l_3, l_4, l_10, l_48, l_63, l_255, l_300, nI_ltI, nI_leI, nI_eq, nI_clamp, nI_add, pk_sub, pk_mul, nI_ne1, ne1_nI, nI_pge, nI_nlt0, nI_l, lN_i, lN_add, lN_mul, lN_sub, pk_lLT, pk_lLE, pk_lEQ, lg_lt, lg_ge, lg_eq0, lg_le, lg_gt, lg_ltn, lg_gen, lg_eq0n, lg_len, lg_gtn, Nat.zero_le, Nat.not_lt_zero, not_false_eq_true, not_true_eq_false, true_and, and_true]; omega) | omega)) rfl
    | succ r ih =>
      intro i fuel f hfu hi' q1 q2
      obtain ⟨fu, rfl, -⟩ := fuel_pos hfu
      have Bf : BY (hri h cl f) b cl := B
      have Bf2 : BY (hri h cl f) b2 cl2 := B2
      have e1 := e_b_octet Bf2 (i := f0 + i) (by omega)
      have e2 := e_b_putOctet Bf (i := t0 + i) (z := nI (cb (hri h cl f) cl2 (f0 + i))) (by omega)
      have c2 : cb (hri h cl f) cl2 = cb h cl2 := cb_cg (hi_hri_ne ne)
      rw [← nI_add] at e1 e2
      have e3 : hsi (hri h cl f) cl (t0 + i) (vp_nar .byte (nI (cb (hri h cl f) cl2 (f0 + i))).toInt8.toInt32) = hri h cl (upd f (t0 + i) (vp_nar .byte (nI (cb (hri h cl f) cl2 (f0 + i))).toInt8.toInt32)) := by
        rw [hsi_row, hi_hri_eq, hri_hri]
      have tz : tn (nI (cb (hri h cl f) cl2 (f0 + i))) % 256 = cb h cl2 (f0 + i) := by
        have l8 := cb_lt h cl2 (f0 + i)
        rw [c2]
        show (nI _).toBitVec.toNat % 256 = _
        rw [pk_tn (by omega)]
        omega
      obtain ⟨f3, r1, r2, r3⟩ := ih (i + 1) fu (upd f (t0 + i) (vp_nar .byte (nI (cb (hri h cl f) cl2 (f0 + i))).toInt8.toInt32)) (by omega) (by omega) (fun j hj' => by
        rw [← e3]
        by_cases z : j = i
        · subst z
          rw [cb_put, tz]
        · rw [cb_nk (by omega)]
          exact q1 j (by omega)) (fun k hk' => by rw [pk_un (by omega)]; exact q2 k hk')
      refine ⟨f3, ?_, r2, r3⟩
      show s_b_copy_3 (b_b_copy_3 fu) _ _ _ _ _ _ _ = _
      unfold s_b_copy_3
      rw [e3] at e2
      rw [← nI_1] at r1
      exact o_neg (by (first | (simp (maxSteps := 4000000) (disch := omega) only [n_0, n_1, n_2, n_3, n_4, n_5, n_6, n_7, n_8, n_9, n_10, n_11, n_12, n_13, n_14, n_15, n_16, n_18, n_20, n_24, n_31, n_32, n_34, n_40, n_41, n_44, n_45, n_47, n_48, n_57, n_58, n_59, n_61, n_63, n_64, n_65, n_68, n_90, n_91, n_93, n_95, n_97, n_100, n_122, n_123, n_125, n_128, n_144, n_200, n_255, n_256, n_300, n_400, n_600, n_1536, n_3980, n_4000, n_4001, n_4300, n_65536, l_0, l_1, l_2, l_3, l_4, l_10, l_48, l_63, l_255, l_300, nI_ltI, nI_leI, nI_eq, nI_clamp, nI_add, pk_sub, pk_mul, nI_ne1, ne1_nI, nI_pge, nI_nlt0, nI_l, lN_i, lN_add, lN_mul, lN_sub, pk_lLT, pk_lLE, pk_lEQ, lg_lt, lg_ge, lg_eq0, lg_le, lg_gt, lg_ltn, lg_gen, lg_eq0n, lg_len, lg_gtn, Nat.zero_le, Nat.not_lt_zero, not_false_eq_true, not_true_eq_false, true_and, and_true]; done) | (simp (maxSteps := 4000000) (disch := omega) only [n_0, n_1, n_2, n_3, n_4, n_5, n_6, n_7, n_8, n_9, n_10, n_11, n_12, n_13, n_14, n_15, n_16, n_18, n_20, n_24, n_31, n_32, n_34, n_40, n_41, n_44, n_45, n_47, n_48, n_57, n_58, n_59, n_61, n_63, n_64, n_65, n_68, n_90, n_91, n_93, n_95, n_97, n_100, n_122, n_123, n_125, n_128, n_144, n_200, n_255, n_256, n_300, n_400, n_600, n_1536, n_3980, n_4000, n_4001, n_4300, n_65536, l_0, l_1, l_2, l_3, l_4, l_10, l_48, l_63, l_255, l_300, nI_ltI, nI_leI, nI_eq, nI_clamp, nI_add, pk_sub, pk_mul, nI_ne1, ne1_nI, nI_pge, nI_nlt0, nI_l, lN_i, lN_add, lN_mul, lN_sub, pk_lLT, pk_lLE, pk_lEQ, lg_lt, lg_ge, lg_eq0, lg_le, lg_gt, lg_ltn, lg_gen, lg_eq0n, lg_len, lg_gtn, Nat.zero_le, Nat.not_lt_zero, not_false_eq_true, not_true_eq_false, true_and, and_true]; omega) | omega)) (o_pos ⟨B2.1, B2.2.1⟩ (o_bind e1 (o_pos ⟨B.1, B.2.1⟩ (o_bind e2 r1))))
  obtain ⟨f, r1, r2, r3⟩ := lp m 0 100000 (hi h cl) (by omega) (by omega) (fun j hj' => absurd hj' (Nat.not_lt_zero j)) (fun _ _ => rfl)
  rw [hri_self, nI_0] at r1
  exact ⟨f, r1, r2, r3⟩
end Jg
