/-! A struct laid out: places and leaves, the class's half -/

section Lay
variable (so o zS aS mS : Nat → Nat) (lS pS : Nat → Nat → Nat)
def fz (j : Nat) : Nat := if so j = 0 then bO (o j) else zS (o j)
def fa (j : Nat) : Nat := if so j = 0 then bO (o j) else aS (o j)
def Zf : Nat → Nat
  | 0 => 0
  | j + 1 => rU (Zf j) (fa so o aS j) + fz so o zS j
def Pf (j : Nat) : Nat := rU (Zf so o zS aS j) (fa so o aS j)
def Af : Nat → Nat
  | 0 => 1
  | j + 1 => if fa so o aS j ≤ Af j then Af j else fa so o aS j
def ct (j : Nat) : Nat := if so j = 0 then 1 else mS (o j)
def Mf : Nat → Nat
  | 0 => 0
  | j + 1 => Mf j + ct so o mS j
def lfv (j i : Nat) : Nat := if so j = 0 then o j else lS (o j) i
def pv (j i : Nat) : Nat := if so j = 0 then 0 else pS (o j) i
end Lay
/-- what the structs before are -/
def OLP (ns : Nat) (zS aS mS : Nat → Nat) (lS pS : Nat → Nat → Nat) : Prop := ∀ s, s < ns → (∀ k, k < mS s → lS s k < 11 ∧ pS s k + bO (lS s k) ≤ zS s) ∧ (∀ k, k + 1 < mS s → pS s k + bO (lS s k) ≤ pS s (k + 1)) ∧ (1 ≤ zS s ∧ zS s ≤ 128 ∧ (aS s = 1 ∨ aS s = 2 ∨ aS s = 4 ∨ aS s = 8) ∧ 1 ≤ mS s ∧ mS s ≤ zS s)
def OLC (S ns : Nat) (zS aS mS : Nat → Nat) (lS pS : Nat → Nat → Nat) (g : XH) : Prop := ∀ s, s < ns → (hi g (dS S s) 6 = nI (zS s) ∧ hi g (dS S s) 7 = nI (aS s) ∧ hi g (dS S s) 11 = nI (mS s)) ∧ ∀ k, k < mS s → hi g (dS S s + 14) k = nI (lS s k) ∧ hi g (dS S s + 15) k = nI (pS s k)
def OLM (ns : Nat) (zS aS mS : Nat → Nat) (lS pS : Nat → Nat → Nat) (h : XH) : Prop := ∀ s, s < ns → (hi h 1274 s = nI (zS s) ∧ hi h 1275 s = nI (aS s) ∧ hi h 1280 s = nI (mS s)) ∧ ∀ k, k < mS s → hi h 1281 (128 * s + k) = nI (lS s k) ∧ hi h 1282 (128 * s + k) = nI (pS s k)
def FO (so o : Nat → Nat) (ns f : Nat) : Prop := ∀ j, j < f → (so j = 0 ∧ o j < 11) ∨ (so j = 2 ∧ o j < ns)
section LayP
variable {so o zS aS mS so' o' : Nat → Nat} {lS pS : Nat → Nat → Nat} {ns f j : Nat}
theorem fa_ok (O : OLP ns zS aS mS lS pS) (Q : FO so o ns f) (hj' : j < f) : (fa so o aS j = 1 ∨ fa so o aS j = 2 ∨ fa so o aS j = 4 ∨ fa so o aS j = 8) ∧ 1 ≤ fz so o zS j ∧ fz so o zS j ≤ 128 ∧ 1 ≤ ct so o mS j ∧ ct so o mS j ≤ fz so o zS j := by
  have b := bO_le (o j)
  unfold fa fz ct
  rcases Q j hj' with ⟨q1, q2⟩ | ⟨q1, q2⟩
  · rw [if_pos q1, if_pos q1, if_pos q1]
    omega
  · have := (O (o j) q2).2.2
    rw [if_neg (by omega), if_neg (by omega), if_neg (by omega)]
    omega
theorem Zf_s (O : OLP ns zS aS mS lS pS) (Q : FO so o ns f) (hj' : j < f) : Zf so o zS aS j ≤ Pf so o zS aS j ∧ Pf so o zS aS j < Zf so o zS aS j + 8 ∧ Zf so o zS aS (j + 1) = Pf so o zS aS j + fz so o zS j := by
  have a := fa_ok O Q hj'
  have r := rU_f (x := Zf so o zS aS j) a.1
  unfold Pf
  exact ⟨r.1, by omega, rfl⟩
theorem Zf_le (O : OLP ns zS aS mS lS pS) (Q : FO so o ns f) : ∀ j, j ≤ f → Zf so o zS aS j ≤ 136 * j
  | 0, _ => Nat.le_refl 0
  | j + 1, h => by
    have := Zf_le O Q j (by omega)
    have z := Zf_s O Q (show j < f by omega)
    have a := fa_ok O Q (show j < f by omega)
    omega
theorem Zf_mono (O : OLP ns zS aS mS lS pS) (Q : FO so o ns f) : ∀ m j, j + m ≤ f → Zf so o zS aS j ≤ Zf so o zS aS (j + m)
  | 0, _, _ => Nat.le_refl _
  | m + 1, j, h => by
    have := Zf_mono O Q m j (by omega)
    have z := Zf_s O Q (show j + m < f by omega)
    rw [← Nat.add_assoc]
    omega
theorem Af_ok (O : OLP ns zS aS mS lS pS) (Q : FO so o ns f) : ∀ j, j ≤ f → (Af so o aS j = 1 ∨ Af so o aS j = 2 ∨ Af so o aS j = 4 ∨ Af so o aS j = 8)
  | 0, _ => Or.inl rfl
  | j + 1, h => by
    have := Af_ok O Q j (by omega)
    have a := fa_ok O Q (show j < f by omega)
    unfold Af
    by_cases c : fa so o aS j ≤ Af so o aS j
    · rw [if_pos c]; exact this
    · rw [if_neg c]; exact a.1
theorem Mf_le (O : OLP ns zS aS mS lS pS) (Q : FO so o ns f) : ∀ j, j ≤ f → Mf so o mS j ≤ Zf so o zS aS j
  | 0, _ => Nat.le_refl 0
  | j + 1, h => by
    have := Mf_le O Q j (by omega)
    have a := fa_ok O Q (show j < f by omega)
    have z := Zf_s O Q (show j < f by omega)
    unfold Mf
    omega
theorem Mf_mono : ∀ m j, Mf so o mS j ≤ Mf so o mS (j + m)
  | 0, _ => Nat.le_refl _
  | m + 1, j => by
    have := Mf_mono m j
    rw [← Nat.add_assoc]
    show _ ≤ Mf so o mS (j + m) + ct so o mS (j + m)
    omega
theorem Mf_at : ∀ n k, k < Mf so o mS n → ∃ j i, j < n ∧ i < ct so o mS j ∧ k = Mf so o mS j + i
  | 0, k, h => absurd h (Nat.not_lt_zero k)
  | n + 1, k, h => by
    by_cases c : k < Mf so o mS n
    · obtain ⟨j, i, h1, h2, h3⟩ := Mf_at n k c
      exact ⟨j, i, by omega, h2, h3⟩
    · have e : Mf so o mS (n + 1) = Mf so o mS n + ct so o mS n := rfl
      exact ⟨n, k - Mf so o mS n, by omega, by omega, by omega⟩
theorem fa_cg (e1 : so j = so' j) (e2 : o j = o' j) : fa so o aS j = fa so' o' aS j ∧ fz so o zS j = fz so' o' zS j ∧ ct so o mS j = ct so' o' mS j := by
  unfold fa fz ct
  rw [e1, e2]
  exact ⟨rfl, rfl, rfl⟩
theorem Zf_cg : ∀ j, (∀ i, i < j → so i = so' i ∧ o i = o' i) → Zf so o zS aS j = Zf so' o' zS aS j ∧ Af so o aS j = Af so' o' aS j ∧ Mf so o mS j = Mf so' o' mS j
  | 0, _ => ⟨rfl, rfl, rfl⟩
  | j + 1, h => by
    obtain ⟨i1, i2, i3⟩ := Zf_cg j (fun i hi' => h i (by omega))
    obtain ⟨c1, c2, c3⟩ := fa_cg (aS := aS) (zS := zS) (mS := mS) (h j (by omega)).1 (h j (by omega)).2
    unfold Zf Af Mf
    rw [i1, i2, i3, c1, c2, c3]
    exact ⟨rfl, rfl, rfl⟩
end LayP
section LayC
variable {so o zS aS mS : Nat → Nat} {lS pS : Nat → Nat → Nat} {S t ns n : Nat} {g u : XH}
theorem lay_al {es j f : Nat} (L : SC g S) (O : OLP ns zS aS mS lS pS) (C : OLC S ns zS aS mS lS pS g) (Q : FO so o ns f) (hj' : j < f) (e1 : hi g (S + 1) 1 = nI es) (l1 : ns ≤ es) (l2 : es ≤ 12) : f_s_alignmentOf S (nI (so j)) (nI (o j)) g = some (nI (fa so o aS j), g) ∧ f_s_bytesOf S (nI (so j)) (nI (o j)) g = some (nI (fz so o zS j), g) := by
  have s9 : S < hz g ∧ hk g S = 9 := ⟨by have := L.1; omega, L.2.2.1⟩
  have s4 : S + 1 < hz g ∧ hk g (S + 1) = 4 := ⟨by have := L.1; omega, L.gS.2.2.2.1⟩
  unfold f_s_alignmentOf b_s_alignmentOf_26 f_s_bytesOf b_s_bytesOf_26 fa fz
  rcases Q j hj' with ⟨q1, q2⟩ | ⟨q1, q2⟩
  · rw [q1, if_pos rfl, if_pos rfl]
    exact ⟨o_neg (not_not_intro rfl) (o_bind (e_t_scalarBytes q2) rfl), o_neg (not_not_intro rfl) (o_bind (e_t_scalarBytes q2) rfl)⟩
  · have D := L.ddS (s := o j) (by omega)
    have d1 : dS S (o j) < hz g ∧ hk g (dS S (o j)) = 2 := ⟨by have := D.1; omega, D.2.2.2.2.1⟩
    have at' : f_g_at (S + 1) (nI (o j)) g = some (some (dS S (o j)), g) := e_g_at L.gS e1 l2 (by omega)
    have fa' : (if so j = 0 then bO (o j) else aS (o j)) = aS (o j) := if_neg (by omega)
    have fz' : (if so j = 0 then bO (o j) else zS (o j)) = zS (o j) := if_neg (by omega)
    rw [fa', fz', q1]
    refine ⟨o_pos (by decide) (o_neg (not_not_intro rfl) (o_pos s9 (o_bind L.2.2.2.1 (o_pos s4 (o_bind at' (o_elim (o_pos d1 ?_))))))), o_pos (by decide) (o_neg (not_not_intro rfl) (o_pos s9 (o_bind L.2.2.2.1 (o_pos s4 (o_bind at' (o_elim (o_pos d1 ?_)))))))⟩
    · rw [(C _ q2).1.2.1]
    · rw [(C _ q2).1.1]
def loP (a j a' k : Nat) : Prop := (a' = a ∧ (k = 6 ∨ k = 7)) ∨ (a + 2 + j ≤ a' ∧ a' < a + 14 ∧ k = 6)
theorem SC.frm {P J : Nat → Nat → Prop} (L : SC g S) (F : FRX P J nW g u) : SC u S := L.frx F fun _ _ _ _ z => z
/-- places -/
theorem e_p_layOut {es : Nat} (O : OLP ns zS aS mS lS pS) (Q : FO so o ns n) (hn' : n ≤ 12) (l1 : ns ≤ es) (l2 : es ≤ 12) (l3 : ns < 12) : ∀ (m j fuel : Nat) (g : XH), j + m = n → m < fuel → PO g t S → OLC S ns zS aS mS lS pS g → hi g (S + 1) 1 = nI es → hi g (dS S ns) 3 = nI n → hi g (dS S ns) 6 = nI (Zf so o zS aS j) → hi g (dS S ns) 7 = nI (Af so o aS j) → (∀ i, i < n → hi g (dS S ns + 2 + i) 3 = nI (so i) ∧ hi g (dS S ns + 2 + i) 4 = nI (o i)) → ∃ u, b_p_layOut_2 fuel t (dS S ns) (nI j) g = some ((), u) ∧ FRX (loP (dS S ns) j) nW nW g u ∧ hi u (dS S ns) 6 = nI (rU (Zf so o zS aS n) (Af so o aS n)) ∧ hi u (dS S ns) 7 = nI (Af so o aS n) ∧ ∀ i, j ≤ i → i < n → hi u (dS S ns + 2 + i) 6 = nI (Pf so o zS aS i) := by
  intro m
  induction m with
  | zero =>
    intro j fuel g e hf P C e1 e3 e6 e7 ef
    obtain ⟨f, rfl, -⟩ := fuel_pos hf
    have L : SC g S := by
      rcases P.2.2.2.1 with q | q <;> subst q
      · exact P.1.2.2.2.2.2.1
      · exact P.1.2.2.2.2.2.2
    have D := L.ddS (s := ns) l3
    have d1 : dS S ns < hz g ∧ hk g (dS S ns) = 2 := ⟨by have := D.1; omega, D.2.2.2.2.1⟩
    have ej : j = n := by omega
    subst ej
    have zl := Zf_le O Q j (Nat.le_refl j)
    have al := Af_ok O Q j (Nat.le_refl j)
    refine ⟨hsi g (dS S ns) 6 (nI (rU (Zf so o zS aS j) (Af so o aS j))), ?_, FRX.refl.si (Or.inl ⟨rfl, Or.inl rfl⟩), hi_at, by rw [hi_nk (by decide)]; exact e7, fun i h1 h2 => by omega⟩
    show s_p_layOut_2 (b_p_layOut_2 f) _ _ _ _ = _
    unfold s_p_layOut_2
    rw [e3, e6, e7]
    exact o_pos d1 (o_pos (Int32.le_refl _) (o_bind (e_t_roundUp (by omega) al) (o_pos d1 rfl)))
  | succ m ih =>
    intro j fuel g e hf P C e1 e3 e6 e7 ef
    obtain ⟨f, rfl, -⟩ := fuel_pos hf
    have S1 := P.2.2.2.1
    have t17 := P.2.1
    have L : SC g S := by
      rcases P.2.2.2.1 with q | q <;> subst q
      · exact P.1.2.2.2.2.2.1
      · exact P.1.2.2.2.2.2.2
    have D := L.ddS (s := ns) l3
    have d1 : dS S ns < hz g ∧ hk g (dS S ns) = 2 := ⟨by have := D.1; omega, D.2.2.2.2.1⟩
    have f1 : dS S ns + 2 + j < hz g ∧ hk g (dS S ns + 2 + j) = 3 := ⟨by have := D.1; omega, (D.2.2.2.2.2.2.2.2.1 j (by omega)).2⟩
    have s9 : S < hz g ∧ hk g S = 9 := ⟨by have := L.1; omega, L.2.2.1⟩
    have zl := Zf_le O Q j (by omega)
    have a := fa_ok O Q (show j < n by omega)
    have zs := Zf_s O Q (show j < n by omega)
    obtain ⟨al, -⟩ := lay_al L O C Q (show j < n by omega) e1 l1 l2
    obtain ⟨g2, hg2⟩ : ∃ g2, g2 = hsi g (dS S ns + 2 + j) 6 (nI (Pf so o zS aS j)) := ⟨_, rfl⟩
    have F2 : FRX (loP (dS S ns) j) nW nW g g2 := by
      rw [hg2]
      exact FRX.refl.si (Or.inr ⟨Nat.le_refl _, by omega, rfl⟩)
    have dn : ∀ s, s < ns → dS S s + 16 ≤ dS S ns := fun s hs => by unfold dS; omega
    have C2 : OLC S ns zS aS mS lS pS g2 := by
      intro s hs
      have := dn s hs
      have w : ∀ a' k, a' ≤ dS S s + 15 → hi g2 a' k = hi g a' k := fun a' k ha => F2.at (by unfold loP; omega)
      rw [w _ _ (by omega), w _ _ (by omega), w _ _ (by omega)]
      exact ⟨(C s hs).1, fun k hk' => by rw [w _ _ (by omega), w _ _ (by omega)]; exact (C s hs).2 k hk'⟩
    have sn : S + 1 < dS S ns := by unfold dS; omega
    obtain ⟨-, by'⟩ := lay_al (L.frm F2) O C2 Q (show j < n by omega) (show hi g2 (S + 1) 1 = nI es by rw [F2.at (by unfold loP; omega)]; exact e1) l1 l2
    obtain ⟨u1, hu1⟩ : ∃ u1, u1 = hsi (hsi g2 (dS S ns) 6 (nI (Zf so o zS aS (j + 1)))) (dS S ns) 7 (nI (Af so o aS (j + 1))) := ⟨_, rfl⟩
    have F3 : FRX (loP (dS S ns) j) nW nW g u1 := by
      rw [hu1]
      exact (F2.si (Or.inl ⟨rfl, Or.inl rfl⟩)).si (Or.inl ⟨rfl, Or.inr rfl⟩)
    have e7' : hi g2 (dS S ns) 7 = nI (Af so o aS j) := by rw [hg2, hi_hsi_ne (by omega)]; exact e7
    have am := Af_ok O Q j (by omega)
    have st : b_p_layOut_2 (f + 1) t (dS S ns) (nI j) g = b_p_layOut_2 f t (dS S ns) (nI (j + 1)) u1 := by
      show s_p_layOut_2 (b_p_layOut_2 f) _ _ _ _ = _
      unfold s_p_layOut_2
      rw [e3]
      refine o_pos d1 (o_neg (by (first | (simp (maxSteps := 4000000) (disch := omega) only [n_0, n_1, n_2, n_3, n_4, n_5, n_6, n_7, n_8, n_9, n_10, n_11, n_12, n_13, n_14, n_15, n_16, n_18, n_20, n_24, n_31, n_32, n_34, n_40, n_41, n_44, n_45, n_47, n_48, n_57, n_58, n_59, n_61, n_63, n_64, n_65, n_68, n_90, n_91, n_93, n_95, n_97, n_100, n_122, n_123, n_125, n_128, n_144, n_200, n_255, n_256, n_300, n_400, n_600, n_1536, n_3980, n_4000, n_4001, n_4300, n_65536, l_0, l_1, l_2, l_3, l_4, l_10, l_48, l_63, l_255, l_300, nI_ltI, nI_leI, nI_eq, nI_clamp, nI_add, pk_sub, pk_mul, nI_ne1, ne1_nI, nI_pge, nI_nlt0, nI_l, lN_i, lN_add, lN_mul, lN_sub, pk_lLT, pk_lLE, pk_lEQ, lg_lt, lg_ge, lg_eq0, lg_le, lg_gt, lg_ltn, lg_gen, lg_eq0n, lg_len, lg_gtn, Nat.zero_le, Nat.not_lt_zero, not_false_eq_true, not_true_eq_false, true_and, and_true]; done) | (simp (maxSteps := 4000000) (disch := omega) only [n_0, n_1, n_2, n_3, n_4, n_5, n_6, n_7, n_8, n_9, n_10, n_11, n_12, n_13, n_14, n_15, n_16, n_18, n_20, n_24, n_31, n_32, n_34, n_40, n_41, n_44, n_45, n_47, n_48, n_57, n_58, n_59, n_61, n_63, n_64, n_65, n_68, n_90, n_91, n_93, n_95, n_97, n_100, n_122, n_123, n_125, n_128, n_144, n_200, n_255, n_256, n_300, n_400, n_600, n_1536, n_3980, n_4000, n_4001, n_4300, n_65536, l_0, l_1, l_2, l_3, l_4, l_10, l_48, l_63, l_255, l_300, nI_ltI, nI_leI, nI_eq, nI_clamp, nI_add, pk_sub, pk_mul, nI_ne1, ne1_nI, nI_pge, nI_nlt0, nI_l, lN_i, lN_add, lN_mul, lN_sub, pk_lLT, pk_lLE, pk_lEQ, lg_lt, lg_ge, lg_eq0, lg_le, lg_gt, lg_ltn, lg_gen, lg_eq0n, lg_len, lg_gtn, Nat.zero_le, Nat.not_lt_zero, not_false_eq_true, not_true_eq_false, true_and, and_true]; omega) | omega)) (o_bind (e_d_fieldAt D e3 hn' (by omega)) (o_elim (o_pos P.tk (o_bind P.2.2.2.2.2.2.1 (o_pos f1 (o_pos s9 (o_bind (by rw [(ef j (by omega)).1, (ef j (by omega)).2]; exact al) (o_pos d1 (o_bind (by rw [e6]; exact e_t_roundUp (by omega) a.1) (o_pos f1 (o_pos P.tk (o_bind P.2.2.2.2.2.2.1 (o_pos s9 (o_bind (by rw [(ef j (by omega)).1, (ef j (by omega)).2]; show f_s_bytesOf S _ _ (hsi g (dS S ns + 2 + j) 6 (nI (Pf so o zS aS j))) = _; rw [← hg2]; exact by') (o_pos (by rw [F2.1.1, F2.1.2.2.1]; exact d1) ?_))))))))))))))))
      unfold b_p_layOut_87
      rw [hu1]
      show b_p_layOut_2 f t (dS S ns) (nI j + 1) (hsi (hsi g2 (dS S ns) 6 (nI (Pf so o zS aS j) + nI (fz so o zS j))) (dS S ns) 7 (if hi g2 (dS S ns) 7 < nI (fa so o aS j) then nI (fa so o aS j) else hi g2 (dS S ns) 7)) = _
      have mx : (if nI (Af so o aS j) < nI (fa so o aS j) then nI (fa so o aS j) else nI (Af so o aS j)) = nI (Af so o aS (j + 1)) := by
        show _ = nI (if fa so o aS j ≤ Af so o aS j then Af so o aS j else fa so o aS j)
        have a1 := a.1
        by_cases c : fa so o aS j ≤ Af so o aS j
        · rw [if_neg (show ¬ nI (Af so o aS j) < nI (fa so o aS j) by (first | (simp (maxSteps := 4000000) (disch := omega) only [n_0, n_1, n_2, n_3, n_4, n_5, n_6, n_7, n_8, n_9, n_10, n_11, n_12, n_13, n_14, n_15, n_16, n_18, n_20, n_24, n_31, n_32, n_34, n_40, n_41, n_44, n_45, n_47, n_48, n_57, n_58, n_59, n_61, n_63, n_64, n_65, n_68, n_90, n_91, n_93, n_95, n_97, n_100, n_122, n_123, n_125, n_128, n_144, n_200, n_255, n_256, n_300, n_400, n_600, n_1536, n_3980, n_4000, n_4001, n_4300, n_65536, l_0, l_1, l_2, l_3, l_4, l_10, l_48, l_63, l_255, l_300, nI_ltI, nI_leI, nI_eq, nI_clamp, nI_add, pk_sub, pk_mul, nI_ne1, ne1_nI, nI_pge, nI_nlt0, nI_l, lN_i, lN_add, lN_mul, lN_sub, pk_lLT, pk_lLE, pk_lEQ, lg_lt, lg_ge, lg_eq0, lg_le, lg_gt, lg_ltn, lg_gen, lg_eq0n, lg_len, lg_gtn, Nat.zero_le, Nat.not_lt_zero, not_false_eq_true, not_true_eq_false, true_and, and_true]; done) | (simp (maxSteps := 4000000) (disch := omega) only [n_0, n_1, n_2, n_3, n_4, n_5, n_6, n_7, n_8, n_9, n_10, n_11, n_12, n_13, n_14, n_15, n_16, n_18, n_20, n_24, n_31, n_32, n_34, n_40, n_41, n_44, n_45, n_47, n_48, n_57, n_58, n_59, n_61, n_63, n_64, n_65, n_68, n_90, n_91, n_93, n_95, n_97, n_100, n_122, n_123, n_125, n_128, n_144, n_200, n_255, n_256, n_300, n_400, n_600, n_1536, n_3980, n_4000, n_4001, n_4300, n_65536, l_0, l_1, l_2, l_3, l_4, l_10, l_48, l_63, l_255, l_300, nI_ltI, nI_leI, nI_eq, nI_clamp, nI_add, pk_sub, pk_mul, nI_ne1, ne1_nI, nI_pge, nI_nlt0, nI_l, lN_i, lN_add, lN_mul, lN_sub, pk_lLT, pk_lLE, pk_lEQ, lg_lt, lg_ge, lg_eq0, lg_le, lg_gt, lg_ltn, lg_gen, lg_eq0n, lg_len, lg_gtn, Nat.zero_le, Nat.not_lt_zero, not_false_eq_true, not_true_eq_false, true_and, and_true]; omega) | omega)), if_pos c]
        · rw [if_pos (show nI (Af so o aS j) < nI (fa so o aS j) by (first | (simp (maxSteps := 4000000) (disch := omega) only [n_0, n_1, n_2, n_3, n_4, n_5, n_6, n_7, n_8, n_9, n_10, n_11, n_12, n_13, n_14, n_15, n_16, n_18, n_20, n_24, n_31, n_32, n_34, n_40, n_41, n_44, n_45, n_47, n_48, n_57, n_58, n_59, n_61, n_63, n_64, n_65, n_68, n_90, n_91, n_93, n_95, n_97, n_100, n_122, n_123, n_125, n_128, n_144, n_200, n_255, n_256, n_300, n_400, n_600, n_1536, n_3980, n_4000, n_4001, n_4300, n_65536, l_0, l_1, l_2, l_3, l_4, l_10, l_48, l_63, l_255, l_300, nI_ltI, nI_leI, nI_eq, nI_clamp, nI_add, pk_sub, pk_mul, nI_ne1, ne1_nI, nI_pge, nI_nlt0, nI_l, lN_i, lN_add, lN_mul, lN_sub, pk_lLT, pk_lLE, pk_lEQ, lg_lt, lg_ge, lg_eq0, lg_le, lg_gt, lg_ltn, lg_gen, lg_eq0n, lg_len, lg_gtn, Nat.zero_le, Nat.not_lt_zero, not_false_eq_true, not_true_eq_false, true_and, and_true]; done) | (simp (maxSteps := 4000000) (disch := omega) only [n_0, n_1, n_2, n_3, n_4, n_5, n_6, n_7, n_8, n_9, n_10, n_11, n_12, n_13, n_14, n_15, n_16, n_18, n_20, n_24, n_31, n_32, n_34, n_40, n_41, n_44, n_45, n_47, n_48, n_57, n_58, n_59, n_61, n_63, n_64, n_65, n_68, n_90, n_91, n_93, n_95, n_97, n_100, n_122, n_123, n_125, n_128, n_144, n_200, n_255, n_256, n_300, n_400, n_600, n_1536, n_3980, n_4000, n_4001, n_4300, n_65536, l_0, l_1, l_2, l_3, l_4, l_10, l_48, l_63, l_255, l_300, nI_ltI, nI_leI, nI_eq, nI_clamp, nI_add, pk_sub, pk_mul, nI_ne1, ne1_nI, nI_pge, nI_nlt0, nI_l, lN_i, lN_add, lN_mul, lN_sub, pk_lLT, pk_lLE, pk_lEQ, lg_lt, lg_ge, lg_eq0, lg_le, lg_gt, lg_ltn, lg_gen, lg_eq0n, lg_len, lg_gtn, Nat.zero_le, Nat.not_lt_zero, not_false_eq_true, not_true_eq_false, true_and, and_true]; omega) | omega)), if_neg c]
      rw [e7', n_1, nI_add, nI_add, mx, zs.2.2]
    obtain ⟨u, r1, r2, r3, r4, r5⟩ := ih (j + 1) f u1 (by omega) (by omega) (by
        refine ⟨P.1.frx F3 fun _ _ _ _ z => z, P.2.1, by rw [F3.1.1]; exact P.2.2.1, S1, ?_⟩
        have tz : 1317 ≤ t := P.2.1
        rw [F3.1.2.2.1, F3.1.2.2.2, F3.rf id, F3.rf id, F3.rf id, F3.rf id, F3.at (a := t) (k := 7) (by unfold loP dS; omega), F3.at (a := t) (k := 8) (by unfold loP dS; omega)]
        exact P.2.2.2.2) (by
        intro s hs
        have := dn s hs
        have w : ∀ a' k, a' ≤ dS S s + 15 → hi u1 a' k = hi g a' k := fun a' k ha => F3.at (by unfold loP; omega)
        rw [w _ _ (by omega), w _ _ (by omega), w _ _ (by omega)]
        exact ⟨(C s hs).1, fun k hk' => by rw [w _ _ (by omega), w _ _ (by omega)]; exact (C s hs).2 k hk'⟩) (by rw [F3.at (by unfold loP; omega)]; exact e1) (by rw [F3.at (by unfold loP; omega)]; exact e3) (by rw [hu1, hi_nk (by decide), hi_at]) (by rw [hu1, hi_at]) (fun i hi' => by rw [F3.at (by unfold loP; omega), F3.at (by unfold loP; omega)]; exact ef i hi')
    refine ⟨u, st.trans r1, F3.trans (r2.mono (fun a' k z => by unfold loP at z ⊢; omega) (fun _ _ z => z) (fun _ _ z => z)), r3, r4, fun i h1 h2 => ?_⟩
    by_cases c : i = j
    · subst c
      rw [r2.at (by unfold loP; omega), hu1, hi_hsi_ne (by omega), hi_hsi_ne (by omega), hg2, hi_at]
    · exact r5 i (by omega) h2
/-! leaves -/
def lfP (a lo a' k : Nat) : Prop := (a' = a ∧ k = 11) ∨ ((a' = a + 14 ∨ a' = a + 15) ∧ lo ≤ k)
theorem e_d_addLeaf {a m : Nat} {x y : Int32} (D : DF g a 12 128) (e : hi g a 11 = nI m) (hm : m < 128) : ∃ u, f_d_addLeaf a x y g = some ((), u) ∧ FRX (lfP a m) nW nW g u ∧ hi u a 11 = nI (m + 1) ∧ hi u (a + 14) m = x ∧ hi u (a + 15) m = y ∧ ∀ k, k ≠ m → hi u (a + 14) k = hi g (a + 14) k ∧ hi u (a + 15) k = hi g (a + 15) k := by
  obtain ⟨d1, d2, d3, d4, d5, d6, d7, d8, d9, d10, d11, d12, d13, d14, d15⟩ := D
  have ea : hi (hsi g (a + 14) m x) a 11 = nI m := by rw [hi_hsi_ne (by omega)]; exact e
  have eb : hi (hsi (hsi g (a + 14) m x) (a + 15) m y) a 11 = nI m := by rw [hi_hsi_ne (by omega)]; exact ea
  refine ⟨hsi (hsi (hsi g (a + 14) m x) (a + 15) m y) a 11 (nI (m + 1)), ?_, ((FRX.refl.si (Or.inr ⟨Or.inl rfl, Nat.le_refl _⟩)).si (Or.inr ⟨Or.inr rfl, Nat.le_refl _⟩)).si (Or.inl ⟨rfl, rfl⟩), hi_at, ?_, ?_, fun k hk' => ⟨?_, ?_⟩⟩
  · unfold f_d_addLeaf
    rw [e, nI_clamp (show m < 2 ^ 31 by omega)]
    refine o_pos ⟨by omega, d5⟩ (o_neg (by (first | (simp (maxSteps := 4000000) (disch := omega) only [n_0, n_1, n_2, n_3, n_4, n_5, n_6, n_7, n_8, n_9, n_10, n_11, n_12, n_13, n_14, n_15, n_16, n_18, n_20, n_24, n_31, n_32, n_34, n_40, n_41, n_44, n_45, n_47, n_48, n_57, n_58, n_59, n_61, n_63, n_64, n_65, n_68, n_90, n_91, n_93, n_95, n_97, n_100, n_122, n_123, n_125, n_128, n_144, n_200, n_255, n_256, n_300, n_400, n_600, n_1536, n_3980, n_4000, n_4001, n_4300, n_65536, l_0, l_1, l_2, l_3, l_4, l_10, l_48, l_63, l_255, l_300, nI_ltI, nI_leI, nI_eq, nI_clamp, nI_add, pk_sub, pk_mul, nI_ne1, ne1_nI, nI_pge, nI_nlt0, nI_l, lN_i, lN_add, lN_mul, lN_sub, pk_lLT, pk_lLE, pk_lEQ, lg_lt, lg_ge, lg_eq0, lg_le, lg_gt, lg_ltn, lg_gen, lg_eq0n, lg_len, lg_gtn, Nat.zero_le, Nat.not_lt_zero, not_false_eq_true, not_true_eq_false, true_and, and_true]; done) | (simp (maxSteps := 4000000) (disch := omega) only [n_0, n_1, n_2, n_3, n_4, n_5, n_6, n_7, n_8, n_9, n_10, n_11, n_12, n_13, n_14, n_15, n_16, n_18, n_20, n_24, n_31, n_32, n_34, n_40, n_41, n_44, n_45, n_47, n_48, n_57, n_58, n_59, n_61, n_63, n_64, n_65, n_68, n_90, n_91, n_93, n_95, n_97, n_100, n_122, n_123, n_125, n_128, n_144, n_200, n_255, n_256, n_300, n_400, n_600, n_1536, n_3980, n_4000, n_4001, n_4300, n_65536, l_0, l_1, l_2, l_3, l_4, l_10, l_48, l_63, l_255, l_300, nI_ltI, nI_leI, nI_eq, nI_clamp, nI_add, pk_sub, pk_mul, nI_ne1, ne1_nI, nI_pge, nI_nlt0, nI_l, lN_i, lN_add, lN_mul, lN_sub, pk_lLT, pk_lLE, pk_lEQ, lg_lt, lg_ge, lg_eq0, lg_le, lg_gt, lg_ltn, lg_gen, lg_eq0n, lg_len, lg_gtn, Nat.zero_le, Nat.not_lt_zero, not_false_eq_true, not_true_eq_false, true_and, and_true]; omega) | omega)) (o_bind d10 (o_pos ⟨by omega, d11⟩ ?_)))
    rw [d12]
    refine o_neg (by (first | (simp (maxSteps := 4000000) (disch := omega) only [n_0, n_1, n_2, n_3, n_4, n_5, n_6, n_7, n_8, n_9, n_10, n_11, n_12, n_13, n_14, n_15, n_16, n_18, n_20, n_24, n_31, n_32, n_34, n_40, n_41, n_44, n_45, n_47, n_48, n_57, n_58, n_59, n_61, n_63, n_64, n_65, n_68, n_90, n_91, n_93, n_95, n_97, n_100, n_122, n_123, n_125, n_128, n_144, n_200, n_255, n_256, n_300, n_400, n_600, n_1536, n_3980, n_4000, n_4001, n_4300, n_65536, l_0, l_1, l_2, l_3, l_4, l_10, l_48, l_63, l_255, l_300, nI_ltI, nI_leI, nI_eq, nI_clamp, nI_add, pk_sub, pk_mul, nI_ne1, ne1_nI, nI_pge, nI_nlt0, nI_l, lN_i, lN_add, lN_mul, lN_sub, pk_lLT, pk_lLE, pk_lEQ, lg_lt, lg_ge, lg_eq0, lg_le, lg_gt, lg_ltn, lg_gen, lg_eq0n, lg_len, lg_gtn, Nat.zero_le, Nat.not_lt_zero, not_false_eq_true, not_true_eq_false, true_and, and_true]; done) | (simp (maxSteps := 4000000) (disch := omega) only [n_0, n_1, n_2, n_3, n_4, n_5, n_6, n_7, n_8, n_9, n_10, n_11, n_12, n_13, n_14, n_15, n_16, n_18, n_20, n_24, n_31, n_32, n_34, n_40, n_41, n_44, n_45, n_47, n_48, n_57, n_58, n_59, n_61, n_63, n_64, n_65, n_68, n_90, n_91, n_93, n_95, n_97, n_100, n_122, n_123, n_125, n_128, n_144, n_200, n_255, n_256, n_300, n_400, n_600, n_1536, n_3980, n_4000, n_4001, n_4300, n_65536, l_0, l_1, l_2, l_3, l_4, l_10, l_48, l_63, l_255, l_300, nI_ltI, nI_leI, nI_eq, nI_clamp, nI_add, pk_sub, pk_mul, nI_ne1, ne1_nI, nI_pge, nI_nlt0, nI_l, lN_i, lN_add, lN_mul, lN_sub, pk_lLT, pk_lLE, pk_lEQ, lg_lt, lg_ge, lg_eq0, lg_le, lg_gt, lg_ltn, lg_gen, lg_eq0n, lg_len, lg_gtn, Nat.zero_le, Nat.not_lt_zero, not_false_eq_true, not_true_eq_false, true_and, and_true]; omega) | omega)) (o_bind d13 (o_pos ⟨by omega, d14⟩ ?_))
    rw [d15]
    refine o_neg (by (first | (simp (maxSteps := 4000000) (disch := omega) only [n_0, n_1, n_2, n_3, n_4, n_5, n_6, n_7, n_8, n_9, n_10, n_11, n_12, n_13, n_14, n_15, n_16, n_18, n_20, n_24, n_31, n_32, n_34, n_40, n_41, n_44, n_45, n_47, n_48, n_57, n_58, n_59, n_61, n_63, n_64, n_65, n_68, n_90, n_91, n_93, n_95, n_97, n_100, n_122, n_123, n_125, n_128, n_144, n_200, n_255, n_256, n_300, n_400, n_600, n_1536, n_3980, n_4000, n_4001, n_4300, n_65536, l_0, l_1, l_2, l_3, l_4, l_10, l_48, l_63, l_255, l_300, nI_ltI, nI_leI, nI_eq, nI_clamp, nI_add, pk_sub, pk_mul, nI_ne1, ne1_nI, nI_pge, nI_nlt0, nI_l, lN_i, lN_add, lN_mul, lN_sub, pk_lLT, pk_lLE, pk_lEQ, lg_lt, lg_ge, lg_eq0, lg_le, lg_gt, lg_ltn, lg_gen, lg_eq0n, lg_len, lg_gtn, Nat.zero_le, Nat.not_lt_zero, not_false_eq_true, not_true_eq_false, true_and, and_true]; done) | (simp (maxSteps := 4000000) (disch := omega) only [n_0, n_1, n_2, n_3, n_4, n_5, n_6, n_7, n_8, n_9, n_10, n_11, n_12, n_13, n_14, n_15, n_16, n_18, n_20, n_24, n_31, n_32, n_34, n_40, n_41, n_44, n_45, n_47, n_48, n_57, n_58, n_59, n_61, n_63, n_64, n_65, n_68, n_90, n_91, n_93, n_95, n_97, n_100, n_122, n_123, n_125, n_128, n_144, n_200, n_255, n_256, n_300, n_400, n_600, n_1536, n_3980, n_4000, n_4001, n_4300, n_65536, l_0, l_1, l_2, l_3, l_4, l_10, l_48, l_63, l_255, l_300, nI_ltI, nI_leI, nI_eq, nI_clamp, nI_add, pk_sub, pk_mul, nI_ne1, ne1_nI, nI_pge, nI_nlt0, nI_l, lN_i, lN_add, lN_mul, lN_sub, pk_lLT, pk_lLE, pk_lEQ, lg_lt, lg_ge, lg_eq0, lg_le, lg_gt, lg_ltn, lg_gen, lg_eq0n, lg_len, lg_gtn, Nat.zero_le, Nat.not_lt_zero, not_false_eq_true, not_true_eq_false, true_and, and_true]; omega) | omega)) (o_pos ⟨nI_pos' (by omega), by (first | (simp (maxSteps := 4000000) (disch := omega) only [n_0, n_1, n_2, n_3, n_4, n_5, n_6, n_7, n_8, n_9, n_10, n_11, n_12, n_13, n_14, n_15, n_16, n_18, n_20, n_24, n_31, n_32, n_34, n_40, n_41, n_44, n_45, n_47, n_48, n_57, n_58, n_59, n_61, n_63, n_64, n_65, n_68, n_90, n_91, n_93, n_95, n_97, n_100, n_122, n_123, n_125, n_128, n_144, n_200, n_255, n_256, n_300, n_400, n_600, n_1536, n_3980, n_4000, n_4001, n_4300, n_65536, l_0, l_1, l_2, l_3, l_4, l_10, l_48, l_63, l_255, l_300, nI_ltI, nI_leI, nI_eq, nI_clamp, nI_add, pk_sub, pk_mul, nI_ne1, ne1_nI, nI_pge, nI_nlt0, nI_l, lN_i, lN_add, lN_mul, lN_sub, pk_lLT, pk_lLE, pk_lEQ, lg_lt, lg_ge, lg_eq0, lg_le, lg_gt, lg_ltn, lg_gen, lg_eq0n, lg_len, lg_gtn, Nat.zero_le, Nat.not_lt_zero, not_false_eq_true, not_true_eq_false, true_and, and_true]; done) | (simp (maxSteps := 4000000) (disch := omega) only [n_0, n_1, n_2, n_3, n_4, n_5, n_6, n_7, n_8, n_9, n_10, n_11, n_12, n_13, n_14, n_15, n_16, n_18, n_20, n_24, n_31, n_32, n_34, n_40, n_41, n_44, n_45, n_47, n_48, n_57, n_58, n_59, n_61, n_63, n_64, n_65, n_68, n_90, n_91, n_93, n_95, n_97, n_100, n_122, n_123, n_125, n_128, n_144, n_200, n_255, n_256, n_300, n_400, n_600, n_1536, n_3980, n_4000, n_4001, n_4300, n_65536, l_0, l_1, l_2, l_3, l_4, l_10, l_48, l_63, l_255, l_300, nI_ltI, nI_leI, nI_eq, nI_clamp, nI_add, pk_sub, pk_mul, nI_ne1, ne1_nI, nI_pge, nI_nlt0, nI_l, lN_i, lN_add, lN_mul, lN_sub, pk_lLT, pk_lLE, pk_lEQ, lg_lt, lg_ge, lg_eq0, lg_le, lg_gt, lg_ltn, lg_gen, lg_eq0n, lg_len, lg_gtn, Nat.zero_le, Nat.not_lt_zero, not_false_eq_true, not_true_eq_false, true_and, and_true]; omega) | omega), by decide⟩ ?_)
    show (if 0 ≤ hi (hsi g (a + 14) m x) a 11 ∧ hi (hsi g (a + 14) m x) a 11 < nI 128 ∧ 128 < 2 ^ 31 then some ((), hsi (hsi (hsi g (a + 14) m x) (a + 15) (Int32.toNatClampNeg (hi (hsi g (a + 14) m x) a 11)) y) a 11 (hi (hsi (hsi g (a + 14) m x) (a + 15) (Int32.toNatClampNeg (hi (hsi g (a + 14) m x) a 11)) y) a 11 + 1)) else none) = _
    rw [ea, nI_clamp (show m < 2 ^ 31 by omega), eb, n_1, nI_add]
    exact o_pos ⟨nI_pos' (by omega), by (first | (simp (maxSteps := 4000000) (disch := omega) only [n_0, n_1, n_2, n_3, n_4, n_5, n_6, n_7, n_8, n_9, n_10, n_11, n_12, n_13, n_14, n_15, n_16, n_18, n_20, n_24, n_31, n_32, n_34, n_40, n_41, n_44, n_45, n_47, n_48, n_57, n_58, n_59, n_61, n_63, n_64, n_65, n_68, n_90, n_91, n_93, n_95, n_97, n_100, n_122, n_123, n_125, n_128, n_144, n_200, n_255, n_256, n_300, n_400, n_600, n_1536, n_3980, n_4000, n_4001, n_4300, n_65536, l_0, l_1, l_2, l_3, l_4, l_10, l_48, l_63, l_255, l_300, nI_ltI, nI_leI, nI_eq, nI_clamp, nI_add, pk_sub, pk_mul, nI_ne1, ne1_nI, nI_pge, nI_nlt0, nI_l, lN_i, lN_add, lN_mul, lN_sub, pk_lLT, pk_lLE, pk_lEQ, lg_lt, lg_ge, lg_eq0, lg_le, lg_gt, lg_ltn, lg_gen, lg_eq0n, lg_len, lg_gtn, Nat.zero_le, Nat.not_lt_zero, not_false_eq_true, not_true_eq_false, true_and, and_true]; done) | (simp (maxSteps := 4000000) (disch := omega) only [n_0, n_1, n_2, n_3, n_4, n_5, n_6, n_7, n_8, n_9, n_10, n_11, n_12, n_13, n_14, n_15, n_16, n_18, n_20, n_24, n_31, n_32, n_34, n_40, n_41, n_44, n_45, n_47, n_48, n_57, n_58, n_59, n_61, n_63, n_64, n_65, n_68, n_90, n_91, n_93, n_95, n_97, n_100, n_122, n_123, n_125, n_128, n_144, n_200, n_255, n_256, n_300, n_400, n_600, n_1536, n_3980, n_4000, n_4001, n_4300, n_65536, l_0, l_1, l_2, l_3, l_4, l_10, l_48, l_63, l_255, l_300, nI_ltI, nI_leI, nI_eq, nI_clamp, nI_add, pk_sub, pk_mul, nI_ne1, ne1_nI, nI_pge, nI_nlt0, nI_l, lN_i, lN_add, lN_mul, lN_sub, pk_lLT, pk_lLE, pk_lEQ, lg_lt, lg_ge, lg_eq0, lg_le, lg_gt, lg_ltn, lg_gen, lg_eq0n, lg_len, lg_gtn, Nat.zero_le, Nat.not_lt_zero, not_false_eq_true, not_true_eq_false, true_and, and_true]; omega) | omega), by decide⟩ rfl
  · rw [hi_hsi_ne (by omega), hi_hsi_ne (by omega), hi_at]
  · rw [hi_hsi_ne (by omega), hi_at]
  · rw [hi_hsi_ne (by omega), hi_hsi_ne (by omega), hi_nk hk']
  · rw [hi_hsi_ne (by omega), hi_nk hk', hi_hsi_ne (by omega)]
theorem e_d_addLeavesOf {a b M B pl : Nat} {l q : Nat → Nat} (ab : b + 16 ≤ a) (hM : M ≤ 128) (hB : B + M ≤ 128) : ∀ (m i fuel : Nat) (g : XH), i + m = M → m < fuel → DF g a 12 128 → DF g b 12 128 → hi g b 11 = nI M → (∀ k, k < M → hi g (b + 14) k = nI (l k) ∧ hi g (b + 15) k = nI (q k)) → hi g a 11 = nI (B + i) → ∃ u, b_d_addLeavesOf_2 fuel a b (nI pl) (nI i) g = some ((), u) ∧ FRX (lfP a (B + i)) nW nW g u ∧ hi u a 11 = nI (B + M) ∧ ∀ k, i ≤ k → k < M → hi u (a + 14) (B + k) = nI (l k) ∧ hi u (a + 15) (B + k) = nI (pl + q k) := by
  intro m
  induction m with
  | zero =>
    intro i fuel g e hf D D2 eM el e11
    obtain ⟨f, rfl, -⟩ := fuel_pos hf
    have ei : i = M := by omega
    subst ei
    refine ⟨g, ?_, FRX.refl, e11, fun k h1 h2 => by omega⟩
    show s_d_addLeavesOf_2 (b_d_addLeavesOf_2 f) _ _ _ _ _ = _
    unfold s_d_addLeavesOf_2
    rw [eM]
    exact o_pos ⟨by have := D2.1; omega, D2.2.2.2.2.1⟩ (o_pos (Int32.le_refl _) rfl)
  | succ m ih =>
    intro i fuel g e hf D D2 eM el e11
    obtain ⟨f, rfl, -⟩ := fuel_pos hf
    have bk : b < hz g ∧ hk g b = 2 := ⟨by have := D2.1; omega, D2.2.2.2.2.1⟩
    have ak : a < hz g ∧ hk g a = 2 := ⟨by have := D.1; omega, D.2.2.2.2.1⟩
    have ls : f_d_leafScalar b (nI i) g = some (nI (l i), g) := by
      obtain ⟨d1, d2, d3, d4, d5, d6, d7, d8, d9, d10, d11, d12, d13, d14, d15⟩ := D2
      unfold f_d_leafScalar
      rw [nI_clamp (show i < 2 ^ 31 by omega)]
      refine o_neg (by (first | (simp (maxSteps := 4000000) (disch := omega) only [n_0, n_1, n_2, n_3, n_4, n_5, n_6, n_7, n_8, n_9, n_10, n_11, n_12, n_13, n_14, n_15, n_16, n_18, n_20, n_24, n_31, n_32, n_34, n_40, n_41, n_44, n_45, n_47, n_48, n_57, n_58, n_59, n_61, n_63, n_64, n_65, n_68, n_90, n_91, n_93, n_95, n_97, n_100, n_122, n_123, n_125, n_128, n_144, n_200, n_255, n_256, n_300, n_400, n_600, n_1536, n_3980, n_4000, n_4001, n_4300, n_65536, l_0, l_1, l_2, l_3, l_4, l_10, l_48, l_63, l_255, l_300, nI_ltI, nI_leI, nI_eq, nI_clamp, nI_add, pk_sub, pk_mul, nI_ne1, ne1_nI, nI_pge, nI_nlt0, nI_l, lN_i, lN_add, lN_mul, lN_sub, pk_lLT, pk_lLE, pk_lEQ, lg_lt, lg_ge, lg_eq0, lg_le, lg_gt, lg_ltn, lg_gen, lg_eq0n, lg_len, lg_gtn, Nat.zero_le, Nat.not_lt_zero, not_false_eq_true, not_true_eq_false, true_and, and_true]; done) | (simp (maxSteps := 4000000) (disch := omega) only [n_0, n_1, n_2, n_3, n_4, n_5, n_6, n_7, n_8, n_9, n_10, n_11, n_12, n_13, n_14, n_15, n_16, n_18, n_20, n_24, n_31, n_32, n_34, n_40, n_41, n_44, n_45, n_47, n_48, n_57, n_58, n_59, n_61, n_63, n_64, n_65, n_68, n_90, n_91, n_93, n_95, n_97, n_100, n_122, n_123, n_125, n_128, n_144, n_200, n_255, n_256, n_300, n_400, n_600, n_1536, n_3980, n_4000, n_4001, n_4300, n_65536, l_0, l_1, l_2, l_3, l_4, l_10, l_48, l_63, l_255, l_300, nI_ltI, nI_leI, nI_eq, nI_clamp, nI_add, pk_sub, pk_mul, nI_ne1, ne1_nI, nI_pge, nI_nlt0, nI_l, lN_i, lN_add, lN_mul, lN_sub, pk_lLT, pk_lLE, pk_lEQ, lg_lt, lg_ge, lg_eq0, lg_le, lg_gt, lg_ltn, lg_gen, lg_eq0n, lg_len, lg_gtn, Nat.zero_le, Nat.not_lt_zero, not_false_eq_true, not_true_eq_false, true_and, and_true]; omega) | omega)) (o_pos bk (o_bind d10 (o_pos ⟨by omega, d11⟩ ?_)))
      rw [d12]
      refine o_neg (by (first | (simp (maxSteps := 4000000) (disch := omega) only [n_0, n_1, n_2, n_3, n_4, n_5, n_6, n_7, n_8, n_9, n_10, n_11, n_12, n_13, n_14, n_15, n_16, n_18, n_20, n_24, n_31, n_32, n_34, n_40, n_41, n_44, n_45, n_47, n_48, n_57, n_58, n_59, n_61, n_63, n_64, n_65, n_68, n_90, n_91, n_93, n_95, n_97, n_100, n_122, n_123, n_125, n_128, n_144, n_200, n_255, n_256, n_300, n_400, n_600, n_1536, n_3980, n_4000, n_4001, n_4300, n_65536, l_0, l_1, l_2, l_3, l_4, l_10, l_48, l_63, l_255, l_300, nI_ltI, nI_leI, nI_eq, nI_clamp, nI_add, pk_sub, pk_mul, nI_ne1, ne1_nI, nI_pge, nI_nlt0, nI_l, lN_i, lN_add, lN_mul, lN_sub, pk_lLT, pk_lLE, pk_lEQ, lg_lt, lg_ge, lg_eq0, lg_le, lg_gt, lg_ltn, lg_gen, lg_eq0n, lg_len, lg_gtn, Nat.zero_le, Nat.not_lt_zero, not_false_eq_true, not_true_eq_false, true_and, and_true]; done) | (simp (maxSteps := 4000000) (disch := omega) only [n_0, n_1, n_2, n_3, n_4, n_5, n_6, n_7, n_8, n_9, n_10, n_11, n_12, n_13, n_14, n_15, n_16, n_18, n_20, n_24, n_31, n_32, n_34, n_40, n_41, n_44, n_45, n_47, n_48, n_57, n_58, n_59, n_61, n_63, n_64, n_65, n_68, n_90, n_91, n_93, n_95, n_97, n_100, n_122, n_123, n_125, n_128, n_144, n_200, n_255, n_256, n_300, n_400, n_600, n_1536, n_3980, n_4000, n_4001, n_4300, n_65536, l_0, l_1, l_2, l_3, l_4, l_10, l_48, l_63, l_255, l_300, nI_ltI, nI_leI, nI_eq, nI_clamp, nI_add, pk_sub, pk_mul, nI_ne1, ne1_nI, nI_pge, nI_nlt0, nI_l, lN_i, lN_add, lN_mul, lN_sub, pk_lLT, pk_lLE, pk_lEQ, lg_lt, lg_ge, lg_eq0, lg_le, lg_gt, lg_ltn, lg_gen, lg_eq0n, lg_len, lg_gtn, Nat.zero_le, Nat.not_lt_zero, not_false_eq_true, not_true_eq_false, true_and, and_true]; omega) | omega)) (o_pos ⟨nI_pos' (by omega), by (first | (simp (maxSteps := 4000000) (disch := omega) only [n_0, n_1, n_2, n_3, n_4, n_5, n_6, n_7, n_8, n_9, n_10, n_11, n_12, n_13, n_14, n_15, n_16, n_18, n_20, n_24, n_31, n_32, n_34, n_40, n_41, n_44, n_45, n_47, n_48, n_57, n_58, n_59, n_61, n_63, n_64, n_65, n_68, n_90, n_91, n_93, n_95, n_97, n_100, n_122, n_123, n_125, n_128, n_144, n_200, n_255, n_256, n_300, n_400, n_600, n_1536, n_3980, n_4000, n_4001, n_4300, n_65536, l_0, l_1, l_2, l_3, l_4, l_10, l_48, l_63, l_255, l_300, nI_ltI, nI_leI, nI_eq, nI_clamp, nI_add, pk_sub, pk_mul, nI_ne1, ne1_nI, nI_pge, nI_nlt0, nI_l, lN_i, lN_add, lN_mul, lN_sub, pk_lLT, pk_lLE, pk_lEQ, lg_lt, lg_ge, lg_eq0, lg_le, lg_gt, lg_ltn, lg_gen, lg_eq0n, lg_len, lg_gtn, Nat.zero_le, Nat.not_lt_zero, not_false_eq_true, not_true_eq_false, true_and, and_true]; done) | (simp (maxSteps := 4000000) (disch := omega) only [n_0, n_1, n_2, n_3, n_4, n_5, n_6, n_7, n_8, n_9, n_10, n_11, n_12, n_13, n_14, n_15, n_16, n_18, n_20, n_24, n_31, n_32, n_34, n_40, n_41, n_44, n_45, n_47, n_48, n_57, n_58, n_59, n_61, n_63, n_64, n_65, n_68, n_90, n_91, n_93, n_95, n_97, n_100, n_122, n_123, n_125, n_128, n_144, n_200, n_255, n_256, n_300, n_400, n_600, n_1536, n_3980, n_4000, n_4001, n_4300, n_65536, l_0, l_1, l_2, l_3, l_4, l_10, l_48, l_63, l_255, l_300, nI_ltI, nI_leI, nI_eq, nI_clamp, nI_add, pk_sub, pk_mul, nI_ne1, ne1_nI, nI_pge, nI_nlt0, nI_l, lN_i, lN_add, lN_mul, lN_sub, pk_lLT, pk_lLE, pk_lEQ, lg_lt, lg_ge, lg_eq0, lg_le, lg_gt, lg_ltn, lg_gen, lg_eq0n, lg_len, lg_gtn, Nat.zero_le, Nat.not_lt_zero, not_false_eq_true, not_true_eq_false, true_and, and_true]; omega) | omega), by decide⟩ ?_)
      show some (hi g (b + 14) i, g) = _
      rw [(el i (by omega)).1]
    have lp : f_d_leafPlace b (nI i) g = some (nI (q i), g) := by
      obtain ⟨d1, d2, d3, d4, d5, d6, d7, d8, d9, d10, d11, d12, d13, d14, d15⟩ := D2
      unfold f_d_leafPlace
      rw [nI_clamp (show i < 2 ^ 31 by omega)]
      refine o_neg (by (first | (simp (maxSteps := 4000000) (disch := omega) only [n_0, n_1, n_2, n_3, n_4, n_5, n_6, n_7, n_8, n_9, n_10, n_11, n_12, n_13, n_14, n_15, n_16, n_18, n_20, n_24, n_31, n_32, n_34, n_40, n_41, n_44, n_45, n_47, n_48, n_57, n_58, n_59, n_61, n_63, n_64, n_65, n_68, n_90, n_91, n_93, n_95, n_97, n_100, n_122, n_123, n_125, n_128, n_144, n_200, n_255, n_256, n_300, n_400, n_600, n_1536, n_3980, n_4000, n_4001, n_4300, n_65536, l_0, l_1, l_2, l_3, l_4, l_10, l_48, l_63, l_255, l_300, nI_ltI, nI_leI, nI_eq, nI_clamp, nI_add, pk_sub, pk_mul, nI_ne1, ne1_nI, nI_pge, nI_nlt0, nI_l, lN_i, lN_add, lN_mul, lN_sub, pk_lLT, pk_lLE, pk_lEQ, lg_lt, lg_ge, lg_eq0, lg_le, lg_gt, lg_ltn, lg_gen, lg_eq0n, lg_len, lg_gtn, Nat.zero_le, Nat.not_lt_zero, not_false_eq_true, not_true_eq_false, true_and, and_true]; done) | (simp (maxSteps := 4000000) (disch := omega) only [n_0, n_1, n_2, n_3, n_4, n_5, n_6, n_7, n_8, n_9, n_10, n_11, n_12, n_13, n_14, n_15, n_16, n_18, n_20, n_24, n_31, n_32, n_34, n_40, n_41, n_44, n_45, n_47, n_48, n_57, n_58, n_59, n_61, n_63, n_64, n_65, n_68, n_90, n_91, n_93, n_95, n_97, n_100, n_122, n_123, n_125, n_128, n_144, n_200, n_255, n_256, n_300, n_400, n_600, n_1536, n_3980, n_4000, n_4001, n_4300, n_65536, l_0, l_1, l_2, l_3, l_4, l_10, l_48, l_63, l_255, l_300, nI_ltI, nI_leI, nI_eq, nI_clamp, nI_add, pk_sub, pk_mul, nI_ne1, ne1_nI, nI_pge, nI_nlt0, nI_l, lN_i, lN_add, lN_mul, lN_sub, pk_lLT, pk_lLE, pk_lEQ, lg_lt, lg_ge, lg_eq0, lg_le, lg_gt, lg_ltn, lg_gen, lg_eq0n, lg_len, lg_gtn, Nat.zero_le, Nat.not_lt_zero, not_false_eq_true, not_true_eq_false, true_and, and_true]; omega) | omega)) (o_pos bk (o_bind d13 (o_pos ⟨by omega, d14⟩ ?_)))
      rw [d15]
      refine o_neg (by (first | (simp (maxSteps := 4000000) (disch := omega) only [n_0, n_1, n_2, n_3, n_4, n_5, n_6, n_7, n_8, n_9, n_10, n_11, n_12, n_13, n_14, n_15, n_16, n_18, n_20, n_24, n_31, n_32, n_34, n_40, n_41, n_44, n_45, n_47, n_48, n_57, n_58, n_59, n_61, n_63, n_64, n_65, n_68, n_90, n_91, n_93, n_95, n_97, n_100, n_122, n_123, n_125, n_128, n_144, n_200, n_255, n_256, n_300, n_400, n_600, n_1536, n_3980, n_4000, n_4001, n_4300, n_65536, l_0, l_1, l_2, l_3, l_4, l_10, l_48, l_63, l_255, l_300, nI_ltI, nI_leI, nI_eq, nI_clamp, nI_add, pk_sub, pk_mul, nI_ne1, ne1_nI, nI_pge, nI_nlt0, nI_l, lN_i, lN_add, lN_mul, lN_sub, pk_lLT, pk_lLE, pk_lEQ, lg_lt, lg_ge, lg_eq0, lg_le, lg_gt, lg_ltn, lg_gen, lg_eq0n, lg_len, lg_gtn, Nat.zero_le, Nat.not_lt_zero, not_false_eq_true, not_true_eq_false, true_and, and_true]; done) | (simp (maxSteps := 4000000) (disch := omega) only [n_0, n_1, n_2, n_3, n_4, n_5, n_6, n_7, n_8, n_9, n_10, n_11, n_12, n_13, n_14, n_15, n_16, n_18, n_20, n_24, n_31, n_32, n_34, n_40, n_41, n_44, n_45, n_47, n_48, n_57, n_58, n_59, n_61, n_63, n_64, n_65, n_68, n_90, n_91, n_93, n_95, n_97, n_100, n_122, n_123, n_125, n_128, n_144, n_200, n_255, n_256, n_300, n_400, n_600, n_1536, n_3980, n_4000, n_4001, n_4300, n_65536, l_0, l_1, l_2, l_3, l_4, l_10, l_48, l_63, l_255, l_300, nI_ltI, nI_leI, nI_eq, nI_clamp, nI_add, pk_sub, pk_mul, nI_ne1, ne1_nI, nI_pge, nI_nlt0, nI_l, lN_i, lN_add, lN_mul, lN_sub, pk_lLT, pk_lLE, pk_lEQ, lg_lt, lg_ge, lg_eq0, lg_le, lg_gt, lg_ltn, lg_gen, lg_eq0n, lg_len, lg_gtn, Nat.zero_le, Nat.not_lt_zero, not_false_eq_true, not_true_eq_false, true_and, and_true]; omega) | omega)) (o_pos ⟨nI_pos' (by omega), by (first | (simp (maxSteps := 4000000) (disch := omega) only [n_0, n_1, n_2, n_3, n_4, n_5, n_6, n_7, n_8, n_9, n_10, n_11, n_12, n_13, n_14, n_15, n_16, n_18, n_20, n_24, n_31, n_32, n_34, n_40, n_41, n_44, n_45, n_47, n_48, n_57, n_58, n_59, n_61, n_63, n_64, n_65, n_68, n_90, n_91, n_93, n_95, n_97, n_100, n_122, n_123, n_125, n_128, n_144, n_200, n_255, n_256, n_300, n_400, n_600, n_1536, n_3980, n_4000, n_4001, n_4300, n_65536, l_0, l_1, l_2, l_3, l_4, l_10, l_48, l_63, l_255, l_300, nI_ltI, nI_leI, nI_eq, nI_clamp, nI_add, pk_sub, pk_mul, nI_ne1, ne1_nI, nI_pge, nI_nlt0, nI_l, lN_i, lN_add, lN_mul, lN_sub, pk_lLT, pk_lLE, pk_lEQ, lg_lt, lg_ge, lg_eq0, lg_le, lg_gt, lg_ltn, lg_gen, lg_eq0n, lg_len, lg_gtn, Nat.zero_le, Nat.not_lt_zero, not_false_eq_true, not_true_eq_false, true_and, and_true]; done) | (simp (maxSteps := 4000000) (disch := omega) only [n_0, n_1, n_2, n_3, n_4, n_5, n_6, n_7, n_8, n_9, n_10, n_11, n_12, n_13, n_14, n_15, n_16, n_18, n_20, n_24, n_31, n_32, n_34, n_40, n_41, n_44, n_45, n_47, n_48, n_57, n_58, n_59, n_61, n_63, n_64, n_65, n_68, n_90, n_91, n_93, n_95, n_97, n_100, n_122, n_123, n_125, n_128, n_144, n_200, n_255, n_256, n_300, n_400, n_600, n_1536, n_3980, n_4000, n_4001, n_4300, n_65536, l_0, l_1, l_2, l_3, l_4, l_10, l_48, l_63, l_255, l_300, nI_ltI, nI_leI, nI_eq, nI_clamp, nI_add, pk_sub, pk_mul, nI_ne1, ne1_nI, nI_pge, nI_nlt0, nI_l, lN_i, lN_add, lN_mul, lN_sub, pk_lLT, pk_lLE, pk_lEQ, lg_lt, lg_ge, lg_eq0, lg_le, lg_gt, lg_ltn, lg_gen, lg_eq0n, lg_len, lg_gtn, Nat.zero_le, Nat.not_lt_zero, not_false_eq_true, not_true_eq_false, true_and, and_true]; omega) | omega), by decide⟩ ?_)
      show some (hi g (b + 15) i, g) = _
      rw [(el i (by omega)).2]
    obtain ⟨v, v1, v2, v3, v4, v5, v6⟩ := e_d_addLeaf (x := nI (l i)) (y := nI pl + nI (q i)) D e11 (by omega)
    obtain ⟨u, r1, r2, r3, r4⟩ := ih (i + 1) f v (by omega) (by omega) (D.frx v2 fun _ _ _ _ z => z) (D2.frx v2 fun _ _ _ _ z => z) (by rw [v2.at (by unfold lfP; omega)]; exact eM) (fun k hk' => by rw [v2.at (by unfold lfP; omega), v2.at (by unfold lfP; omega)]; exact el k hk') v3
    refine ⟨u, ?_, v2.trans (r2.mono (fun a' k z => by unfold lfP at z ⊢; omega) (fun _ _ z => z) (fun _ _ z => z)), r3, fun k h1 h2 => ?_⟩
    · show s_d_addLeavesOf_2 (b_d_addLeavesOf_2 f) _ _ _ _ _ = _
      unfold s_d_addLeavesOf_2
      rw [eM]
      refine o_pos bk (o_neg (by (first | (simp (maxSteps := 4000000) (disch := omega) only [n_0, n_1, n_2, n_3, n_4, n_5, n_6, n_7, n_8, n_9, n_10, n_11, n_12, n_13, n_14, n_15, n_16, n_18, n_20, n_24, n_31, n_32, n_34, n_40, n_41, n_44, n_45, n_47, n_48, n_57, n_58, n_59, n_61, n_63, n_64, n_65, n_68, n_90, n_91, n_93, n_95, n_97, n_100, n_122, n_123, n_125, n_128, n_144, n_200, n_255, n_256, n_300, n_400, n_600, n_1536, n_3980, n_4000, n_4001, n_4300, n_65536, l_0, l_1, l_2, l_3, l_4, l_10, l_48, l_63, l_255, l_300, nI_ltI, nI_leI, nI_eq, nI_clamp, nI_add, pk_sub, pk_mul, nI_ne1, ne1_nI, nI_pge, nI_nlt0, nI_l, lN_i, lN_add, lN_mul, lN_sub, pk_lLT, pk_lLE, pk_lEQ, lg_lt, lg_ge, lg_eq0, lg_le, lg_gt, lg_ltn, lg_gen, lg_eq0n, lg_len, lg_gtn, Nat.zero_le, Nat.not_lt_zero, not_false_eq_true, not_true_eq_false, true_and, and_true]; done) | (simp (maxSteps := 4000000) (disch := omega) only [n_0, n_1, n_2, n_3, n_4, n_5, n_6, n_7, n_8, n_9, n_10, n_11, n_12, n_13, n_14, n_15, n_16, n_18, n_20, n_24, n_31, n_32, n_34, n_40, n_41, n_44, n_45, n_47, n_48, n_57, n_58, n_59, n_61, n_63, n_64, n_65, n_68, n_90, n_91, n_93, n_95, n_97, n_100, n_122, n_123, n_125, n_128, n_144, n_200, n_255, n_256, n_300, n_400, n_600, n_1536, n_3980, n_4000, n_4001, n_4300, n_65536, l_0, l_1, l_2, l_3, l_4, l_10, l_48, l_63, l_255, l_300, nI_ltI, nI_leI, nI_eq, nI_clamp, nI_add, pk_sub, pk_mul, nI_ne1, ne1_nI, nI_pge, nI_nlt0, nI_l, lN_i, lN_add, lN_mul, lN_sub, pk_lLT, pk_lLE, pk_lEQ, lg_lt, lg_ge, lg_eq0, lg_le, lg_gt, lg_ltn, lg_gen, lg_eq0n, lg_len, lg_gtn, Nat.zero_le, Nat.not_lt_zero, not_false_eq_true, not_true_eq_false, true_and, and_true]; omega) | omega)) (o_bind ls (o_pos bk (o_bind lp (o_pos ak (o_bind v1 ?_))))))
      rw [n_1, nI_add]
      exact r1
    · by_cases c : k = i
      · subst c
        rw [r2.at (by unfold lfP; omega), r2.at (by unfold lfP; omega), v4, v5, nI_add]
        exact ⟨rfl, rfl⟩
      · exact r4 k (by omega) h2
/-- the leaves of all fields -/
theorem e_p_findLeaves {es : Nat} (O : OLP ns zS aS mS lS pS) (Q : FO so o ns n) (hn' : n ≤ 12) (l1 : ns ≤ es) (l2 : es ≤ 12) (l3 : ns < 12) (z128 : Zf so o zS aS n ≤ 128) : ∀ (m j fuel : Nat) (g : XH), j + m = n → m < fuel → PO g t S → OLC S ns zS aS mS lS pS g → hi g (S + 1) 1 = nI es → hi g (dS S ns) 3 = nI n → hi g (dS S ns) 11 = nI (Mf so o mS j) → (∀ i, i < n → hi g (dS S ns + 2 + i) 3 = nI (so i) ∧ hi g (dS S ns + 2 + i) 4 = nI (o i) ∧ hi g (dS S ns + 2 + i) 6 = nI (Pf so o zS aS i)) → ∃ u, b_p_findLeaves_2 fuel t (dS S ns) (nI j) g = some ((), u) ∧ FRX (lfP (dS S ns) (Mf so o mS j)) nW nW g u ∧ hi u (dS S ns) 11 = nI (Mf so o mS n) ∧ ∀ i, j ≤ i → i < n → ∀ k, k < ct so o mS i → hi u (dS S ns + 14) (Mf so o mS i + k) = nI (lfv so o lS i k) ∧ hi u (dS S ns + 15) (Mf so o mS i + k) = nI (Pf so o zS aS i + pv so o pS i k) := by
  intro m
  induction m with
  | zero =>
    intro j fuel g e hf P C e1 e3 e11 ef
    obtain ⟨f, rfl, -⟩ := fuel_pos hf
    have L : SC g S := by
      rcases P.2.2.2.1 with q | q <;> subst q
      · exact P.1.2.2.2.2.2.1
      · exact P.1.2.2.2.2.2.2
    have D := L.ddS (s := ns) l3
    have ej : j = n := by omega
    subst ej
    refine ⟨g, ?_, FRX.refl, e11, fun i h1 h2 => by omega⟩
    show s_p_findLeaves_2 (b_p_findLeaves_2 f) _ _ _ _ = _
    unfold s_p_findLeaves_2
    rw [e3]
    exact o_pos ⟨by have := D.1; omega, D.2.2.2.2.1⟩ (o_pos (Int32.le_refl _) rfl)
  | succ m ih =>
    intro j fuel g e hf P C e1 e3 e11 ef
    obtain ⟨f, rfl, -⟩ := fuel_pos hf
    have S1 := P.2.2.2.1
    have t17 := P.2.1
    have L : SC g S := by
      rcases P.2.2.2.1 with q | q <;> subst q
      · exact P.1.2.2.2.2.2.1
      · exact P.1.2.2.2.2.2.2
    have D := L.ddS (s := ns) l3
    have d1 : dS S ns < hz g ∧ hk g (dS S ns) = 2 := ⟨by have := D.1; omega, D.2.2.2.2.1⟩
    have f1 : dS S ns + 2 + j < hz g ∧ hk g (dS S ns + 2 + j) = 3 := ⟨by have := D.1; omega, (D.2.2.2.2.2.2.2.2.1 j (by omega)).2⟩
    have s9 : S < hz g ∧ hk g S = 9 := ⟨by have := L.1; omega, L.2.2.1⟩
    have s4 : S + 1 < hz g ∧ hk g (S + 1) = 4 := ⟨by have := L.1; omega, L.gS.2.2.2.1⟩
    have ml := Mf_le O Q (j + 1) (by omega)
    have zm := Zf_mono O Q m (j + 1) (by omega)
    rw [show j + 1 + m = n by omega] at zm
    have me : Mf so o mS (j + 1) = Mf so o mS j + ct so o mS j := rfl
    obtain ⟨f3, f4, f6⟩ := ef j (by omega)
    have key : ∃ v, f_p_addLeaves t (dS S ns) (dS S ns + 2 + j) g = some ((), v) ∧ FRX (lfP (dS S ns) (Mf so o mS j)) nW nW g v ∧ hi v (dS S ns) 11 = nI (Mf so o mS (j + 1)) ∧ ∀ k, k < ct so o mS j → hi v (dS S ns + 14) (Mf so o mS j + k) = nI (lfv so o lS j k) ∧ hi v (dS S ns + 15) (Mf so o mS j + k) = nI (Pf so o zS aS j + pv so o pS j k) := by
      rcases Q j (by omega) with ⟨q1, q2⟩ | ⟨q1, q2⟩
      · have c1 : ct so o mS j = 1 := by unfold ct; rw [if_pos q1]
        obtain ⟨v, v1, v2, v3, v4, v5, v6⟩ := e_d_addLeaf (x := nI (o j)) (y := nI (Pf so o zS aS j)) D e11 (by omega)
        refine ⟨v, ?_, v2, by rw [me, c1]; exact v3, fun k hk' => ?_⟩
        · unfold f_p_addLeaves b_p_addLeaves_26
          rw [f3, q1]
          exact o_pos f1 (o_pos (by decide) (o_elimn (o_pos f1 (o_pos d1 (o_bind (by rw [f4, f6]; exact v1) rfl)))))
        · have : k = 0 := by omega
          subst this
          unfold lfv pv
          rw [if_pos q1, if_pos q1]
          exact ⟨v4, v5⟩
      · have c1 : ct so o mS j = mS (o j) := by unfold ct; rw [if_neg (by omega)]
        have op := O (o j) q2
        have oc := C (o j) q2
        have D2 := L.ddS (s := o j) (by omega)
        obtain ⟨v, v1, v2, v3, v4⟩ := e_d_addLeavesOf (pl := Pf so o zS aS j) (B := Mf so o mS j) (M := mS (o j)) (l := lS (o j)) (q := pS (o j)) (show dS S (o j) + 16 ≤ dS S ns by unfold dS; omega) (by omega) (by omega) (mS (o j)) 0 100000 g (by omega) (by omega) D D2 oc.1.2.2 oc.2 e11
        have at' : f_g_at (S + 1) (nI (o j)) g = some (some (dS S (o j)), g) := e_g_at L.gS e1 l2 (by omega)
        refine ⟨v, ?_, v2, by rw [me, c1]; exact v3, fun k hk' => ?_⟩
        · unfold f_p_addLeaves b_p_addLeaves_26
          rw [← f6] at v1
          rw [← f4] at at'
          rw [f3, q1]
          exact o_pos f1 (o_neg (not_not_intro rfl) (o_pos P.tk (o_bind P.2.2.2.2.2.2.1 (o_pos s9 (o_bind L.2.2.2.1 (o_pos s4 (o_bind at' (o_elim (o_pos f1 (o_pos d1 (o_bind v1 rfl)))))))))))
        · unfold lfv pv
          rw [if_neg (by omega), if_neg (by omega)]
          exact v4 k (Nat.zero_le k) (by omega)
    obtain ⟨v, v1, v2, v3, v4⟩ := key
    have dn : ∀ s, s < ns → dS S s + 16 ≤ dS S ns := fun s hs => by unfold dS; omega
    have sn : S + 1 < dS S ns := by unfold dS; omega
    obtain ⟨u, r1, r2, r3, r4⟩ := ih (j + 1) f v (by omega) (by omega) (by
        refine ⟨P.1.frx v2 fun _ _ _ _ z => z, P.2.1, by rw [v2.1.1]; exact P.2.2.1, S1, ?_⟩
        have tz : 1317 ≤ t := P.2.1
        rw [v2.1.2.2.1, v2.1.2.2.2, v2.rf id, v2.rf id, v2.rf id, v2.rf id, v2.at (a := t) (k := 7) (by unfold lfP dS; omega), v2.at (a := t) (k := 8) (by unfold lfP dS; omega)]
        exact P.2.2.2.2) (by
        intro s hs
        have := dn s hs
        have w : ∀ a' k, a' ≤ dS S s + 15 → hi v a' k = hi g a' k := fun a' k ha => v2.at (by unfold lfP; omega)
        rw [w _ _ (by omega), w _ _ (by omega), w _ _ (by omega)]
        exact ⟨(C s hs).1, fun k hk' => by rw [w _ _ (by omega), w _ _ (by omega)]; exact (C s hs).2 k hk'⟩) (by rw [v2.at (by unfold lfP; omega)]; exact e1) (by rw [v2.at (by unfold lfP; omega)]; exact e3) v3 (fun i hi' => by rw [v2.at (by unfold lfP; omega), v2.at (by unfold lfP; omega), v2.at (by unfold lfP; omega)]; exact ef i hi')
    refine ⟨u, ?_, v2.trans (r2.mono (fun a' k z => by unfold lfP at z ⊢; omega) (fun _ _ z => z) (fun _ _ z => z)), r3, fun i h1 h2 k hk' => ?_⟩
    · show s_p_findLeaves_2 (b_p_findLeaves_2 f) _ _ _ _ = _
      unfold s_p_findLeaves_2 b_p_findLeaves_26
      rw [e3]
      refine o_pos d1 (o_neg (by (first | (simp (maxSteps := 4000000) (disch := omega) only [n_0, n_1, n_2, n_3, n_4, n_5, n_6, n_7, n_8, n_9, n_10, n_11, n_12, n_13, n_14, n_15, n_16, n_18, n_20, n_24, n_31, n_32, n_34, n_40, n_41, n_44, n_45, n_47, n_48, n_57, n_58, n_59, n_61, n_63, n_64, n_65, n_68, n_90, n_91, n_93, n_95, n_97, n_100, n_122, n_123, n_125, n_128, n_144, n_200, n_255, n_256, n_300, n_400, n_600, n_1536, n_3980, n_4000, n_4001, n_4300, n_65536, l_0, l_1, l_2, l_3, l_4, l_10, l_48, l_63, l_255, l_300, nI_ltI, nI_leI, nI_eq, nI_clamp, nI_add, pk_sub, pk_mul, nI_ne1, ne1_nI, nI_pge, nI_nlt0, nI_l, lN_i, lN_add, lN_mul, lN_sub, pk_lLT, pk_lLE, pk_lEQ, lg_lt, lg_ge, lg_eq0, lg_le, lg_gt, lg_ltn, lg_gen, lg_eq0n, lg_len, lg_gtn, Nat.zero_le, Nat.not_lt_zero, not_false_eq_true, not_true_eq_false, true_and, and_true]; done) | (simp (maxSteps := 4000000) (disch := omega) only [n_0, n_1, n_2, n_3, n_4, n_5, n_6, n_7, n_8, n_9, n_10, n_11, n_12, n_13, n_14, n_15, n_16, n_18, n_20, n_24, n_31, n_32, n_34, n_40, n_41, n_44, n_45, n_47, n_48, n_57, n_58, n_59, n_61, n_63, n_64, n_65, n_68, n_90, n_91, n_93, n_95, n_97, n_100, n_122, n_123, n_125, n_128, n_144, n_200, n_255, n_256, n_300, n_400, n_600, n_1536, n_3980, n_4000, n_4001, n_4300, n_65536, l_0, l_1, l_2, l_3, l_4, l_10, l_48, l_63, l_255, l_300, nI_ltI, nI_leI, nI_eq, nI_clamp, nI_add, pk_sub, pk_mul, nI_ne1, ne1_nI, nI_pge, nI_nlt0, nI_l, lN_i, lN_add, lN_mul, lN_sub, pk_lLT, pk_lLE, pk_lEQ, lg_lt, lg_ge, lg_eq0, lg_le, lg_gt, lg_ltn, lg_gen, lg_eq0n, lg_len, lg_gtn, Nat.zero_le, Nat.not_lt_zero, not_false_eq_true, not_true_eq_false, true_and, and_true]; omega) | omega)) (o_bind (e_d_fieldAt D e3 hn' (by omega)) (o_elim (o_pos P.tk (o_bind v1 ?_)))))
      rw [n_1, nI_add]
      exact r1
    · by_cases c : i = j
      · subst c
        rw [r2.at (by unfold lfP; omega), r2.at (by unfold lfP; omega)]
        exact v4 k hk'
      · exact r4 i (by omega) h2 k hk'
end LayC
