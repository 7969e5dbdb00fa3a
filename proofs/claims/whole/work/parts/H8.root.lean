/-! The parsers: root -/

def RTQ (t c na kr : Nat) (u p : XH) : Prop := hr u (t + 1) na = some (t + 2) ∧ hi u (t + 2) 2 = nI kr ∧ hi u (t + 2) 3 = 3 ∧ kr < c ∧ hi u 8 kr = 2 ∧ hi p 1295 na = nI kr ∧ hi p 1296 na = 2
def rtP (t a k : Nat) : Prop := t + 2 ≤ a ∨ (a = t ∧ 3 ≤ k)
def rtW (t na a k : Nat) : Prop := a = t + 1 ∧ k = na
def rtM (na a k : Nat) : Prop := (a = 1262 ∧ (k = 13 ∨ k = 14 ∨ k = 15 ∨ k = 46)) ∨ (1295 ≤ a ∧ a ≤ 1297 ∧ k = na)
section Rt
variable {T : Nat → Nat} {n c t S k nd ns nt nu na : Nat} {g h u p : XH}
theorem rt_FC (F : FRX (rtP t) sJ (rtW t na) g u) : FC S t g u := F.mono (fun a k z => by unfold rtP at z; exact Or.inl (by omega)) (fun a k z => Or.inl z) (fun a k z => Or.inr (by unfold rtW at z; omega))
theorem rt_FM (G : FRX (rtM na) sJ nW h p) : FMx h p := G.mono (fun a k z => by unfold rtM at z; unfold nM; omega) (fun a k z => Or.inl z) (fun _ _ z => z)
theorem rtM_z {a k : Nat} (z : rtM na a k) : zP nd ns 0 nt 0 nu 0 na a k := by
  unfold rtM at z
  rcases z with ⟨z1, z2 | z2 | z2 | z2⟩ | ⟨z1, z2, z3⟩
  · exact Or.inl ⟨z1, Or.inl z2⟩
  · exact Or.inl ⟨z1, Or.inr (Or.inl z2)⟩
  · exact Or.inl ⟨z1, Or.inr (Or.inr (Or.inl z2))⟩
  · exact Or.inl ⟨z1, by omega⟩
  · exact Or.inr (Or.inr (Or.inr (Or.inr (Or.inr (Or.inr (Or.inr (Or.inr (Or.inr ⟨z1, z2, by omega⟩))))))))
theorem rtP_y {KK : Nat → Nat} {a k : Nat} (z : rtP t a k) : yP KK S t ns 0 nt 0 nu 0 a k := by
  unfold rtP at z
  exact z.elim (fun z => Or.inr (Or.inl z)) (fun z => Or.inl z.1)
theorem rtW_y {a k : Nat} (z : rtW t na a k) : yW S t nd na a k := Or.inr ⟨z.1, by rw [z.2]; exact Nat.le_refl _⟩
theorem rt_BG (B : BG T n c S t nd ns 0 nt 0 nu 0 na ns nt nu 0 g h) (L : LY g) (t17 : 1317 ≤ t) (F : FRX (rtP t) sJ (rtW t na) g u) (G : FRX (rtM na) sJ nW h p) : BG T n c S t nd ns 0 nt 0 nu 0 na ns nt nu 0 u p :=
  B.fr L t17 (F.mono (fun a k z => rtP_y z) (fun a k z => Or.inl z) (fun a k z => rtW_y z)) (G.mono (fun a k z => rtM_z z) (fun a k z => Or.inl z) (fun _ _ z => z))
theorem rt_CN (N : CN S t nd ns nt nu na ns nt nu g h) (hS : S = 12 ∨ S = 628) (t17 : 1317 ≤ t) (F : FRX (rtP t) sJ (rtW t na) g u) (G : FRX (rtM na) sJ nW h p) (e3 : hi u t 3 = nI (na + 1)) (e46 : hi p 1262 46 = nI (na + 1)) : CN S t nd ns nt nu (na + 1) ns nt nu u p := by
  obtain ⟨n1, n2, n3, n4, n5, n6, n7, n8, n9, n10⟩ := N
  have gS : ∀ a k, a < t → hi u a k = hi g a k := fun a k ha => F.at (by unfold rtP; omega)
  have gM : ∀ k, k ≠ 13 → k ≠ 14 → k ≠ 15 → k ≠ 46 → hi p 1262 k = hi h 1262 k := fun k h1 h2 h3 h4 => G.at (by unfold rtM; omega)
  exact ⟨by rw [gS _ _ (by omega)]; exact n1, by rw [gM 16 (by decide) (by decide) (by decide) (by decide)]; exact n2, by rw [gS _ _ (by omega)]; exact n3, by rw [gS _ _ (by omega)]; exact n4, by rw [gS _ _ (by omega)]; exact n5, by rw [gM 20 (by decide) (by decide) (by decide) (by decide)]; exact n6, by rw [gM 31 (by decide) (by decide) (by decide) (by decide)]; exact n7, by rw [gM 41 (by decide) (by decide) (by decide) (by decide)]; exact n8, e3, e46⟩
theorem nf_151 (m : ¬ hi p 1262 14 = 0) : b_m_parse_151 p = some ((), p) := by
  unfold b_m_parse_151
  exact o_pos m rfl
theorem root2 (A : ST T n c g h t S k) (B : BG T n c S t nd ns 0 nt 0 nu 0 na ns nt nu 0 g h) (N : CN S t nd ns nt nu na ns nt nu g h) (Lh : LY h) (q : hi g 8 k = 9) : (∃ u p k' kr, f_p_readRoot t g = some (1, u) ∧ (∀ X, b_m_parse_151 p = X → b_m_parse_102 h = X) ∧ ST T n c u p t S k' ∧ BG T n c S t nd ns 0 nt 0 nu 0 na ns nt nu 0 u p ∧ CN S t nd ns nt nu (na + 1) ns nt nu u p ∧ LY p ∧ RTQ t c na kr u p ∧ FC S t g u ∧ FMx h p) ∨ (∃ u p, f_p_readRoot t g = some (0, u) ∧ b_m_parse_102 h = some ((), p) ∧ FLT u p t ∧ FC S t g u ∧ FMx h p) := by
  have A' := A
  obtain ⟨P, K, kc', a5, a6, m13', m14'⟩ := A'
  have L := P.1
  have t17 := P.2.1
  have hS := P.2.2.2.1
  have l := B.2.2.2.2.2.2.2.2.2.2.2
  have n320 : na ≤ 320 := by omega
  clear l
  obtain ⟨u1, x1, x2, x3⟩ := exY (x := 9) A q (by decide)
  obtain ⟨p1, ep1⟩ : ∃ p1, p1 = hsi h 1262 13 (nI (k + 1)) := ⟨_, rfl⟩
  rw [← ep1] at x2
  have G1 : FRX (rtM na) sJ nW h p1 := by rw [ep1]; exact FRX.refl.si (by simp [rtM])
  have tk1 : f_m_take h = some ((), p1) := by rw [ep1]; exact e_m_take m14' m13'
  have F1 : FRX (rtP t) sJ (rtW t na) g u1 := x3.x (fun a k z => by unfold tP at z; unfold rtP; omega) (fun k => rfl)
  have P1 := x2.1
  obtain ⟨-, -, c3, -, -, c6, c7, c8, c9, c10, c11, c12⟩ := P1
  have k2 : t + 2 < hz u1 ∧ hk u1 (t + 2) = 3 := ⟨by omega, c12.1⟩
  have N0 := N
  obtain ⟨n1, n2, n3, n4, n5, n6, n7, n8, n9, n10⟩ := N0
  have t3 : hi u1 t 3 = nI na := by rw [x3.at (by unfold tP; omega)]; exact n9
  obtain ⟨u2, e2⟩ : ∃ u2, u2 = hsi u1 (t + 2) 3 3 := ⟨_, rfl⟩
  have ST2 : ST T n c u2 p1 t S (k + 1) := by
    rw [e2]
    exact x2.con (FRX.refl.si (Or.inr (Or.inl (Nat.le_refl _)))) FRX.refl
  have t32 : hi u2 t 3 = nI na := by rw [e2, hi_hsi_ne (by omega)]; exact t3
  have k22 : t + 2 < hz u2 ∧ hk u2 (t + 2) = 3 := by rw [e2]; exact k2
  obtain ⟨u3, e3⟩ : ∃ u3, u3 = hsi (hsr (hsi u2 (t + 2) 2 (nI (k + 1))) (t + 1) na (some (t + 2))) t 3 (nI (na + 1)) := ⟨_, rfl⟩
  have aw : f_p_awaitDefinition t (t + 2) (hi u1 t 5) (hsi u1 (t + 2) 3 3) = some ((), u3) := by
    rw [← e2, x2.2.2.2.1, e3]
    exact e_p_await ST2.1 k22 t32 (by omega) (by omega)
  have ST3 : ST T n c u3 p1 t S (k + 1) := by
    rw [e3]
    exact ST2.con (FRX.si (FRX.sr (FRX.si FRX.refl (Or.inr (Or.inl (Nat.le_refl _)))) (Or.inr rfl)) (Or.inl ⟨rfl, rfl⟩)) FRX.refl
  have F3 : FRX (rtP t) sJ (rtW t na) g u3 := by
    rw [e3, e2]
    exact FRX.si (FRX.sr (FRX.si (FRX.si F1 (Or.inl (Nat.le_refl _))) (Or.inl (Nat.le_refl _))) ⟨rfl, rfl⟩) (Or.inr ⟨rfl, Nat.le_refl _⟩)
  have v1 : hr u3 (t + 1) na = some (t + 2) := by rw [e3, hr_hsi, hr_hsr_eq]
  have v2 : hi u3 (t + 2) 2 = nI (k + 1) := by rw [e3, hi_hsi_ne (by omega), hi_hsr, hi_at]
  have v3 : hi u3 (t + 2) 3 = 3 := by rw [e3, hi_hsi_ne (by omega), hi_hsr, hi_nk (by decide), e2, hi_at]
  have v4 : hi u3 t 3 = nI (na + 1) := by rw [e3, hi_at]
  have kc1 := x2.2.2.1
  have p114 := x2.2.2.2.2.2.2
  have p113 := x2.2.2.2.2.2.1
  have p146 : hi p1 1262 46 = nI na := by rw [ep1, hi_nk (by decide)]; exact n10
  -- the class up to the name
  have cc : ∀ (r : Int32) (v : XH) (X : Option (Int32 × XH)), f_p_expect t 2 u3 = some (r, v) → (if r = 0 then (some (0, v)) else (if t < hz v ∧ hk v t = 7 then (Option.bind (f_p_expect t 59 v) fun r19 => (if r19.1 = 0 then (some (0, r19.2)) else (if t < hz r19.2 ∧ hk r19.2 t = 7 then (if (hi r19.2 t 6) = 0 then (b_p_readRoot_63 r19.2) else (Option.bind (f_p_fail t 2 r19.2) fun r25 => (if r25.1 = 0 then (some (0, r25.2)) else (b_p_readRoot_63 r25.2)))) else none))) else none)) = X → f_p_readRoot t g = X := by
    intro r v X e1 e4
    unfold f_p_readRoot
    exact o_pos A.1.tk (o_bind x1 (o_pos one0 (o_pos x2.1.tk (o_bind c9 (o_pos k2 (o_bind aw (o_pos ST3.1.tk (o_bind e1 e4))))))))
  have mm : ∀ (v : XH) (X : Option (Unit × XH)), f_m_name p1 = some ((), v) → (Option.bind (f_m_ask (hi p1 1262 13) 2 0 v) fun r11 => (Option.bind (f_m_sign 59 r11.2) fun r14 => (if ¬ (hi r14.2 1262 14) = 0 then (b_m_parse_151 r14.2) else (if 0 ≤ (hi r14.2 1262 13) ∧ (hi r14.2 1262 13) < nI 4001 then (if (hi r14.2 1266 (Int32.toNatClampNeg (hi r14.2 1262 13))) = 0 then (b_m_parse_151 r14.2) else (Option.bind (f_m_misfit r14.2) fun r20 => (b_m_parse_151 r20.2))) else none)))) = X → b_m_parse_102 h = X := by
    intro v X e1 e4
    unfold b_m_parse_102
    exact o_bind tk1 (o_bind e1 e4)
  rcases e_m_isName ST3 with ⟨q2, w1⟩ | ⟨q2, w1⟩
  · obtain ⟨u4, y1, y2, y3⟩ := exY (x := 2) ST3 q2 (by decide)
    obtain ⟨p4, ep4⟩ : ∃ p4, p4 = hsi p1 1262 13 (nI (k + 1 + 1)) := ⟨_, rfl⟩
    rw [← ep4] at y2
    have nm : f_m_name p1 = some ((), p4) := by
      unfold f_m_name b_m_name_18
      rw [ep4]
      exact o_neg (not_not_intro p114) (o_bind w1 (o_pos one0 (o_bind (e_m_take p114 p113) rfl)))
    obtain ⟨p5, ep5⟩ : ∃ p5, p5 = hsi (hsi (hsi (hsi p4 1295 na (nI (k + 1))) 1296 na 2) 1297 na 0) 1262 46 (nI (na + 1)) := ⟨_, rfl⟩
    have as : f_m_ask (hi p1 1262 13) 2 0 p4 = some ((), p5) := by
      rw [p113, ep5]
      exact e_m_ask y2.2.2.2.2.2.2 (by rw [ep4, hi_nk (by decide)]; exact p146) (by omega)
    have ST5 : ST T n c u4 p5 t S (k + 1 + 1) := by
      rw [ep5]
      exact y2.con FRX.refl (FRX.si (FRX.si (FRX.si (FRX.si FRX.refl (by simp [xM])) (by simp [xM])) (by simp [xM])) (by simp [xM]))
    have F4 : FRX (rtP t) sJ (rtW t na) g u4 := F3.trans (y3.x (fun a k z => by unfold tP at z; unfold rtP; omega) (fun k => rfl))
    have G5 : FRX (rtM na) sJ nW h p5 := by
      rw [ep5, ep4]
      exact FRX.si (FRX.si (FRX.si (FRX.si (FRX.si G1 (by simp [rtM])) (by simp [rtM])) (by simp [rtM])) (by simp [rtM])) (by simp [rtM])
    rcases exp2 (x := 59) ST5 (by decide) with ⟨u6, p6, z1, z2, z3, z4, z5⟩ | ⟨u6, p6, z1, z2, z3, z4, z5⟩
    · have F6 : FRX (rtP t) sJ (rtW t na) g u6 := F4.trans (z4.x (fun a k z => by unfold tP at z; unfold rtP; omega) (fun k => rfl))
      have G6 : FRX (rtM na) sJ nW h p6 := G5.trans (z5.x (fun a k z => by unfold m13 at z; unfold rtM; omega) (fun k => rfl))
      have kc6 := z3.2.2.1
      have c46 := z3.2.1.2.2.2.1
      have fin := (z3.2.1.2.2.2.2.1 _ kc6).fin
      have m136 : hi p6 1262 13 = nI (k + 1 + 1 + 1) := z3.2.2.2.2.2.1
      have m146 : hi p6 1262 14 = 0 := z3.2.2.2.2.2.2
      have mq : ∀ X, (if (hi p6 1266 (k + 1 + 1 + 1)) = 0 then (b_m_parse_151 p6) else (Option.bind (f_m_misfit p6) fun r20 => (b_m_parse_151 r20.2))) = X → b_m_parse_102 h = X := fun X e => by
        refine mm p4 X nm (o_bind as (o_bind z2 (o_neg (not_not_intro m146) ?_)))
        show (if 0 ≤ (hi p6 1262 13) ∧ (hi p6 1262 13) < nI 4001 then (if (hi p6 1266 (Int32.toNatClampNeg (hi p6 1262 13))) = 0 then (b_m_parse_151 p6) else (Option.bind (f_m_misfit p6) fun r20 => (b_m_parse_151 r20.2))) else none) = X
        rw [m136, nI_clamp (show k + 1 + 1 + 1 < 2 ^ 31 by omega)]
        exact o_pos ⟨nI_pos' (by omega), by (first | (simp (maxSteps := 4000000) (disch := omega) only [n_0, n_1, n_2, n_3, n_4, n_5, n_6, n_7, n_8, n_9, n_10, n_11, n_12, n_13, n_14, n_15, n_16, n_18, n_20, n_24, n_31, n_32, n_34, n_40, n_41, n_44, n_45, n_47, n_48, n_57, n_58, n_59, n_61, n_63, n_64, n_65, n_68, n_90, n_91, n_93, n_95, n_97, n_100, n_122, n_123, n_125, n_128, n_144, n_200, n_255, n_256, n_300, n_400, n_600, n_1536, n_3980, n_4000, n_4001, n_4300, n_65536, l_0, l_1, l_2, l_3, l_4, l_10, l_48, l_63, l_255, l_300, nI_ltI, nI_leI, nI_eq, nI_clamp, nI_add, pk_sub, pk_mul, nI_ne1, ne1_nI, nI_pge, nI_nlt0, nI_l, lN_i, lN_add, lN_mul, lN_sub, pk_lLT, pk_lLE, pk_lEQ, lg_lt, lg_ge, lg_eq0, lg_le, lg_gt, lg_ltn, lg_gen, lg_eq0n, lg_len, lg_gtn, Nat.zero_le, Nat.not_lt_zero, not_false_eq_true, not_true_eq_false, true_and, and_true]; done) | (simp (maxSteps := 4000000) (disch := omega) only [n_0, n_1, n_2, n_3, n_4, n_5, n_6, n_7, n_8, n_9, n_10, n_11, n_12, n_13, n_14, n_15, n_16, n_18, n_20, n_24, n_31, n_32, n_34, n_40, n_41, n_44, n_45, n_47, n_48, n_57, n_58, n_59, n_61, n_63, n_64, n_65, n_68, n_90, n_91, n_93, n_95, n_97, n_100, n_122, n_123, n_125, n_128, n_144, n_200, n_255, n_256, n_300, n_400, n_600, n_1536, n_3980, n_4000, n_4001, n_4300, n_65536, l_0, l_1, l_2, l_3, l_4, l_10, l_48, l_63, l_255, l_300, nI_ltI, nI_leI, nI_eq, nI_clamp, nI_add, pk_sub, pk_mul, nI_ne1, ne1_nI, nI_pge, nI_nlt0, nI_l, lN_i, lN_add, lN_mul, lN_sub, pk_lLT, pk_lLE, pk_lEQ, lg_lt, lg_ge, lg_eq0, lg_le, lg_gt, lg_ltn, lg_gen, lg_eq0n, lg_len, lg_gtn, Nat.zero_le, Nat.not_lt_zero, not_false_eq_true, not_true_eq_false, true_and, and_true]; omega) | omega)⟩ e
      by_cases qe : hi u6 8 (k + 1 + 1 + 1) = 0
      · refine Or.inl ⟨u6, p6, _, k + 1, cc _ _ _ y1 (o_neg one0 (o_pos y2.1.tk (o_bind z1 (o_neg one0 (o_pos z3.1.tk (o_pos (by rw [z3.2.2.2.2.1]; exact qe) rfl)))))), fun X e => mq X (o_pos (fin.mp qe) e), z3, ?_, ?_, ?_, ?_, rt_FC F6, rt_FM G6⟩
        · exact rt_BG B L t17 F6 G6
        · exact rt_CN N hS t17 F6 G6 (by rw [z4.at (by unfold tP; omega), y3.at (by unfold tP; omega)]; exact v4) (by rw [z5.at (by simp [m13]), ep5, hi_at])
        · exact (rt_FM G6).ly Lh
        · refine ⟨?_, ?_, ?_, kc1, ?_, ?_, ?_⟩
          · rw [z4.1.2.2.2.2, y3.1.2.2.2.2]; exact v1
          · rw [z4.at (by unfold tP; omega), y3.at (by unfold tP; omega)]; exact v2
          · rw [z4.at (by unfold tP; omega), y3.at (by unfold tP; omega)]; exact v3
          · rw [z4.at (by unfold tP; omega), y3.at (by unfold tP; omega)]; exact q2
          · rw [z5.at (by simp [m13]), ep5, hi_hsi_ne (by decide), hi_hsi_ne (by decide), hi_hsi_ne (by decide), hi_at]
          · rw [z5.at (by simp [m13]), ep5, hi_hsi_ne (by decide), hi_hsi_ne (by decide), hi_at]
      · obtain ⟨u7, p7, s1, s2, s3, s4, s5, s6⟩ := z3.mis
        exact Or.inr ⟨u7, p7, cc _ _ _ y1 (o_neg one0 (o_pos y2.1.tk (o_bind z1 (o_neg one0 (o_pos z3.1.tk (o_neg (by rw [z3.2.2.2.2.1]; exact qe) (o_bind s1 (o_pos rfl rfl)))))))), mq _ (o_neg (fun z => qe (fin.mpr z)) (o_bind s2 (nf_151 s6))), s3, (rt_FC F6).trans (FC.tFq s4), FRX.trans (rt_FM G6) (FMx.q14 s5)⟩
    · exact Or.inr ⟨u6, p6, cc _ _ _ y1 (o_neg one0 (o_pos y2.1.tk (o_bind z1 (o_pos rfl rfl)))), mm p4 _ nm (o_bind as (o_bind z2 (o_pos z3.2.2 (nf_151 z3.2.2)))), z3, (rt_FC F4).trans (FC.tFq z4), FRX.trans (rt_FM G5) (FMx.q14 z5)⟩
  · obtain ⟨u4, p4, s1, s2, s3, s4, s5, s6⟩ := ST3.mis
    have nm : f_m_name p1 = some ((), p4) := by
      unfold f_m_name b_m_name_18
      exact o_neg (not_not_intro p114) (o_bind w1 (o_neg (not_not_intro rfl) (o_bind s2 (o_bind (e_m_takeF s6) rfl))))
    exact Or.inr ⟨u4, p4, cc _ _ _ (exN ST3 q2 s1) (o_pos rfl rfl), mm p4 _ nm (o_bind (nf_ask s6) (o_bind (nf_sign s6) (o_pos s6 (nf_151 s6)))), s3, (rt_FC F3).trans (FC.tFq s4), FRX.trans (rt_FM G1) (FMx.q14 s5)⟩
end Rt
