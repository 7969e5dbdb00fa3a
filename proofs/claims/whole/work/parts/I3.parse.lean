/-! The parsers: all of it -/

def POUT (S t : Nat) (g h : XH) (rc : Option (Int32 × XH)) (rm : Option (Unit × XH)) : Prop := (∃ u p sg sd, rc = some (1, u) ∧ rm = some ((), p) ∧ CS u S sg sd ∧ MS p sg sd ∧ WF sg sd ∧ NM2 u p S sg ∧ (hi u t 7 = 0 ∧ hi u t 8 = 0) ∧ hi p 1262 14 = 0 ∧ FC S t g u ∧ FMx h p) ∨ (∃ u p, rc = some (0, u) ∧ rm = some ((), p) ∧ FLT u p t ∧ FC S t g u ∧ FMx h p)
section Pa
variable {T : Nat → Nat} {n c t S k nd ns nt nu na : Nat} {g h u p : XH}
theorem POUT.pre {rc : Option (Int32 × XH)} {rm : Option (Unit × XH)} (A : POUT S t u p rc rm) (F : FC S t g u) (G : FMx h p) : POUT S t g h rc rm := by
  rcases A with ⟨u', p', sg, sd, a1, a2, a3, a4, a5, a6, a7, a8, a9, a10⟩ | ⟨u', p', a1, a2, a3, a4, a5⟩
  · exact Or.inl ⟨u', p', sg, sd, a1, a2, a3, a4, a5, a6, a7, a8, F.trans a9, FRX.trans G a10⟩
  · exact Or.inr ⟨u', p', a1, a2, a3, F.trans a4, FRX.trans G a5⟩
theorem FC.ly (F : FC S t g u) (L : LY g) (hS : S = 12 ∨ S = 628) (t17 : 1317 ≤ t) : LY u := L.frx F fun b k h1 h2 z => by unfold vW at z; omega
theorem FC.kc (F : FC S t g u) (K : KC g S) (L : LY g) (t17 : 1317 ≤ t) : KC u S := K.frx L F fun a k h1 h2 h3 z => by
  unfold vP at z
  rcases z with z | ⟨z | z, -⟩
  · omega
  · omega
  · exact z h3
theorem rootAll (A : ST T n c g h t S k) (B : BG T n c S t nd ns 0 nt 0 nu 0 na ns nt nu 0 g h) (N : CN S t nd ns nt nu na ns nt nu g h) (Lh : LY h) (q : hi g 8 k = 9) : POUT S t g h (b_p_parse_55 t g) (b_m_parse_102 h) := by
  have t17 := A.1.2.1
  have hS := A.1.2.2.2.1
  rcases root2 A B N Lh q with ⟨u, p, k', kr, x1, x2, x3, x4, x5, x6, x7, x8, x9⟩ | ⟨u, p, x1, x2, x3, x4, x5⟩
  · have l := x4.2.2.2.2.2.2.2.2.2.2.2
    have m1 : ∀ {p2 p3 : XH}, b_m_resolve_2 100000 (nI 0) p = b_m_resolve_224 p2 → b_m_resolve_226 100000 (nI 0) p2 = some ((), p3) → b_m_parse_102 h = some ((), p3) := by
      intro p2 p3 e1 e2
      refine x2 _ ?_
      unfold b_m_parse_151
      refine o_neg (not_not_intro x3.2.2.2.2.2.2) (o_bind (v := ((), p3)) ?_ rfl)
      show b_m_resolve_2 100000 (nI 0) p = _
      rw [e1]
      exact e2
    rcases resAll (k := k') (kr := kr) na 0 100000 100000 u p (by omega) (by omega) (by omega) ⟨x3, x4, x5, x6, x7⟩ with ⟨u2, p2, ro, y1, y2, y3, y4, y5, y6, y7, y8, y9, y10, y11⟩ | ⟨u2, p2, y1, y2, y3, y4, y5, y6⟩
    · have tb : TBM nt p2 := ⟨by omega, y8.2.2.2.2.2.2.1, fun s hs => by
        obtain ⟨m, m1, m2, m3, -⟩ := y7.2.2.2.2.2.1 s hs
        exact ⟨m, m1, m3⟩⟩
      obtain ⟨p3, z1, z2, z3⟩ := slM_all nt 0 100000 p2 (by omega) (by omega) tb
      obtain ⟨u3, w1, w2, w3⟩ := slC_all nt 0 100000 u2 (by omega) (by omega) (by omega) y6.1 y8.2.2.2.1 (fun s hs => by
        obtain ⟨m, m1, m2, m3, -⟩ := y7.2.2.2.2.2.1 s hs
        exact ⟨m, m1, m2⟩)
      obtain ⟨u4, e4⟩ : ∃ u4, u4 = hsi u3 S 5 (nI ro) := ⟨_, rfl⟩
      have F3 : FRX (slU S) nW nW u2 u3 := w2.mono (fun a k z => Or.inl ⟨by unfold dT at z; omega, z.2⟩) (fun _ _ z => z) (fun _ _ z => z)
      have F4 : FRX (slU S) nW nW u2 u4 := by rw [e4]; exact F3.si (Or.inr ⟨rfl, rfl⟩)
      have G3 : FRX slP nW nW p2 p3 := z2.mono (fun a k z => by unfold slP; omega) (fun _ _ z => z) (fun _ _ z => z)
      have FC2 : FC S t u2 u4 := F4.mono (fun a k z => by unfold slU at z; exact Or.inr ⟨Or.inl (by omega), by omega, by omega⟩) (fun _ _ z => z.elim) (fun _ _ z => z.elim)
      have FM2 : FMx p2 p3 := G3.mono (fun a k z => by unfold slP at z; unfold nM; omega) (fun _ _ z => z.elim) (fun _ _ z => z)
      have L4 : LY u4 := FC2.ly y6.1.1 hS t17
      obtain ⟨sg, sd, s1, s2, s3, s4⟩ := fin_ext (u := u4) (p := p3) y7 y6.2.1 L4 hS y8 F4 G3 y3 (by rw [e4, hi_at]) y5 (fun s m hs hm e => by
        obtain ⟨a1, a2⟩ := w3 s m (Nat.zero_le _) hs hm e
        have ne : ∀ a, S + 197 ≤ a → hi u4 a = hi u3 a := fun a ha => by rw [e4, hi_hsi_ne (by omega)]
        rw [ne _ (by unfold dT; omega)]
        exact ⟨a1, fun f hf => by rw [ne _ (by unfold dT; omega)]; exact a2 f hf⟩) (fun s m hs hm e => z3 s m (Nat.zero_le _) hs hm e)
      obtain ⟨-, -, c3, -, c5, c6, c7, c8, c9, c10, c11, c12, c13, c14⟩ := y6.1
      have sc := SC.of y6.1.1 hS
      have k3 : ∀ a, hk u3 a = hk u2 a := fun a => by rw [F3.1.2.2.1]
      have z3' : hz u3 = hz u2 := F3.1.1
      have e24 : hi u3 (t + 2) 4 = nI ro := by rw [F3.at (by unfold slU; omega)]; exact y4
      refine Or.inl ⟨u4, p3, sg, sd, ?_, m1 y2 z1, s1, s2, s3, s4, ⟨by rw [F4.at (by unfold slU; omega)]; exact c13, by rw [F4.at (by unfold slU; omega)]; exact c14⟩, by rw [G3.at (by unfold slP; omega)]; exact y6.2.2.2.2.2.2, x8.trans (y10.trans FC2), FRX.trans x9 (FRX.trans y11 FM2)⟩
      unfold b_p_parse_55
      refine o_pos A.1.tk (o_bind x1 (o_neg one0 (o_pos x3.1.tk (o_bind (v := (1, u2)) y1 (o_pos one0 (o_pos y6.1.tk (o_bind (v := ((), u3)) w1 (o_pos ⟨by rw [z3']; exact y6.1.tk.1, by rw [k3]; exact y6.1.tk.2⟩ (o_bind (v := S) (by show hr u3 t 1 = _; rw [F3.rf (fun z => z)]; exact c7) (o_bind (v := t + 2) (by show hr u3 t 4 = _; rw [F3.rf (fun z => z)]; exact c9) (o_pos ⟨by show t + 2 < hz u3; rw [z3']; omega, by show hk u3 (t + 2) = 3; rw [k3]; exact c12⟩ (o_pos ⟨by show S < hz u3; rw [z3']; omega, by show hk u3 S = 9; rw [k3]; exact sc.2.2.1⟩ ?_))))))))))))
      show some ((1 : Int32), hsi u3 S 5 (hi u3 (t + 2) 4)) = _
      rw [e24, e4]
    · obtain ⟨p3, z1, z2, z3⟩ := slM_all nt 0 100000 p2 (by omega) (by omega) y4
      have G3 : FRX slP nW nW p2 p3 := z2.mono (fun a k z => by unfold slP; omega) (fun _ _ z => z) (fun _ _ z => z)
      have FM2 : FMx p2 p3 := G3.mono (fun a k z => by unfold slP at z; unfold nM; omega) (fun _ _ z => z.elim) (fun _ _ z => z)
      refine Or.inr ⟨u2, p3, ?_, m1 y2 z1, ?_, x8.trans y5, FRX.trans x9 (FRX.trans y6 FM2)⟩
      · unfold b_p_parse_55
        exact o_pos A.1.tk (o_bind x1 (o_neg one0 (o_pos x3.1.tk (o_bind (v := (0, u2)) y1 (o_neg (not_not_intro rfl) rfl)))))
      · unfold FLT
        rw [G3.at (by unfold slP; omega), G3.at (by unfold slP; omega)]
        exact y3
  · refine Or.inr ⟨u, p, ?_, x2, x3, x4, x5⟩
    unfold b_p_parse_55
    exact o_pos A.1.tk (o_bind x1 (o_pos rfl rfl))
theorem nf_102 (m : ¬ hi p 1262 14 = 0) : b_m_parse_102 p = some ((), p) := by
  unfold b_m_parse_102
  exact o_bind (e_m_takeF m) (o_bind (nf_name m) (o_bind (nf_ask m) (o_bind (nf_sign m) (o_pos m (nf_151 m)))))
theorem nf_39 {F : Nat} (m : ¬ hi p 1262 14 = 0) : b_m_parse_39 (F + 1) p = some ((), p) := by
  show s_m_parse_39 (b_m_parse_39 F) _ = _
  unfold s_m_parse_39
  exact o_bind (nf_isWord m) (o_neg (not_not_intro rfl) (o_bind (nf_isWord m) (o_neg (not_not_intro rfl) (o_bind (nf_isWord m) (o_pos rfl (o_pos m (nf_102 m)))))))
theorem parseLoop : ∀ (m nd ns nt nu na k fuel F : Nat) (g h : XH), nd + m = 36 → m + 2 ≤ fuel → m + 2 ≤ F → ST T n c g h t S k → BG T n c S t nd ns 0 nt 0 nu 0 na ns nt nu 0 g h → CN S t nd ns nt nu na ns nt nu g h → LY h → POUT S t g h (b_p_parse_24 fuel t (nI nd) g) (b_m_parse_39 F h) := by
  have one : ∀ (nd ns nt nu na k fu F : Nat) (g h : XH), nd ≤ 36 → ST T n c g h t S k → BG T n c S t nd ns 0 nt 0 nu 0 na ns nt nu 0 g h → CN S t nd ns nt nu na ns nt nu g h → LY h → (∀ (u p : XH) (k' ns' nt' nu' na' : Nat), ST T n c u p t S k' → BG T n c S t (nd + 1) ns' 0 nt' 0 nu' 0 na' ns' nt' nu' 0 u p → CN S t (nd + 1) ns' nt' nu' na' ns' nt' nu' u p → LY p → POUT S t u p (b_p_parse_24 fu t (nI (nd + 1)) u) (b_m_parse_39 (F + 1) p)) → POUT S t g h (b_p_parse_24 (fu + 1) t (nI nd) g) (b_m_parse_39 (F + 1 + 1) h) := by
    intro nd ns nt nu na k fu F g h n36 A B N Lh ih
    have A' := A
    obtain ⟨P, K, kc', a5, a6, m13', m14'⟩ := A'
    have c4 := K.2.2.2.1
    have tk := K.2.2.2.2.1 k kc'
    have w11 := e_m_isWord (w := 11) A (by decide) (by decide)
    have w12 := e_m_isWord (w := 12) A (by decide) (by decide)
    have w13 := e_m_isWord (w := 13) A (by decide) (by decide)
    have w14 := e_m_isWord (w := 14) A (by decide) (by decide)
    rw [show nI (kc 11) = 6 from rfl, show nI 11 = 11 from rfl] at w11
    rw [show nI (kc 12) = 7 from rfl, show nI 12 = 12 from rfl] at w12
    rw [show nI (kc 13) = 8 from rfl, show nI 13 = 13 from rfl] at w13
    rw [show nI (kc 14) = 9 from rfl, show nI 14 = 14 from rfl] at w14
    have kk : 0 ≤ hi h 1262 13 ∧ hi h 1262 13 < nI 4001 := by rw [m13']; exact ⟨nI_pos' (by omega), by (first | (simp (maxSteps := 4000000) (disch := omega) only [n_0, n_1, n_2, n_3, n_4, n_5, n_6, n_7, n_8, n_9, n_10, n_11, n_12, n_13, n_14, n_15, n_16, n_18, n_20, n_24, n_31, n_32, n_34, n_40, n_41, n_44, n_45, n_47, n_48, n_57, n_58, n_59, n_61, n_63, n_64, n_65, n_68, n_90, n_91, n_93, n_95, n_97, n_100, n_122, n_123, n_125, n_128, n_144, n_200, n_255, n_256, n_300, n_400, n_600, n_1536, n_3980, n_4000, n_4001, n_4300, n_65536, l_0, l_1, l_2, l_3, l_4, l_10, l_48, l_63, l_255, l_300, nI_ltI, nI_leI, nI_eq, nI_clamp, nI_add, pk_sub, pk_mul, nI_ne1, ne1_nI, nI_pge, nI_nlt0, nI_l, lN_i, lN_add, lN_mul, lN_sub, pk_lLT, pk_lLE, pk_lEQ, lg_lt, lg_ge, lg_eq0, lg_le, lg_gt, lg_ltn, lg_gen, lg_eq0n, lg_len, lg_gtn, Nat.zero_le, Nat.not_lt_zero, not_false_eq_true, not_true_eq_false, true_and, and_true]; done) | (simp (maxSteps := 4000000) (disch := omega) only [n_0, n_1, n_2, n_3, n_4, n_5, n_6, n_7, n_8, n_9, n_10, n_11, n_12, n_13, n_14, n_15, n_16, n_18, n_20, n_24, n_31, n_32, n_34, n_40, n_41, n_44, n_45, n_47, n_48, n_57, n_58, n_59, n_61, n_63, n_64, n_65, n_68, n_90, n_91, n_93, n_95, n_97, n_100, n_122, n_123, n_125, n_128, n_144, n_200, n_255, n_256, n_300, n_400, n_600, n_1536, n_3980, n_4000, n_4001, n_4300, n_65536, l_0, l_1, l_2, l_3, l_4, l_10, l_48, l_63, l_255, l_300, nI_ltI, nI_leI, nI_eq, nI_clamp, nI_add, pk_sub, pk_mul, nI_ne1, ne1_nI, nI_pge, nI_nlt0, nI_l, lN_i, lN_add, lN_mul, lN_sub, pk_lLT, pk_lLE, pk_lEQ, lg_lt, lg_ge, lg_eq0, lg_le, lg_gt, lg_ltn, lg_gen, lg_eq0n, lg_len, lg_gtn, Nat.zero_le, Nat.not_lt_zero, not_false_eq_true, not_true_eq_false, true_and, and_true]; omega) | omega)⟩
    have ck : (hi h 1262 13).toNatClampNeg = k := by rw [m13']; exact nI_clamp (by omega)
    have cs : ∀ {r : Int32} {v : XH} {X : Option (Int32 × XH)}, ¬ hi g 8 k = 9 → f_p_readDefinition t g = some (r, v) → (if ¬ r = 0 then b_p_parse_24 fu t (nI (nd + 1)) v else some (0, v)) = X → b_p_parse_24 (fu + 1) t (nI nd) g = X := by
      intro r v X q e1 e2
      show s_p_parse_24 (b_p_parse_24 fu) _ _ _ = _
      unfold s_p_parse_24
      refine o_pos P.tk (o_neg (by rw [a6]; exact q) (o_neg (by (first | (simp (maxSteps := 4000000) (disch := omega) only [n_0, n_1, n_2, n_3, n_4, n_5, n_6, n_7, n_8, n_9, n_10, n_11, n_12, n_13, n_14, n_15, n_16, n_18, n_20, n_24, n_31, n_32, n_34, n_40, n_41, n_44, n_45, n_47, n_48, n_57, n_58, n_59, n_61, n_63, n_64, n_65, n_68, n_90, n_91, n_93, n_95, n_97, n_100, n_122, n_123, n_125, n_128, n_144, n_200, n_255, n_256, n_300, n_400, n_600, n_1536, n_3980, n_4000, n_4001, n_4300, n_65536, l_0, l_1, l_2, l_3, l_4, l_10, l_48, l_63, l_255, l_300, nI_ltI, nI_leI, nI_eq, nI_clamp, nI_add, pk_sub, pk_mul, nI_ne1, ne1_nI, nI_pge, nI_nlt0, nI_l, lN_i, lN_add, lN_mul, lN_sub, pk_lLT, pk_lLE, pk_lEQ, lg_lt, lg_ge, lg_eq0, lg_le, lg_gt, lg_ltn, lg_gen, lg_eq0n, lg_len, lg_gtn, Nat.zero_le, Nat.not_lt_zero, not_false_eq_true, not_true_eq_false, true_and, and_true]; done) | (simp (maxSteps := 4000000) (disch := omega) only [n_0, n_1, n_2, n_3, n_4, n_5, n_6, n_7, n_8, n_9, n_10, n_11, n_12, n_13, n_14, n_15, n_16, n_18, n_20, n_24, n_31, n_32, n_34, n_40, n_41, n_44, n_45, n_47, n_48, n_57, n_58, n_59, n_61, n_63, n_64, n_65, n_68, n_90, n_91, n_93, n_95, n_97, n_100, n_122, n_123, n_125, n_128, n_144, n_200, n_255, n_256, n_300, n_400, n_600, n_1536, n_3980, n_4000, n_4001, n_4300, n_65536, l_0, l_1, l_2, l_3, l_4, l_10, l_48, l_63, l_255, l_300, nI_ltI, nI_leI, nI_eq, nI_clamp, nI_add, pk_sub, pk_mul, nI_ne1, ne1_nI, nI_pge, nI_nlt0, nI_l, lN_i, lN_add, lN_mul, lN_sub, pk_lLT, pk_lLE, pk_lEQ, lg_lt, lg_ge, lg_eq0, lg_le, lg_gt, lg_ltn, lg_gen, lg_eq0n, lg_len, lg_gtn, Nat.zero_le, Nat.not_lt_zero, not_false_eq_true, not_true_eq_false, true_and, and_true]; omega) | omega)) (o_bind e1 ?_)))
      rw [n_1, nI_add]
      exact e2
    have fin : ∀ {w : Int32} {K2 : XH → Option (Unit × XH)} {X : Option (Unit × XH)}, hi h 1269 k = w → Option.bind (f_m_define w h) (fun r24 => K2 r24.2) = X → b_m_parse_66 K2 h = X := by
      intro w K2 X e1 e2
      unfold b_m_parse_66
      rw [ck, e1]
      exact o_pos kk e2
    have join : ∀ {w : Int32} {ns' nt' nu' na' : Nat}, ¬ hi g 8 k = 9 → (∀ X, Option.bind (f_m_define w h) (fun r24 => b_m_parse_39 (F + 1) r24.2) = X → b_m_parse_39 (F + 1 + 1) h = X) → OUT T n c S t (nd + 1) ns' nt' nu' na' ns' nt' nu' 0 g h (f_p_readDefinition t g) (f_m_define w h) → POUT S t g h (b_p_parse_24 (fu + 1) t (nI nd) g) (b_m_parse_39 (F + 1 + 1) h) := by
      intro w ns' nt' nu' na' q9 e1 o
      rcases o with ⟨u, p, k', o1, o2, o3, o4, o5, o6, o7, o8⟩ | ⟨u, p, o1, o2, o3, o4, o5⟩
      · rw [cs q9 o1 (o_pos one0 rfl), e1 _ (o_bind o2 rfl)]
        exact (ih u p k' ns' nt' nu' na' o3 o4 o5 o6).pre o7 o8
      · exact Or.inr ⟨u, p, cs q9 o1 (o_neg (not_not_intro rfl) rfl), e1 _ (o_bind o2 (nf_39 o3.2.2)), o3, o4, o5⟩
    have st : ∀ X, s_m_parse_39 (b_m_parse_39 (F + 1)) h = X → b_m_parse_39 (F + 1 + 1) h = X := fun X e => e
    rcases w11 with ⟨q, i⟩ | ⟨q1, i1⟩
    · obtain ⟨ns', nt', nu', na', o⟩ := readDef_S A B N Lh q
      refine join (by rw [q]; decide) (fun X e => st X ?_) o
      unfold s_m_parse_39
      exact o_bind i (o_pos one0 (fin ((tk.word (w := 11) (by decide) (by decide)).mp q).2 e))
    · rcases w12 with ⟨q, i⟩ | ⟨q2, i2⟩
      · obtain ⟨ns', nt', nu', na', o⟩ := readDef_T A B N Lh q
        refine join (by rw [q]; decide) (fun X e => st X ?_) o
        unfold s_m_parse_39
        exact o_bind i1 (o_neg (not_not_intro rfl) (o_bind i (o_pos one0 (fin ((tk.word (w := 12) (by decide) (by decide)).mp q).2 e))))
      · rcases w13 with ⟨q, i⟩ | ⟨q3, i3⟩
        · obtain ⟨ns', nt', nu', na', o⟩ := readDef_U A B N Lh q
          refine join (by rw [q]; decide) (fun X e => st X ?_) o
          unfold s_m_parse_39
          exact o_bind i1 (o_neg (not_not_intro rfl) (o_bind i2 (o_neg (not_not_intro rfl) (o_bind i (o_neg one0 (fin ((tk.word (w := 13) (by decide) (by decide)).mp q).2 e))))))
        · have m3 : ∀ X, (Option.bind (f_m_isWord 14 h) fun r40 => (if ¬ r40.1 = 0 then (b_m_parse_102 r40.2) else (Option.bind (f_m_misfit r40.2) fun r44 => (b_m_parse_102 r44.2)))) = X → b_m_parse_39 (F + 1 + 1) h = X := by
            intro X e
            refine st X ?_
            unfold s_m_parse_39
            exact o_bind i1 (o_neg (not_not_intro rfl) (o_bind i2 (o_neg (not_not_intro rfl) (o_bind i3 (o_pos rfl (o_neg (not_not_intro m14') e))))))
          rcases w14 with ⟨q, i⟩ | ⟨q4, i4⟩
          · rw [m3 _ (o_bind i (o_pos one0 rfl))]
            have : b_p_parse_24 (fu + 1) t (nI nd) g = b_p_parse_55 t g := by
              show s_p_parse_24 (b_p_parse_24 fu) _ _ _ = _
              unfold s_p_parse_24
              exact o_pos P.tk (o_pos (by rw [a6]; exact q) rfl)
            rw [this]
            exact rootAll A B N Lh q
          · obtain ⟨u, p, s1, s2, s3, s4, s5, s6⟩ := A.mis
            refine Or.inr ⟨u, p, cs q4 ?_ (o_neg (not_not_intro rfl) rfl), m3 _ (o_bind i4 (o_neg (not_not_intro rfl) (o_bind s2 (nf_102 s6)))), s3, FC.tFq s4, FMx.q14 s5⟩
            unfold f_p_readDefinition
            rw [a6]
            exact o_pos P.tk (o_neg q1 (o_neg q2 (o_neg q3 (o_bind s1 (o_pos (Or.inl rfl) rfl)))))
  intro m
  induction m with
  | zero =>
    intro nd ns nt nu na k fuel F g h e h1 h2 A B N Lh
    obtain ⟨fu, rfl, -⟩ := fuel_pos (show 0 < fuel by omega)
    obtain ⟨F1, rfl, -⟩ := fuel_pos (show 0 < F by omega)
    obtain ⟨F2, rfl, -⟩ := fuel_pos (show 0 < F1 by omega)
    refine one nd ns nt nu na k fu F2 g h (by omega) A B N Lh fun u p k' ns' nt' nu' na' A2 B2 N2 L2 => ?_
    have := B2.2.2.2.2.2.2.2.2.2.2.2
    omega
  | succ m ih =>
    intro nd ns nt nu na k fuel F g h e h1 h2 A B N Lh
    obtain ⟨fu, rfl, -⟩ := fuel_pos (show 0 < fuel by omega)
    obtain ⟨F1, rfl, -⟩ := fuel_pos (show 0 < F by omega)
    obtain ⟨F2, rfl, -⟩ := fuel_pos (show 0 < F1 by omega)
    exact one nd ns nt nu na k fu F2 g h (by omega) A B N Lh fun u p k' ns' nt' nu' na' A2 B2 N2 L2 => ih (nd + 1) ns' nt' nu' na' k' fu (F2 + 1) u p (by omega) (by omega) (by omega) A2 B2 N2 L2
theorem PO.frx {P J W : Nat → Nat → Prop} (A : PO g t S) (F : FRX P J W g u) (w1 : ∀ b k, b < 1317 → ¬ (b = 627 ∨ b = 1243) → ¬ W b k) (w2 : ∀ k, ¬ W t k) (w3 : ¬ P t 7 ∧ ¬ P t 8) : PO u t S := by
  obtain ⟨p0, p1, p2, p3, p4, p5, p6, p7, p8, p9, p10, p11, p12, p13⟩ := A
  have r : ∀ k, hr u t k = hr g t k := fun k => F.rf (w2 k)
  exact ⟨p0.frx F w1, p1, by rw [F.1.1]; exact p2, p3, by rw [F.1.2.2.1]; exact p4, by rw [r]; exact p5, by rw [r]; exact p6, by rw [r]; exact p7, by rw [r]; exact p8, by rw [F.1.2.2.1]; exact p9, by rw [F.1.2.2.2]; exact p10, by rw [F.1.2.2.1]; exact p11, by rw [F.at w3.1]; exact p12, by rw [F.at w3.2]; exact p13⟩
/-- both parse -/
theorem parse2 (P : PO g t S) (K : TOKS T n g h c) (M : MTx h T n) (KC' : KC g S) (Lh : LY h) (t5 : hi g t 5 = 0) (t3 : hi g t 3 = 0) (m : hi h 1262 13 = 0 ∧ hi h 1262 14 = 0 ∧ hi h 1262 16 = 0 ∧ hi h 1262 20 = 0 ∧ hi h 1262 31 = 0 ∧ hi h 1262 41 = 0 ∧ hi h 1262 46 = 0) : POUT S t g h (f_p_parse t g) (b_m_parse_39 100000 h) := by
  have hS := P.2.2.2.1
  have t17 := P.2.1
  have sc := SC.of P.1 hS
  obtain ⟨g1, e1⟩ : ∃ g1, g1 = hsi (hsi (hsi (hsi (hsi g (S + 1) 1 0) (S + 195) 1 0) (S + 517) 1 0) S 4 0) S 5 (-1) := ⟨_, rfl⟩
  have rs : f_s_restart S g = some ((), g1) := by
    unfold f_s_restart
    rw [e1]
    exact o_pos ⟨by have := sc.1; omega, sc.2.2.1⟩ (o_bind sc.2.2.2.1 (o_pos ⟨by have := sc.1; omega, sc.gS.2.2.2.1⟩ (o_bind sc.2.2.2.2.1 (o_pos ⟨by have := sc.1; omega, sc.gT.2.2.2.1⟩ (o_bind sc.2.2.2.2.2.1 (o_pos ⟨by have := sc.1; omega, sc.gU.2.2.2.1⟩ rfl))))))
  have F1 : FRX (fun a k => ((a = S + 1 ∨ a = S + 195 ∨ a = S + 517) ∧ k = 1) ∨ (a = S ∧ 4 ≤ k)) nW nW g g1 := by
    rw [e1]
    exact FRX.si (FRX.si (FRX.si (FRX.si (FRX.si FRX.refl (by simp)) (by simp)) (by simp)) (by simp)) (by simp)
  obtain ⟨g2, e2⟩ : ∃ g2, g2 = hsi g1 t 6 (hi g 8 0) := ⟨_, rfl⟩
  have F2 : FRX (fun a k => ((a = S + 1 ∨ a = S + 195 ∨ a = S + 517) ∧ k = 1) ∨ (a = S ∧ 4 ≤ k) ∨ (a = t ∧ k = 6)) nW nW g g2 := by
    rw [e2]
    exact (F1.mono (fun a k z => z.imp id Or.inl) (fun _ _ z => z) (fun _ _ z => z)).si (Or.inr (Or.inr ⟨rfl, rfl⟩))
  have P1 : PO g1 t S := P.frx F1 (fun _ _ _ _ z => z) (fun _ z => z) ⟨by omega, by omega⟩
  have P2 : PO g2 t S := P.frx F2 (fun _ _ _ _ z => z) (fun _ z => z) ⟨by omega, by omega⟩
  have c1 := K.2.2.1
  have K1 : TOKS T n g1 h c := K.cg (F1.at (by omega)) (F1.row fun k => by omega) (F1.row fun k => by omega) (funext fun k => F1.lg (fun z => z)) (funext fun k => F1.lg (fun z => z)) rfl rfl rfl rfl rfl
  have K2 : TOKS T n g2 h c := K.cg (F2.at (by omega)) (F2.row fun k => by omega) (F2.row fun k => by omega) (funext fun k => F2.lg (fun z => z)) (funext fun k => F2.lg (fun z => z)) rfl rfl rfl rfl rfl
  have g18 : hi g1 8 0 = hi g 8 0 := F1.at (by omega)
  have t51 : hi g1 t 5 = nI 0 := by rw [F1.at (by omega)]; exact t5
  have A : ST T n c g2 h t S 0 := ⟨P2, K2, by omega, by rw [F2.at (by omega)]; exact t5, by rw [e2, hi_at, hi_hsi_ne (by omega)]; exact g18.symm, m.1, m.2.1⟩
  have B : BG T n c S t 0 0 0 0 0 0 0 0 0 0 0 0 g2 h := ⟨M, KC'.frx P.1 F2 (fun a k h1 h2 h3 z => by
      rcases z with ⟨z | z | z, -⟩ | z | z
      · rw [z, sc.gS.2.2.2.1] at h3; exact absurd h3 (by decide)
      · rw [z, sc.gT.2.2.2.1] at h3; exact absurd h3 (by decide)
      · rw [z, sc.gU.2.2.2.1] at h3; exact absurd h3 (by decide)
      · omega
      · omega), fun d hd => absurd hd (Nat.not_lt_zero d), fun d hd => absurd hd (Nat.not_lt_zero d), fun d hd => absurd hd (Nat.not_lt_zero d), fun d hd => absurd hd (Nat.not_lt_zero d), fun d hd => absurd hd (Nat.not_lt_zero d), fun d hd => absurd hd (Nat.not_lt_zero d), fun d hd => absurd hd (Nat.not_lt_zero d), fun i _ hd => absurd hd (Nat.not_lt_zero i), fun i j _ hd => absurd hd (Nat.not_lt_zero j), by omega⟩
  have ne : ∀ b, b ≠ t → hi g2 b = hi g1 b := fun b hb => by rw [e2, hi_hsi_ne hb]
  have N : CN S t 0 0 0 0 0 0 0 0 g2 h := by
    refine ⟨?_, m.2.2.1, ?_, ?_, ?_, m.2.2.2.1, m.2.2.2.2.1, m.2.2.2.2.2.1, by rw [F2.at (by omega)]; exact t3, m.2.2.2.2.2.2⟩
    · rw [ne _ (by omega), e1, hi_nk (by decide), hi_at]; rfl
    · rw [ne _ (by omega), e1, hi_hsi_ne (by omega), hi_hsi_ne (by omega), hi_hsi_ne (by omega), hi_hsi_ne (by omega), hi_at]; rfl
    · rw [ne _ (by omega), e1, hi_hsi_ne (by omega), hi_hsi_ne (by omega), hi_hsi_ne (by omega), hi_at]; rfl
    · rw [ne _ (by omega), e1, hi_hsi_ne (by omega), hi_hsi_ne (by omega), hi_at]; rfl
  have r := parseLoop 36 0 0 0 0 0 0 100000 100000 g2 h (by omega) (by omega) (by omega) A B N Lh
  have cp : f_p_parse t g = b_p_parse_24 100000 t (nI 0) g2 := by
    unfold f_p_parse
    refine o_pos P.tk (o_bind P.2.2.2.2.2.2.1 (o_pos ⟨by have := sc.1; omega, sc.2.2.1⟩ (o_bind rs (o_pos P1.tk (o_bind P1.2.2.2.2.2.1 (o_pos rfl (o_bind (v := (hi g1 8 0, g1)) (by show f_x_kind (hi g1 t 5) g1 = _; rw [t51]; exact e_x_kind K1 (by omega)) (o_pos P1.tk ?_))))))))
    show b_p_parse_24 100000 t 0 (hsi g1 t 6 (hi g1 8 0)) = _
    rw [g18, ← e2]
    rfl
  rw [cp]
  refine r.pre (F2.mono (fun a k z => ?_) (fun _ _ z => z.elim) (fun _ _ z => z.elim)) FRX.refl
  rcases z with ⟨z1 | z1 | z1, -⟩ | z | z
  · exact Or.inr ⟨Or.inr (by rw [z1, sc.gS.2.2.2.1]; decide), by omega, by omega⟩
  · exact Or.inr ⟨Or.inr (by rw [z1, sc.gT.2.2.2.1]; decide), by omega, by omega⟩
  · exact Or.inr ⟨Or.inr (by rw [z1, sc.gU.2.2.2.1]; decide), by omega, by omega⟩
  · exact Or.inr ⟨Or.inl (by omega), by omega, by omega⟩
  · exact Or.inl (by omega)
end Pa
