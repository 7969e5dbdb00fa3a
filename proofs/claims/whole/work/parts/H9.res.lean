/-! The parsers: names resolved -/

def reP (a a' k : Nat) : Prop := a' = a ∧ 3 ≤ k ∧ k ≤ 5
def reM (x a' k : Nat) : Prop := 1286 ≤ a' ∧ a' ≤ 1288 ∧ k = x
def reU (x a' k : Nat) : Prop := a' = 1294 ∧ k = x
section Re
variable {T : Nat → Nat} {n c t S k nd ns nt nu na lo a x s f : Nat} {g h u p : XH}
theorem BG.resT (A : BG T n c S t nd ns 0 nt 0 nu 0 na ns nt nu lo g h) (L : LY g) (t17 : 1317 ≤ t) (hlo : lo < na) (r : hr g (t + 1) lo = some a) (hs : s < nt) (hf : f < 16) (ea : a = dT S s + 2 + f) (ex : x = 16 * s + f) (F : FRX (reP a) nW nW g u) (G : FRX (reM x) nW nW h p) (kn : TF c t ns nt nu lo na g h a x → TFk ns nt nu u p a x) : BG T n c S t nd ns 0 nt 0 nu 0 na ns nt nu (lo + 1) u p := by
  obtain ⟨M, K, D, SS, SC', TT, TC, UU, UC, E, I, ⟨l1, l2, l3, l4, l5, l6, l7, l8, l9, l10, l11, l12, l13, l14⟩⟩ := A
  have S1 := K.1
  have ra : S + 197 ≤ a ∧ a < S + 517 := by unfold dT at ea; omega
  have ua : ∀ b k, b ≠ a → hi u b k = hi g b k := fun b k hb => F.at (fun z => hb z.1)
  have a8 : ∀ k, hi u 8 k = hi g 8 k := fun k => ua 8 k (by omega)
  have b10 : ∀ k, hj u 10 k = hj g 10 k := fun k => F.lg (fun z => z)
  have b11 : ∀ k, hj u 11 k = hj g 11 k := fun k => F.lg (fun z => z)
  have e3 : ∀ i, hr u (t + 1) i = hr g (t + 1) i := fun i => F.rf (fun z => z)
  refine ⟨?_, K.frx L F (fun b k h1 h2 h3 z => by unfold reP at z; omega), fun d hd => ?_, fun s' hs' => ?_, fun j hj' => absurd hj' (Nat.not_lt_zero j), fun s' hs' => ?_, fun j hj' => absurd hj' (Nat.not_lt_zero j), fun s' hs' => ?_, fun j hj' => absurd hj' (Nat.not_lt_zero j), fun i h1 h2 => ?_, fun i j h1 h2 => by rw [e3, e3]; exact I i j h1 h2, ⟨l1, l2, l3, l4, l5, l6, l7, l8, l9, l10, l11, l12, l13, l14⟩⟩
  · obtain ⟨m1, m2, m3, m4⟩ := M
    exact ⟨by rw [G.at (by unfold reM; omega)]; exact m1, m2, m3, fun k hk' => by rw [G.at (by unfold reM; omega)]; exact m4 k hk'⟩
  · obtain ⟨ad, so, no, d1, d2, d3, d4, d5⟩ := D d hd
    refine ⟨ad, so, no, by rw [F.rf (fun z => z)]; exact d1, d2, by rw [G.at (by unfold reM; omega)]; exact d3, by rw [G.at (by unfold reM; omega)]; exact d4, ?_⟩
    rw [G.at (show ¬ reM x 1270 d by unfold reM; omega), F.lg (fun z => z), F.lg (fun z => z)]
    exact d5.cg a8 b10 b11
  · exact (SS s' hs').cg a8 b10 b11 (fun b k h1 h2 => ua b k (by unfold dS at *; omega)) (fun b k h1 h2 => F.lg (fun z => z)) (fun b k h1 h2 => G.at (by unfold reM; omega)) (fun b k h1 h2 h3 => G.at (by unfold reM; omega)) (fun b k h1 h2 => G.at (by unfold reM; omega))
  · obtain ⟨m, m1, m2, m3, m4⟩ := TT s' hs'
    refine ⟨m, m1, by rw [ua _ _ (by unfold dT at *; omega)]; exact m2, by rw [G.at (by unfold reM; omega)]; exact m3, fun f' hf' => ?_⟩
    have o := m4 f' hf'
    by_cases cc : s' = s ∧ f' = f
    · rw [cc.1, cc.2] at o ⊢
      rw [← ea, ← ex] at o ⊢
      have o0 := kn o
      obtain ⟨o1, ⟨ne, o2, o3, o4⟩, o5, -⟩ := o
      refine ⟨?_, ⟨ne, o2, by rw [F.at (by unfold reP; omega)]; exact o3, by rw [G.at (by unfold reM; omega)]; exact o4⟩, by rw [F.lg (fun z => z), G.lg (fun z => z)]; exact o5, Or.inl o0⟩
      rw [G.at (by unfold reM; omega), F.lg (fun z => z), F.lg (fun z => z)]
      exact o1.cg a8 b10 b11
    · have na' : dT S s' + 2 + f' ≠ a := by unfold dT at *; omega
      have nx : 16 * s' + f' ≠ x := by omega
      have o' := o.cg (u := u) (p := p) a8 b10 b11 (fun k => ua _ k na') (fun k => F.lg (fun z => z)) (fun i _ => e3 i) (fun b h1 h2 => G.at (by unfold reM; omega)) (G.lg (fun z => z))
      obtain ⟨o1, o2, o3, o4⟩ := o'
      refine ⟨o1, o2, o3, o4.imp id fun ⟨q, i, i1, i2, i3⟩ => ⟨q, i, ?_, i2, i3⟩⟩
      rcases Nat.lt_or_ge lo i with z | z
      · exact z
      · have : i = lo := by omega
        rw [this, e3, r] at i3
        injection i3 with i3
        exact absurd i3.symm na'
  · obtain ⟨m, m0, m1, m2, m3, m4⟩ := UU s' hs'
    refine ⟨m, m0, m1, by rw [ua _ _ (by unfold dU at *; omega)]; exact m2, by rw [G.at (by unfold reM; omega)]; exact m3, fun f' hf' => ?_⟩
    have na' : dU S s' + 2 + f' ≠ a := by unfold dU at *; omega
    have o' := (m4 f' hf').cg (u := u) (p := p) a8 b10 b11 (fun k => ua _ k na') (fun k => F.lg (fun z => z)) (fun i _ => e3 i) (fun b h1 h2 => G.at (by unfold reM; omega))
    obtain ⟨o1, o2⟩ := o'
    refine ⟨o1, o2.imp id fun ⟨i, i1, i2, i3⟩ => ⟨i, ?_, i2, i3⟩⟩
    rcases Nat.lt_or_ge lo i with z | z
    · exact z
    · have : i = lo := by omega
      rw [this, e3, r] at i3
      injection i3 with i3
      exact absurd i3.symm na'
  · obtain ⟨a', k, w, x', a1, a2, a3, a4, a5, a6, a7, a9⟩ := E i (by omega) h2
    have na' : a' ≠ a := fun z => I lo i (by omega) h2 (by rw [r, a1, z])
    refine ⟨a', k, w, x', by rw [e3]; exact a1, by rw [ua _ _ na']; exact a2, by rw [G.at (by unfold reM; omega)]; exact a3, a4, by rw [a8]; exact a5, by rw [G.at (by unfold reM; omega)]; exact a6, by rw [G.at (by unfold reM; omega)]; exact a7, ?_⟩
    rcases a9 with ⟨s', f', q1, q2, q3, q4, q5, q6⟩ | ⟨s', f', q1, q2, q3, q4, q5, q6, q7⟩
    · have nx : x' ≠ x := by unfold dT at *; omega
      refine Or.inl ⟨s', f', q1, q2, q3, q4, q5, ?_⟩
      rw [ua _ _ na', ua _ _ na', G.at (show ¬ reM x 1288 x' by unfold reM; omega), G.at (show ¬ reM x 1286 x' by unfold reM; omega)]
      exact q6
    · exact Or.inr ⟨s', f', q1, q2, q3, q4, q5, q6, by rw [ua _ _ na']; exact q7⟩
theorem BG.resU {o : Nat} (A : BG T n c S t nd ns 0 nt 0 nu 0 na ns nt nu lo g h) (L : LY g) (t17 : 1317 ≤ t) (hlo : lo < na) (r : hr g (t + 1) lo = some a) (hs : s < nu) (hf : f < 8) (ea : a = dU S s + 2 + f) (ex : x = 8 * s + f) (F : FRX (reP a) nW nW g u) (G : FRX (reU x) nW nW h p) (kn : o < nt ∧ hi u a 4 = nI o ∧ hi p 1294 x = nI o) : BG T n c S t nd ns 0 nt 0 nu 0 na ns nt nu (lo + 1) u p := by
  obtain ⟨M, K, D, SS, SC', TT, TC, UU, UC, E, I, ⟨l1, l2, l3, l4, l5, l6, l7, l8, l9, l10, l11, l12, l13, l14⟩⟩ := A
  have S1 := K.1
  have ra : S + 519 ≤ a ∧ a < S + 615 := by unfold dU at ea; omega
  have ua : ∀ b k, b ≠ a → hi u b k = hi g b k := fun b k hb => F.at (fun z => hb z.1)
  have a8 : ∀ k, hi u 8 k = hi g 8 k := fun k => ua 8 k (by omega)
  have b10 : ∀ k, hj u 10 k = hj g 10 k := fun k => F.lg (fun z => z)
  have b11 : ∀ k, hj u 11 k = hj g 11 k := fun k => F.lg (fun z => z)
  have e3 : ∀ i, hr u (t + 1) i = hr g (t + 1) i := fun i => F.rf (fun z => z)
  refine ⟨?_, K.frx L F (fun b k h1 h2 h3 z => by unfold reP at z; omega), fun d hd => ?_, fun s' hs' => ?_, fun j hj' => absurd hj' (Nat.not_lt_zero j), fun s' hs' => ?_, fun j hj' => absurd hj' (Nat.not_lt_zero j), fun s' hs' => ?_, fun j hj' => absurd hj' (Nat.not_lt_zero j), fun i h1 h2 => ?_, fun i j h1 h2 => by rw [e3, e3]; exact I i j h1 h2, ⟨l1, l2, l3, l4, l5, l6, l7, l8, l9, l10, l11, l12, l13, l14⟩⟩
  · obtain ⟨m1, m2, m3, m4⟩ := M
    exact ⟨by rw [G.at (by unfold reU; omega)]; exact m1, m2, m3, fun k hk' => by rw [G.at (by unfold reU; omega)]; exact m4 k hk'⟩
  · obtain ⟨ad, so, no, d1, d2, d3, d4, d5⟩ := D d hd
    refine ⟨ad, so, no, by rw [F.rf (fun z => z)]; exact d1, d2, by rw [G.at (by unfold reU; omega)]; exact d3, by rw [G.at (by unfold reU; omega)]; exact d4, ?_⟩
    rw [G.at (show ¬ reU x 1270 d by unfold reU; omega), F.lg (fun z => z), F.lg (fun z => z)]
    exact d5.cg a8 b10 b11
  · exact (SS s' hs').cg a8 b10 b11 (fun b k h1 h2 => ua b k (by unfold dS at *; omega)) (fun b k h1 h2 => F.lg (fun z => z)) (fun b k h1 h2 => G.at (by unfold reU; omega)) (fun b k h1 h2 h3 => G.at (by unfold reU; omega)) (fun b k h1 h2 => G.at (by unfold reU; omega))
  · obtain ⟨m, m1, m2, m3, m4⟩ := TT s' hs'
    refine ⟨m, m1, by rw [ua _ _ (by unfold dT at *; omega)]; exact m2, by rw [G.at (by unfold reU; omega)]; exact m3, fun f' hf' => ?_⟩
    have na' : dT S s' + 2 + f' ≠ a := by unfold dT at *; omega
    have o' := (m4 f' hf').cg (u := u) (p := p) a8 b10 b11 (fun k => ua _ k na') (fun k => F.lg (fun z => z)) (fun i _ => e3 i) (fun b h1 h2 => G.at (by unfold reU; omega)) (G.lg (fun z => z))
    obtain ⟨o1, o2, o3, o4⟩ := o'
    refine ⟨o1, o2, o3, o4.imp id fun ⟨q, i, i1, i2, i3⟩ => ⟨q, i, ?_, i2, i3⟩⟩
    rcases Nat.lt_or_ge lo i with z | z
    · exact z
    · have : i = lo := by omega
      rw [this, e3, r] at i3
      injection i3 with i3
      exact absurd i3.symm na'
  · obtain ⟨m, m0, m1, m2, m3, m4⟩ := UU s' hs'
    refine ⟨m, m0, m1, by rw [ua _ _ (by unfold dU at *; omega)]; exact m2, by rw [G.at (by unfold reU; omega)]; exact m3, fun f' hf' => ?_⟩
    have o := m4 f' hf'
    by_cases cc : s' = s ∧ f' = f
    · rw [cc.1, cc.2] at o ⊢
      rw [← ea, ← ex] at o ⊢
      refine ⟨?_, Or.inl ⟨_, kn⟩⟩
      rw [G.at (by unfold reU; omega), F.lg (fun z => z), F.lg (fun z => z)]
      exact o.1.cg a8 b10 b11
    · have na' : dU S s' + 2 + f' ≠ a := by unfold dU at *; omega
      have nx : 8 * s' + f' ≠ x := by omega
      have o' := o.cg (u := u) (p := p) a8 b10 b11 (fun k => ua _ k na') (fun k => F.lg (fun z => z)) (fun i _ => e3 i) (fun b h1 h2 => G.at (by unfold reU; omega))
      obtain ⟨o1, o2⟩ := o'
      refine ⟨o1, o2.imp id fun ⟨i, i1, i2, i3⟩ => ⟨i, ?_, i2, i3⟩⟩
      rcases Nat.lt_or_ge lo i with z | z
      · exact z
      · have : i = lo := by omega
        rw [this, e3, r] at i3
        injection i3 with i3
        exact absurd i3.symm na'
  · obtain ⟨a', k, w, x', a1, a2, a3, a4, a5, a6, a7, a9⟩ := E i (by omega) h2
    have na' : a' ≠ a := fun z => I lo i (by omega) h2 (by rw [r, a1, z])
    refine ⟨a', k, w, x', by rw [e3]; exact a1, by rw [ua _ _ na']; exact a2, by rw [G.at (by unfold reU; omega)]; exact a3, a4, by rw [a8]; exact a5, by rw [G.at (by unfold reU; omega)]; exact a6, by rw [G.at (by unfold reU; omega)]; exact a7, ?_⟩
    rcases a9 with ⟨s', f', q1, q2, q3, q4, q5, q6⟩ | ⟨s', f', q1, q2, q3, q4, q5, q6, q7⟩
    · refine Or.inl ⟨s', f', q1, q2, q3, q4, q5, ?_⟩
      rw [ua _ _ na', ua _ _ na', G.at (show ¬ reU x 1288 x' by unfold reU; omega), G.at (show ¬ reU x 1286 x' by unfold reU; omega)]
      exact q6
    · exact Or.inr ⟨s', f', q1, q2, q3, q4, q5, q6, by rw [ua _ _ na']; exact q7⟩
end Re
def wOK (w so : Nat) : Prop := w = 0 ∨ so = 3 ∨ (w = 1 ∧ so = 2)
section Rv
variable {T : Nat → Nat} {n c t S nd ns nt nu na es et eu a w kk lo d so no x m : Nat} {g h : XH}
theorem resolve_c (P : PO g t S) (K : TOKS T n g h c) (M : MTx h T n) (KC' : KC g S) (l1 : es ≤ 12) (l2 : et ≤ 16) (l3 : eu ≤ 8) (hd : nd = es + et + eu) (D : ∀ d, d < nd → DE c S es et eu g h d) (e4 : hi g S 4 = nI nd) (e16 : hi h 1262 16 = nI nd) (ak : a < hz g ∧ hk g a = 3) (i2 : hi g a 2 = nI kk) (hk' : kk < c) (q : hi g 8 kk = 2) (cs : (w = 0 ∧ hi g a 3 = -1) ∨ (w = 1 ∧ hi g a 3 = 5) ∨ (w = 2 ∧ hi g a 3 = 3)) : (∃ d ad so no, d < nd ∧ DA S es et eu ad so no ∧ f_m_definition (nI kk) h = some (nI d, h) ∧ hi h 1271 d = nI so ∧ hi h 1272 d = nI no ∧ wOK w so ∧ ((w = 1 ∧ f_p_resolve t a g = some (1, hsi (hsi g a 4 (nI no)) a 5 (nI so))) ∨ (¬ w = 1 ∧ f_p_resolve t a g = some (1, hsi (hsi g a 4 (nI no)) a 3 (nI so))))) ∨ ((f_m_definition (nI kk) h = some (-1, h) ∨ ∃ d ad so no, d < nd ∧ DA S es et eu ad so no ∧ f_m_definition (nI kk) h = some (nI d, h) ∧ hi h 1271 d = nI so ∧ ¬ wOK w so) ∧ f_p_resolve t a g = some (0, hsi (hsi g t 7 5) t 8 (hi g 9 kk))) := by
  have sc := SC.of P.1 P.2.2.2.1
  have t17 := P.2.1
  have tk := P.tk
  have h0 : hr g t 0 = some 7 := P.2.2.2.2.2.1
  have h1 : hr g t 1 = some S := P.2.2.2.2.2.2.1
  have s9 : S < hz g ∧ hk g S = 9 := ⟨by have := sc.1; omega, sc.2.2.1⟩
  have cc : ∀ (r : Option Nat) (X : Option (Int32 × XH)), f_s_named S (hj g 10 kk) (hj g 11 kk) g = some (r, g) → (Option.elim r (b_p_resolve_41 t (nI kk) g) fun b31 => (Option.bind (f_p_mayStand a b31 g) fun r32 => (if ¬ r32.1 = 0 then (if b31 < hz r32.2 ∧ hk r32.2 b31 = 2 then (if a < hz r32.2 ∧ hk r32.2 a = 3 then (if ¬ (hi r32.2 a 3) = 5 then (some (1, (hsi (hsi r32.2 a 4 (hi r32.2 b31 1)) a 3 (hi r32.2 b31 0)))) else (some (1, (hsi (hsi r32.2 a 4 (hi r32.2 b31 1)) a 5 (hi r32.2 b31 0))))) else none) else none) else (b_p_resolve_41 t (nI kk) r32.2)))) = X → f_p_resolve t a g = X := by
    intro r X e1 e2
    unfold f_p_resolve
    rw [i2]
    exact o_pos ak (o_pos tk (o_bind h1 (o_bind h0 (o_pos rfl (o_bind (e_x_head (u := g) K hk' rfl) (o_pos tk (o_bind h0 (o_pos rfl (o_bind (e_x_tail (u := g) K hk' rfl) (o_pos s9 (o_bind e1 e2)))))))))))
  have bad : b_p_resolve_41 t (nI kk) g = some (0, hsi (hsi g t 7 5) t 8 (hi g 9 kk)) := by
    unfold b_p_resolve_41
    have pl := e_x_place (u := hsi g t 7 5) K hk' (by rw [hi_hsi_ne (by omega)])
    rw [hi_hsi_ne (show 9 ≠ t by omega)] at pl
    exact o_pos tk (o_bind h0 (o_pos rfl (o_bind pl (o_pos tk rfl))))
  rcases named2 M K sc l1 l2 l3 hd D e4 e16 hk' q with ⟨w1, w2⟩ | ⟨d, ad, so, no, w0, wd, w1, w2, w3, w4⟩
  · exact Or.inr ⟨Or.inl w2, cc _ _ w1 (o_elimn bad)⟩
  · have da := wd.at sc l1 l2 l3
    obtain ⟨k0, k1⟩ := KC'.da wd l1 l2 l3
    have so4 : so = 2 ∨ so = 3 ∨ so = 4 := by unfold DA at wd; omega
    have c2 : ∀ (X : Option (Int32 × XH)), (Option.bind (f_p_mayStand a ad g) fun r32 => (if ¬ r32.1 = 0 then (if ad < hz r32.2 ∧ hk r32.2 ad = 2 then (if a < hz r32.2 ∧ hk r32.2 a = 3 then (if ¬ (hi r32.2 a 3) = 5 then (some (1, (hsi (hsi r32.2 a 4 (hi r32.2 ad 1)) a 3 (hi r32.2 ad 0)))) else (some (1, (hsi (hsi r32.2 a 4 (hi r32.2 ad 1)) a 5 (hi r32.2 ad 0))))) else none) else none) else (b_p_resolve_41 t (nI kk) r32.2))) = X → f_p_resolve t a g = X := fun X e => cc _ _ w1 (o_elim e)
    by_cases ok : wOK w so
    · have ms : f_p_mayStand a ad g = some (1, g) := by
        unfold f_p_mayStand b_p_mayStand_38
        rw [k0]
        rcases cs with ⟨c1, c3⟩ | ⟨c1, c3⟩ | ⟨c1, c3⟩ <;> rw [c3]
        · exact o_pos ak (o_pos (by decide) (o_pos (by decide) rfl))
        · exact o_pos ak (o_neg (by decide) (o_pos da (o_neg (by unfold wOK at ok; (first | (simp (maxSteps := 4000000) (disch := omega) only [n_0, n_1, n_2, n_3, n_4, n_5, n_6, n_7, n_8, n_9, n_10, n_11, n_12, n_13, n_14, n_15, n_16, n_18, n_20, n_24, n_31, n_32, n_34, n_40, n_41, n_44, n_45, n_47, n_48, n_57, n_58, n_59, n_61, n_63, n_64, n_65, n_68, n_90, n_91, n_93, n_95, n_97, n_100, n_122, n_123, n_125, n_128, n_144, n_200, n_255, n_256, n_300, n_400, n_600, n_1536, n_3980, n_4000, n_4001, n_4300, n_65536, l_0, l_1, l_2, l_3, l_4, l_10, l_48, l_63, l_255, l_300, nI_ltI, nI_leI, nI_eq, nI_clamp, nI_add, pk_sub, pk_mul, nI_ne1, ne1_nI, nI_pge, nI_nlt0, nI_l, lN_i, lN_add, lN_mul, lN_sub, pk_lLT, pk_lLE, pk_lEQ, lg_lt, lg_ge, lg_eq0, lg_le, lg_gt, lg_ltn, lg_gen, lg_eq0n, lg_len, lg_gtn, Nat.zero_le, Nat.not_lt_zero, not_false_eq_true, not_true_eq_false, true_and, and_true]; done) | (simp (maxSteps := 4000000) (disch := omega) only [n_0, n_1, n_2, n_3, n_4, n_5, n_6, n_7, n_8, n_9, n_10, n_11, n_12, n_13, n_14, n_15, n_16, n_18, n_20, n_24, n_31, n_32, n_34, n_40, n_41, n_44, n_45, n_47, n_48, n_57, n_58, n_59, n_61, n_63, n_64, n_65, n_68, n_90, n_91, n_93, n_95, n_97, n_100, n_122, n_123, n_125, n_128, n_144, n_200, n_255, n_256, n_300, n_400, n_600, n_1536, n_3980, n_4000, n_4001, n_4300, n_65536, l_0, l_1, l_2, l_3, l_4, l_10, l_48, l_63, l_255, l_300, nI_ltI, nI_leI, nI_eq, nI_clamp, nI_add, pk_sub, pk_mul, nI_ne1, ne1_nI, nI_pge, nI_nlt0, nI_l, lN_i, lN_add, lN_mul, lN_sub, pk_lLT, pk_lLE, pk_lEQ, lg_lt, lg_ge, lg_eq0, lg_le, lg_gt, lg_ltn, lg_gen, lg_eq0n, lg_len, lg_gtn, Nat.zero_le, Nat.not_lt_zero, not_false_eq_true, not_true_eq_false, true_and, and_true]; omega) | omega)) rfl)))
        · exact o_pos ak (o_pos (by decide) (o_neg (by decide) (o_pos da (o_neg (by unfold wOK at ok; have : so = 3 := (by omega); rw [this]; decide) rfl))))
      refine Or.inl ⟨d, ad, so, no, w0, wd, w2, w3, w4, ok, ?_⟩
      rcases cs with ⟨c1, c3⟩ | ⟨c1, c3⟩ | ⟨c1, c3⟩
      · exact Or.inr ⟨by omega, c2 _ (o_bind ms (o_pos one0 (o_pos da (o_pos ak (o_pos (show ¬ hi g a 3 = 5 by rw [c3]; decide) (show some ((1 : Int32), (hsi (hsi g a 4 (hi g ad 1)) a 3 (hi g ad 0))) = _ by rw [k0, k1]))))))⟩
      · exact Or.inl ⟨c1, c2 _ (o_bind ms (o_pos one0 (o_pos da (o_pos ak (o_neg (show ¬ ¬ hi g a 3 = 5 by rw [c3]; decide) (show some ((1 : Int32), (hsi (hsi g a 4 (hi g ad 1)) a 5 (hi g ad 0))) = _ by rw [k0, k1]))))))⟩
      · exact Or.inr ⟨by omega, c2 _ (o_bind ms (o_pos one0 (o_pos da (o_pos ak (o_pos (show ¬ hi g a 3 = 5 by rw [c3]; decide) (show some ((1 : Int32), (hsi (hsi g a 4 (hi g ad 1)) a 3 (hi g ad 0))) = _ by rw [k0, k1]))))))⟩
    · have ms : f_p_mayStand a ad g = some (0, g) := by
        unfold f_p_mayStand b_p_mayStand_38
        rw [k0]
        unfold wOK at ok
        rcases cs with ⟨c1, c3⟩ | ⟨c1, c3⟩ | ⟨c1, c3⟩
        · exact absurd (Or.inl c1) ok
        · rw [c3]
          have : so = 4 := by omega
          rw [this]
          exact o_pos ak (o_neg (by decide) (o_pos da (o_pos (by decide) rfl)))
        · rw [c3]
          exact o_pos ak (o_pos (by decide) (o_neg (by decide) (o_pos da (o_pos (show ¬ nI so = 3 by (first | (simp (maxSteps := 4000000) (disch := omega) only [n_0, n_1, n_2, n_3, n_4, n_5, n_6, n_7, n_8, n_9, n_10, n_11, n_12, n_13, n_14, n_15, n_16, n_18, n_20, n_24, n_31, n_32, n_34, n_40, n_41, n_44, n_45, n_47, n_48, n_57, n_58, n_59, n_61, n_63, n_64, n_65, n_68, n_90, n_91, n_93, n_95, n_97, n_100, n_122, n_123, n_125, n_128, n_144, n_200, n_255, n_256, n_300, n_400, n_600, n_1536, n_3980, n_4000, n_4001, n_4300, n_65536, l_0, l_1, l_2, l_3, l_4, l_10, l_48, l_63, l_255, l_300, nI_ltI, nI_leI, nI_eq, nI_clamp, nI_add, pk_sub, pk_mul, nI_ne1, ne1_nI, nI_pge, nI_nlt0, nI_l, lN_i, lN_add, lN_mul, lN_sub, pk_lLT, pk_lLE, pk_lEQ, lg_lt, lg_ge, lg_eq0, lg_le, lg_gt, lg_ltn, lg_gen, lg_eq0n, lg_len, lg_gtn, Nat.zero_le, Nat.not_lt_zero, not_false_eq_true, not_true_eq_false, true_and, and_true]; done) | (simp (maxSteps := 4000000) (disch := omega) only [n_0, n_1, n_2, n_3, n_4, n_5, n_6, n_7, n_8, n_9, n_10, n_11, n_12, n_13, n_14, n_15, n_16, n_18, n_20, n_24, n_31, n_32, n_34, n_40, n_41, n_44, n_45, n_47, n_48, n_57, n_58, n_59, n_61, n_63, n_64, n_65, n_68, n_90, n_91, n_93, n_95, n_97, n_100, n_122, n_123, n_125, n_128, n_144, n_200, n_255, n_256, n_300, n_400, n_600, n_1536, n_3980, n_4000, n_4001, n_4300, n_65536, l_0, l_1, l_2, l_3, l_4, l_10, l_48, l_63, l_255, l_300, nI_ltI, nI_leI, nI_eq, nI_clamp, nI_add, pk_sub, pk_mul, nI_ne1, ne1_nI, nI_pge, nI_nlt0, nI_l, lN_i, lN_add, lN_mul, lN_sub, pk_lLT, pk_lLE, pk_lEQ, lg_lt, lg_ge, lg_eq0, lg_le, lg_gt, lg_ltn, lg_gen, lg_eq0n, lg_len, lg_gtn, Nat.zero_le, Nat.not_lt_zero, not_false_eq_true, not_true_eq_false, true_and, and_true]; omega) | omega)) rfl))))
      exact Or.inr ⟨Or.inr ⟨d, ad, so, no, w0, wd, w2, w3, ok⟩, c2 _ (o_bind ms (o_neg (not_not_intro rfl) bad))⟩
theorem resolve_m_ok {K : Int32 → XH → Option (Unit × XH)} (m14' : hi h 1262 14 = 0) (e46 : hi h 1262 46 = nI m) (hl : lo < m) (m4 : m ≤ 321) (i95 : hi h 1295 lo = nI kk) (i96 : hi h 1296 lo = nI w) (w2 : w ≤ 2) (df : f_m_definition (nI kk) h = some (nI d, h)) (d40 : d < 40) (i71 : hi h 1271 d = nI so) (so4 : so ≤ 4) (ok : wOK w so) : s_m_resolve_2 K (nI lo) h = b_m_resolve_77 K (nI lo) (nI d) 1 h := by
  have lk : 0 ≤ nI lo ∧ nI lo < nI 400 := ⟨nI_pos' (by omega), by (first | (simp (maxSteps := 4000000) (disch := omega) only [n_0, n_1, n_2, n_3, n_4, n_5, n_6, n_7, n_8, n_9, n_10, n_11, n_12, n_13, n_14, n_15, n_16, n_18, n_20, n_24, n_31, n_32, n_34, n_40, n_41, n_44, n_45, n_47, n_48, n_57, n_58, n_59, n_61, n_63, n_64, n_65, n_68, n_90, n_91, n_93, n_95, n_97, n_100, n_122, n_123, n_125, n_128, n_144, n_200, n_255, n_256, n_300, n_400, n_600, n_1536, n_3980, n_4000, n_4001, n_4300, n_65536, l_0, l_1, l_2, l_3, l_4, l_10, l_48, l_63, l_255, l_300, nI_ltI, nI_leI, nI_eq, nI_clamp, nI_add, pk_sub, pk_mul, nI_ne1, ne1_nI, nI_pge, nI_nlt0, nI_l, lN_i, lN_add, lN_mul, lN_sub, pk_lLT, pk_lLE, pk_lEQ, lg_lt, lg_ge, lg_eq0, lg_le, lg_gt, lg_ltn, lg_gen, lg_eq0n, lg_len, lg_gtn, Nat.zero_le, Nat.not_lt_zero, not_false_eq_true, not_true_eq_false, true_and, and_true]; done) | (simp (maxSteps := 4000000) (disch := omega) only [n_0, n_1, n_2, n_3, n_4, n_5, n_6, n_7, n_8, n_9, n_10, n_11, n_12, n_13, n_14, n_15, n_16, n_18, n_20, n_24, n_31, n_32, n_34, n_40, n_41, n_44, n_45, n_47, n_48, n_57, n_58, n_59, n_61, n_63, n_64, n_65, n_68, n_90, n_91, n_93, n_95, n_97, n_100, n_122, n_123, n_125, n_128, n_144, n_200, n_255, n_256, n_300, n_400, n_600, n_1536, n_3980, n_4000, n_4001, n_4300, n_65536, l_0, l_1, l_2, l_3, l_4, l_10, l_48, l_63, l_255, l_300, nI_ltI, nI_leI, nI_eq, nI_clamp, nI_add, pk_sub, pk_mul, nI_ne1, ne1_nI, nI_pge, nI_nlt0, nI_l, lN_i, lN_add, lN_mul, lN_sub, pk_lLT, pk_lLE, pk_lEQ, lg_lt, lg_ge, lg_eq0, lg_le, lg_gt, lg_ltn, lg_gen, lg_eq0n, lg_len, lg_gtn, Nat.zero_le, Nat.not_lt_zero, not_false_eq_true, not_true_eq_false, true_and, and_true]; omega) | omega)⟩
  have dk : 0 ≤ nI d ∧ nI d < nI 40 := ⟨nI_pos' (by omega), by (first | (simp (maxSteps := 4000000) (disch := omega) only [n_0, n_1, n_2, n_3, n_4, n_5, n_6, n_7, n_8, n_9, n_10, n_11, n_12, n_13, n_14, n_15, n_16, n_18, n_20, n_24, n_31, n_32, n_34, n_40, n_41, n_44, n_45, n_47, n_48, n_57, n_58, n_59, n_61, n_63, n_64, n_65, n_68, n_90, n_91, n_93, n_95, n_97, n_100, n_122, n_123, n_125, n_128, n_144, n_200, n_255, n_256, n_300, n_400, n_600, n_1536, n_3980, n_4000, n_4001, n_4300, n_65536, l_0, l_1, l_2, l_3, l_4, l_10, l_48, l_63, l_255, l_300, nI_ltI, nI_leI, nI_eq, nI_clamp, nI_add, pk_sub, pk_mul, nI_ne1, ne1_nI, nI_pge, nI_nlt0, nI_l, lN_i, lN_add, lN_mul, lN_sub, pk_lLT, pk_lLE, pk_lEQ, lg_lt, lg_ge, lg_eq0, lg_le, lg_gt, lg_ltn, lg_gen, lg_eq0n, lg_len, lg_gtn, Nat.zero_le, Nat.not_lt_zero, not_false_eq_true, not_true_eq_false, true_and, and_true]; done) | (simp (maxSteps := 4000000) (disch := omega) only [n_0, n_1, n_2, n_3, n_4, n_5, n_6, n_7, n_8, n_9, n_10, n_11, n_12, n_13, n_14, n_15, n_16, n_18, n_20, n_24, n_31, n_32, n_34, n_40, n_41, n_44, n_45, n_47, n_48, n_57, n_58, n_59, n_61, n_63, n_64, n_65, n_68, n_90, n_91, n_93, n_95, n_97, n_100, n_122, n_123, n_125, n_128, n_144, n_200, n_255, n_256, n_300, n_400, n_600, n_1536, n_3980, n_4000, n_4001, n_4300, n_65536, l_0, l_1, l_2, l_3, l_4, l_10, l_48, l_63, l_255, l_300, nI_ltI, nI_leI, nI_eq, nI_clamp, nI_add, pk_sub, pk_mul, nI_ne1, ne1_nI, nI_pge, nI_nlt0, nI_l, lN_i, lN_add, lN_mul, lN_sub, pk_lLT, pk_lLE, pk_lEQ, lg_lt, lg_ge, lg_eq0, lg_le, lg_gt, lg_ltn, lg_gen, lg_eq0n, lg_len, lg_gtn, Nat.zero_le, Nat.not_lt_zero, not_false_eq_true, not_true_eq_false, true_and, and_true]; omega) | omega)⟩
  have c1 : (nI lo).toNatClampNeg = lo := nI_clamp (by omega)
  have c2 : (nI d).toNatClampNeg = d := nI_clamp (by omega)
  unfold s_m_resolve_2 b_m_resolve_72
  rw [e46, c1, i95]
  refine o_neg (by (first | (simp (maxSteps := 4000000) (disch := omega) only [n_0, n_1, n_2, n_3, n_4, n_5, n_6, n_7, n_8, n_9, n_10, n_11, n_12, n_13, n_14, n_15, n_16, n_18, n_20, n_24, n_31, n_32, n_34, n_40, n_41, n_44, n_45, n_47, n_48, n_57, n_58, n_59, n_61, n_63, n_64, n_65, n_68, n_90, n_91, n_93, n_95, n_97, n_100, n_122, n_123, n_125, n_128, n_144, n_200, n_255, n_256, n_300, n_400, n_600, n_1536, n_3980, n_4000, n_4001, n_4300, n_65536, l_0, l_1, l_2, l_3, l_4, l_10, l_48, l_63, l_255, l_300, nI_ltI, nI_leI, nI_eq, nI_clamp, nI_add, pk_sub, pk_mul, nI_ne1, ne1_nI, nI_pge, nI_nlt0, nI_l, lN_i, lN_add, lN_mul, lN_sub, pk_lLT, pk_lLE, pk_lEQ, lg_lt, lg_ge, lg_eq0, lg_le, lg_gt, lg_ltn, lg_gen, lg_eq0n, lg_len, lg_gtn, Nat.zero_le, Nat.not_lt_zero, not_false_eq_true, not_true_eq_false, true_and, and_true]; done) | (simp (maxSteps := 4000000) (disch := omega) only [n_0, n_1, n_2, n_3, n_4, n_5, n_6, n_7, n_8, n_9, n_10, n_11, n_12, n_13, n_14, n_15, n_16, n_18, n_20, n_24, n_31, n_32, n_34, n_40, n_41, n_44, n_45, n_47, n_48, n_57, n_58, n_59, n_61, n_63, n_64, n_65, n_68, n_90, n_91, n_93, n_95, n_97, n_100, n_122, n_123, n_125, n_128, n_144, n_200, n_255, n_256, n_300, n_400, n_600, n_1536, n_3980, n_4000, n_4001, n_4300, n_65536, l_0, l_1, l_2, l_3, l_4, l_10, l_48, l_63, l_255, l_300, nI_ltI, nI_leI, nI_eq, nI_clamp, nI_add, pk_sub, pk_mul, nI_ne1, ne1_nI, nI_pge, nI_nlt0, nI_l, lN_i, lN_add, lN_mul, lN_sub, pk_lLT, pk_lLE, pk_lEQ, lg_lt, lg_ge, lg_eq0, lg_le, lg_gt, lg_ltn, lg_gen, lg_eq0n, lg_len, lg_gtn, Nat.zero_le, Nat.not_lt_zero, not_false_eq_true, not_true_eq_false, true_and, and_true]; omega) | omega)) (o_neg (not_not_intro m14') (o_pos lk (o_bind df (o_neg (nI_n1 (by omega)) (o_pos lk ?_)))))
  show (if (hi h 1296 lo) = 0 then (b_m_resolve_77 K (nI lo) (nI d) 1 h) else (if 0 ≤ nI d ∧ nI d < nI 40 then (if (hi h 1271 (Int32.toNatClampNeg (nI d))) = 3 then (b_m_resolve_77 K (nI lo) (nI d) 1 h) else (if ¬ (hi h 1296 lo) = 1 then (b_m_resolve_76 K (nI lo) (nI d) h) else (if ¬ (hi h 1271 (Int32.toNatClampNeg (nI d))) = 2 then (b_m_resolve_76 K (nI lo) (nI d) h) else (b_m_resolve_77 K (nI lo) (nI d) 1 h)))) else none)) = _
  rw [c2, i96, i71]
  unfold wOK at ok
  by_cases q0 : w = 0
  · exact o_pos (by rw [q0]; rfl) rfl
  · refine o_neg (show ¬ nI w = 0 by (first | (simp (maxSteps := 4000000) (disch := omega) only [n_0, n_1, n_2, n_3, n_4, n_5, n_6, n_7, n_8, n_9, n_10, n_11, n_12, n_13, n_14, n_15, n_16, n_18, n_20, n_24, n_31, n_32, n_34, n_40, n_41, n_44, n_45, n_47, n_48, n_57, n_58, n_59, n_61, n_63, n_64, n_65, n_68, n_90, n_91, n_93, n_95, n_97, n_100, n_122, n_123, n_125, n_128, n_144, n_200, n_255, n_256, n_300, n_400, n_600, n_1536, n_3980, n_4000, n_4001, n_4300, n_65536, l_0, l_1, l_2, l_3, l_4, l_10, l_48, l_63, l_255, l_300, nI_ltI, nI_leI, nI_eq, nI_clamp, nI_add, pk_sub, pk_mul, nI_ne1, ne1_nI, nI_pge, nI_nlt0, nI_l, lN_i, lN_add, lN_mul, lN_sub, pk_lLT, pk_lLE, pk_lEQ, lg_lt, lg_ge, lg_eq0, lg_le, lg_gt, lg_ltn, lg_gen, lg_eq0n, lg_len, lg_gtn, Nat.zero_le, Nat.not_lt_zero, not_false_eq_true, not_true_eq_false, true_and, and_true]; done) | (simp (maxSteps := 4000000) (disch := omega) only [n_0, n_1, n_2, n_3, n_4, n_5, n_6, n_7, n_8, n_9, n_10, n_11, n_12, n_13, n_14, n_15, n_16, n_18, n_20, n_24, n_31, n_32, n_34, n_40, n_41, n_44, n_45, n_47, n_48, n_57, n_58, n_59, n_61, n_63, n_64, n_65, n_68, n_90, n_91, n_93, n_95, n_97, n_100, n_122, n_123, n_125, n_128, n_144, n_200, n_255, n_256, n_300, n_400, n_600, n_1536, n_3980, n_4000, n_4001, n_4300, n_65536, l_0, l_1, l_2, l_3, l_4, l_10, l_48, l_63, l_255, l_300, nI_ltI, nI_leI, nI_eq, nI_clamp, nI_add, pk_sub, pk_mul, nI_ne1, ne1_nI, nI_pge, nI_nlt0, nI_l, lN_i, lN_add, lN_mul, lN_sub, pk_lLT, pk_lLE, pk_lEQ, lg_lt, lg_ge, lg_eq0, lg_le, lg_gt, lg_ltn, lg_gen, lg_eq0n, lg_len, lg_gtn, Nat.zero_le, Nat.not_lt_zero, not_false_eq_true, not_true_eq_false, true_and, and_true]; omega) | omega)) (o_pos dk ?_)
    by_cases q3 : so = 3
    · exact o_pos (by rw [q3]; rfl) rfl
    · have q1 : w = 1 := by omega
      have q2 : so = 2 := by omega
      rw [q1, q2]
      exact o_neg (by decide) (o_neg (by decide) (o_neg (by decide) rfl))
theorem resolve_m_no {K : Int32 → XH → Option (Unit × XH)} (m14' : hi h 1262 14 = 0) (e46 : hi h 1262 46 = nI m) (hl : lo < m) (m4 : m ≤ 321) (i95 : hi h 1295 lo = nI kk) (k4 : kk < 4001) (i96 : hi h 1296 lo = nI w) (w2 : w ≤ 2) (df : f_m_definition (nI kk) h = some (-1, h) ∨ ∃ d so, d < 40 ∧ so ≤ 4 ∧ f_m_definition (nI kk) h = some (nI d, h) ∧ hi h 1271 d = nI so ∧ ¬ wOK w so) : s_m_resolve_2 K (nI lo) h = K (nI (lo + 1)) (hsi (hsi h 1262 14 5) 1262 15 (hi h 1267 kk)) := by
  have lk : 0 ≤ nI lo ∧ nI lo < nI 400 := ⟨nI_pos' (by omega), by (first | (simp (maxSteps := 4000000) (disch := omega) only [n_0, n_1, n_2, n_3, n_4, n_5, n_6, n_7, n_8, n_9, n_10, n_11, n_12, n_13, n_14, n_15, n_16, n_18, n_20, n_24, n_31, n_32, n_34, n_40, n_41, n_44, n_45, n_47, n_48, n_57, n_58, n_59, n_61, n_63, n_64, n_65, n_68, n_90, n_91, n_93, n_95, n_97, n_100, n_122, n_123, n_125, n_128, n_144, n_200, n_255, n_256, n_300, n_400, n_600, n_1536, n_3980, n_4000, n_4001, n_4300, n_65536, l_0, l_1, l_2, l_3, l_4, l_10, l_48, l_63, l_255, l_300, nI_ltI, nI_leI, nI_eq, nI_clamp, nI_add, pk_sub, pk_mul, nI_ne1, ne1_nI, nI_pge, nI_nlt0, nI_l, lN_i, lN_add, lN_mul, lN_sub, pk_lLT, pk_lLE, pk_lEQ, lg_lt, lg_ge, lg_eq0, lg_le, lg_gt, lg_ltn, lg_gen, lg_eq0n, lg_len, lg_gtn, Nat.zero_le, Nat.not_lt_zero, not_false_eq_true, not_true_eq_false, true_and, and_true]; done) | (simp (maxSteps := 4000000) (disch := omega) only [n_0, n_1, n_2, n_3, n_4, n_5, n_6, n_7, n_8, n_9, n_10, n_11, n_12, n_13, n_14, n_15, n_16, n_18, n_20, n_24, n_31, n_32, n_34, n_40, n_41, n_44, n_45, n_47, n_48, n_57, n_58, n_59, n_61, n_63, n_64, n_65, n_68, n_90, n_91, n_93, n_95, n_97, n_100, n_122, n_123, n_125, n_128, n_144, n_200, n_255, n_256, n_300, n_400, n_600, n_1536, n_3980, n_4000, n_4001, n_4300, n_65536, l_0, l_1, l_2, l_3, l_4, l_10, l_48, l_63, l_255, l_300, nI_ltI, nI_leI, nI_eq, nI_clamp, nI_add, pk_sub, pk_mul, nI_ne1, ne1_nI, nI_pge, nI_nlt0, nI_l, lN_i, lN_add, lN_mul, lN_sub, pk_lLT, pk_lLE, pk_lEQ, lg_lt, lg_ge, lg_eq0, lg_le, lg_gt, lg_ltn, lg_gen, lg_eq0n, lg_len, lg_gtn, Nat.zero_le, Nat.not_lt_zero, not_false_eq_true, not_true_eq_false, true_and, and_true]; omega) | omega)⟩
  have c1 : (nI lo).toNatClampNeg = lo := nI_clamp (by omega)
  have bd : ∀ x2, b_m_resolve_76 K (nI lo) x2 h = K (nI (lo + 1)) (hsi (hsi h 1262 14 5) 1262 15 (hi h 1267 kk)) := by
    intro x2
    unfold b_m_resolve_76 b_m_resolve_77 b_m_resolve_218
    rw [c1, i95, nI_clamp (show kk < 2 ^ 31 by omega), n_1, nI_add]
    exact o_neg (not_not_intro rfl) (o_pos lk (o_pos ⟨nI_pos' (by omega), by (first | (simp (maxSteps := 4000000) (disch := omega) only [n_0, n_1, n_2, n_3, n_4, n_5, n_6, n_7, n_8, n_9, n_10, n_11, n_12, n_13, n_14, n_15, n_16, n_18, n_20, n_24, n_31, n_32, n_34, n_40, n_41, n_44, n_45, n_47, n_48, n_57, n_58, n_59, n_61, n_63, n_64, n_65, n_68, n_90, n_91, n_93, n_95, n_97, n_100, n_122, n_123, n_125, n_128, n_144, n_200, n_255, n_256, n_300, n_400, n_600, n_1536, n_3980, n_4000, n_4001, n_4300, n_65536, l_0, l_1, l_2, l_3, l_4, l_10, l_48, l_63, l_255, l_300, nI_ltI, nI_leI, nI_eq, nI_clamp, nI_add, pk_sub, pk_mul, nI_ne1, ne1_nI, nI_pge, nI_nlt0, nI_l, lN_i, lN_add, lN_mul, lN_sub, pk_lLT, pk_lLE, pk_lEQ, lg_lt, lg_ge, lg_eq0, lg_le, lg_gt, lg_ltn, lg_gen, lg_eq0n, lg_len, lg_gtn, Nat.zero_le, Nat.not_lt_zero, not_false_eq_true, not_true_eq_false, true_and, and_true]; done) | (simp (maxSteps := 4000000) (disch := omega) only [n_0, n_1, n_2, n_3, n_4, n_5, n_6, n_7, n_8, n_9, n_10, n_11, n_12, n_13, n_14, n_15, n_16, n_18, n_20, n_24, n_31, n_32, n_34, n_40, n_41, n_44, n_45, n_47, n_48, n_57, n_58, n_59, n_61, n_63, n_64, n_65, n_68, n_90, n_91, n_93, n_95, n_97, n_100, n_122, n_123, n_125, n_128, n_144, n_200, n_255, n_256, n_300, n_400, n_600, n_1536, n_3980, n_4000, n_4001, n_4300, n_65536, l_0, l_1, l_2, l_3, l_4, l_10, l_48, l_63, l_255, l_300, nI_ltI, nI_leI, nI_eq, nI_clamp, nI_add, pk_sub, pk_mul, nI_ne1, ne1_nI, nI_pge, nI_nlt0, nI_l, lN_i, lN_add, lN_mul, lN_sub, pk_lLT, pk_lLE, pk_lEQ, lg_lt, lg_ge, lg_eq0, lg_le, lg_gt, lg_ltn, lg_gen, lg_eq0n, lg_len, lg_gtn, Nat.zero_le, Nat.not_lt_zero, not_false_eq_true, not_true_eq_false, true_and, and_true]; omega) | omega)⟩ rfl))
  unfold s_m_resolve_2
  rw [e46, c1, i95]
  rcases df with df | ⟨d, so, d40, so4, df, i71, ok⟩
  · exact o_neg (by (first | (simp (maxSteps := 4000000) (disch := omega) only [n_0, n_1, n_2, n_3, n_4, n_5, n_6, n_7, n_8, n_9, n_10, n_11, n_12, n_13, n_14, n_15, n_16, n_18, n_20, n_24, n_31, n_32, n_34, n_40, n_41, n_44, n_45, n_47, n_48, n_57, n_58, n_59, n_61, n_63, n_64, n_65, n_68, n_90, n_91, n_93, n_95, n_97, n_100, n_122, n_123, n_125, n_128, n_144, n_200, n_255, n_256, n_300, n_400, n_600, n_1536, n_3980, n_4000, n_4001, n_4300, n_65536, l_0, l_1, l_2, l_3, l_4, l_10, l_48, l_63, l_255, l_300, nI_ltI, nI_leI, nI_eq, nI_clamp, nI_add, pk_sub, pk_mul, nI_ne1, ne1_nI, nI_pge, nI_nlt0, nI_l, lN_i, lN_add, lN_mul, lN_sub, pk_lLT, pk_lLE, pk_lEQ, lg_lt, lg_ge, lg_eq0, lg_le, lg_gt, lg_ltn, lg_gen, lg_eq0n, lg_len, lg_gtn, Nat.zero_le, Nat.not_lt_zero, not_false_eq_true, not_true_eq_false, true_and, and_true]; done) | (simp (maxSteps := 4000000) (disch := omega) only [n_0, n_1, n_2, n_3, n_4, n_5, n_6, n_7, n_8, n_9, n_10, n_11, n_12, n_13, n_14, n_15, n_16, n_18, n_20, n_24, n_31, n_32, n_34, n_40, n_41, n_44, n_45, n_47, n_48, n_57, n_58, n_59, n_61, n_63, n_64, n_65, n_68, n_90, n_91, n_93, n_95, n_97, n_100, n_122, n_123, n_125, n_128, n_144, n_200, n_255, n_256, n_300, n_400, n_600, n_1536, n_3980, n_4000, n_4001, n_4300, n_65536, l_0, l_1, l_2, l_3, l_4, l_10, l_48, l_63, l_255, l_300, nI_ltI, nI_leI, nI_eq, nI_clamp, nI_add, pk_sub, pk_mul, nI_ne1, ne1_nI, nI_pge, nI_nlt0, nI_l, lN_i, lN_add, lN_mul, lN_sub, pk_lLT, pk_lLE, pk_lEQ, lg_lt, lg_ge, lg_eq0, lg_le, lg_gt, lg_ltn, lg_gen, lg_eq0n, lg_len, lg_gtn, Nat.zero_le, Nat.not_lt_zero, not_false_eq_true, not_true_eq_false, true_and, and_true]; omega) | omega)) (o_neg (not_not_intro m14') (o_pos lk (o_bind df (o_pos rfl (bd _)))))
  · have dk : 0 ≤ nI d ∧ nI d < nI 40 := ⟨nI_pos' (by omega), by (first | (simp (maxSteps := 4000000) (disch := omega) only [n_0, n_1, n_2, n_3, n_4, n_5, n_6, n_7, n_8, n_9, n_10, n_11, n_12, n_13, n_14, n_15, n_16, n_18, n_20, n_24, n_31, n_32, n_34, n_40, n_41, n_44, n_45, n_47, n_48, n_57, n_58, n_59, n_61, n_63, n_64, n_65, n_68, n_90, n_91, n_93, n_95, n_97, n_100, n_122, n_123, n_125, n_128, n_144, n_200, n_255, n_256, n_300, n_400, n_600, n_1536, n_3980, n_4000, n_4001, n_4300, n_65536, l_0, l_1, l_2, l_3, l_4, l_10, l_48, l_63, l_255, l_300, nI_ltI, nI_leI, nI_eq, nI_clamp, nI_add, pk_sub, pk_mul, nI_ne1, ne1_nI, nI_pge, nI_nlt0, nI_l, lN_i, lN_add, lN_mul, lN_sub, pk_lLT, pk_lLE, pk_lEQ, lg_lt, lg_ge, lg_eq0, lg_le, lg_gt, lg_ltn, lg_gen, lg_eq0n, lg_len, lg_gtn, Nat.zero_le, Nat.not_lt_zero, not_false_eq_true, not_true_eq_false, true_and, and_true]; done) | (simp (maxSteps := 4000000) (disch := omega) only [n_0, n_1, n_2, n_3, n_4, n_5, n_6, n_7, n_8, n_9, n_10, n_11, n_12, n_13, n_14, n_15, n_16, n_18, n_20, n_24, n_31, n_32, n_34, n_40, n_41, n_44, n_45, n_47, n_48, n_57, n_58, n_59, n_61, n_63, n_64, n_65, n_68, n_90, n_91, n_93, n_95, n_97, n_100, n_122, n_123, n_125, n_128, n_144, n_200, n_255, n_256, n_300, n_400, n_600, n_1536, n_3980, n_4000, n_4001, n_4300, n_65536, l_0, l_1, l_2, l_3, l_4, l_10, l_48, l_63, l_255, l_300, nI_ltI, nI_leI, nI_eq, nI_clamp, nI_add, pk_sub, pk_mul, nI_ne1, ne1_nI, nI_pge, nI_nlt0, nI_l, lN_i, lN_add, lN_mul, lN_sub, pk_lLT, pk_lLE, pk_lEQ, lg_lt, lg_ge, lg_eq0, lg_le, lg_gt, lg_ltn, lg_gen, lg_eq0n, lg_len, lg_gtn, Nat.zero_le, Nat.not_lt_zero, not_false_eq_true, not_true_eq_false, true_and, and_true]; omega) | omega)⟩
    have c2 : (nI d).toNatClampNeg = d := nI_clamp (by omega)
    refine o_neg (by (first | (simp (maxSteps := 4000000) (disch := omega) only [n_0, n_1, n_2, n_3, n_4, n_5, n_6, n_7, n_8, n_9, n_10, n_11, n_12, n_13, n_14, n_15, n_16, n_18, n_20, n_24, n_31, n_32, n_34, n_40, n_41, n_44, n_45, n_47, n_48, n_57, n_58, n_59, n_61, n_63, n_64, n_65, n_68, n_90, n_91, n_93, n_95, n_97, n_100, n_122, n_123, n_125, n_128, n_144, n_200, n_255, n_256, n_300, n_400, n_600, n_1536, n_3980, n_4000, n_4001, n_4300, n_65536, l_0, l_1, l_2, l_3, l_4, l_10, l_48, l_63, l_255, l_300, nI_ltI, nI_leI, nI_eq, nI_clamp, nI_add, pk_sub, pk_mul, nI_ne1, ne1_nI, nI_pge, nI_nlt0, nI_l, lN_i, lN_add, lN_mul, lN_sub, pk_lLT, pk_lLE, pk_lEQ, lg_lt, lg_ge, lg_eq0, lg_le, lg_gt, lg_ltn, lg_gen, lg_eq0n, lg_len, lg_gtn, Nat.zero_le, Nat.not_lt_zero, not_false_eq_true, not_true_eq_false, true_and, and_true]; done) | (simp (maxSteps := 4000000) (disch := omega) only [n_0, n_1, n_2, n_3, n_4, n_5, n_6, n_7, n_8, n_9, n_10, n_11, n_12, n_13, n_14, n_15, n_16, n_18, n_20, n_24, n_31, n_32, n_34, n_40, n_41, n_44, n_45, n_47, n_48, n_57, n_58, n_59, n_61, n_63, n_64, n_65, n_68, n_90, n_91, n_93, n_95, n_97, n_100, n_122, n_123, n_125, n_128, n_144, n_200, n_255, n_256, n_300, n_400, n_600, n_1536, n_3980, n_4000, n_4001, n_4300, n_65536, l_0, l_1, l_2, l_3, l_4, l_10, l_48, l_63, l_255, l_300, nI_ltI, nI_leI, nI_eq, nI_clamp, nI_add, pk_sub, pk_mul, nI_ne1, ne1_nI, nI_pge, nI_nlt0, nI_l, lN_i, lN_add, lN_mul, lN_sub, pk_lLT, pk_lLE, pk_lEQ, lg_lt, lg_ge, lg_eq0, lg_le, lg_gt, lg_ltn, lg_gen, lg_eq0n, lg_len, lg_gtn, Nat.zero_le, Nat.not_lt_zero, not_false_eq_true, not_true_eq_false, true_and, and_true]; omega) | omega)) (o_neg (not_not_intro m14') (o_pos lk (o_bind df (o_neg (nI_n1 (by omega)) (o_pos lk ?_)))))
    show (if (hi h 1296 lo) = 0 then (b_m_resolve_72 K (nI lo) (nI d) h) else (if 0 ≤ nI d ∧ nI d < nI 40 then (if (hi h 1271 (Int32.toNatClampNeg (nI d))) = 3 then (b_m_resolve_72 K (nI lo) (nI d) h) else (if ¬ (hi h 1296 lo) = 1 then (b_m_resolve_76 K (nI lo) (nI d) h) else (if ¬ (hi h 1271 (Int32.toNatClampNeg (nI d))) = 2 then (b_m_resolve_76 K (nI lo) (nI d) h) else (b_m_resolve_72 K (nI lo) (nI d) h)))) else none)) = _
    rw [c2, i96, i71]
    unfold wOK at ok
    refine o_neg (show ¬ nI w = 0 by (first | (simp (maxSteps := 4000000) (disch := omega) only [n_0, n_1, n_2, n_3, n_4, n_5, n_6, n_7, n_8, n_9, n_10, n_11, n_12, n_13, n_14, n_15, n_16, n_18, n_20, n_24, n_31, n_32, n_34, n_40, n_41, n_44, n_45, n_47, n_48, n_57, n_58, n_59, n_61, n_63, n_64, n_65, n_68, n_90, n_91, n_93, n_95, n_97, n_100, n_122, n_123, n_125, n_128, n_144, n_200, n_255, n_256, n_300, n_400, n_600, n_1536, n_3980, n_4000, n_4001, n_4300, n_65536, l_0, l_1, l_2, l_3, l_4, l_10, l_48, l_63, l_255, l_300, nI_ltI, nI_leI, nI_eq, nI_clamp, nI_add, pk_sub, pk_mul, nI_ne1, ne1_nI, nI_pge, nI_nlt0, nI_l, lN_i, lN_add, lN_mul, lN_sub, pk_lLT, pk_lLE, pk_lEQ, lg_lt, lg_ge, lg_eq0, lg_le, lg_gt, lg_ltn, lg_gen, lg_eq0n, lg_len, lg_gtn, Nat.zero_le, Nat.not_lt_zero, not_false_eq_true, not_true_eq_false, true_and, and_true]; done) | (simp (maxSteps := 4000000) (disch := omega) only [n_0, n_1, n_2, n_3, n_4, n_5, n_6, n_7, n_8, n_9, n_10, n_11, n_12, n_13, n_14, n_15, n_16, n_18, n_20, n_24, n_31, n_32, n_34, n_40, n_41, n_44, n_45, n_47, n_48, n_57, n_58, n_59, n_61, n_63, n_64, n_65, n_68, n_90, n_91, n_93, n_95, n_97, n_100, n_122, n_123, n_125, n_128, n_144, n_200, n_255, n_256, n_300, n_400, n_600, n_1536, n_3980, n_4000, n_4001, n_4300, n_65536, l_0, l_1, l_2, l_3, l_4, l_10, l_48, l_63, l_255, l_300, nI_ltI, nI_leI, nI_eq, nI_clamp, nI_add, pk_sub, pk_mul, nI_ne1, ne1_nI, nI_pge, nI_nlt0, nI_l, lN_i, lN_add, lN_mul, lN_sub, pk_lLT, pk_lLE, pk_lEQ, lg_lt, lg_ge, lg_eq0, lg_le, lg_gt, lg_ltn, lg_gen, lg_eq0n, lg_len, lg_gtn, Nat.zero_le, Nat.not_lt_zero, not_false_eq_true, not_true_eq_false, true_and, and_true]; omega) | omega)) (o_pos dk (o_neg (show ¬ nI so = 3 by (first | (simp (maxSteps := 4000000) (disch := omega) only [n_0, n_1, n_2, n_3, n_4, n_5, n_6, n_7, n_8, n_9, n_10, n_11, n_12, n_13, n_14, n_15, n_16, n_18, n_20, n_24, n_31, n_32, n_34, n_40, n_41, n_44, n_45, n_47, n_48, n_57, n_58, n_59, n_61, n_63, n_64, n_65, n_68, n_90, n_91, n_93, n_95, n_97, n_100, n_122, n_123, n_125, n_128, n_144, n_200, n_255, n_256, n_300, n_400, n_600, n_1536, n_3980, n_4000, n_4001, n_4300, n_65536, l_0, l_1, l_2, l_3, l_4, l_10, l_48, l_63, l_255, l_300, nI_ltI, nI_leI, nI_eq, nI_clamp, nI_add, pk_sub, pk_mul, nI_ne1, ne1_nI, nI_pge, nI_nlt0, nI_l, lN_i, lN_add, lN_mul, lN_sub, pk_lLT, pk_lLE, pk_lEQ, lg_lt, lg_ge, lg_eq0, lg_le, lg_gt, lg_ltn, lg_gen, lg_eq0n, lg_len, lg_gtn, Nat.zero_le, Nat.not_lt_zero, not_false_eq_true, not_true_eq_false, true_and, and_true]; done) | (simp (maxSteps := 4000000) (disch := omega) only [n_0, n_1, n_2, n_3, n_4, n_5, n_6, n_7, n_8, n_9, n_10, n_11, n_12, n_13, n_14, n_15, n_16, n_18, n_20, n_24, n_31, n_32, n_34, n_40, n_41, n_44, n_45, n_47, n_48, n_57, n_58, n_59, n_61, n_63, n_64, n_65, n_68, n_90, n_91, n_93, n_95, n_97, n_100, n_122, n_123, n_125, n_128, n_144, n_200, n_255, n_256, n_300, n_400, n_600, n_1536, n_3980, n_4000, n_4001, n_4300, n_65536, l_0, l_1, l_2, l_3, l_4, l_10, l_48, l_63, l_255, l_300, nI_ltI, nI_leI, nI_eq, nI_clamp, nI_add, pk_sub, pk_mul, nI_ne1, ne1_nI, nI_pge, nI_nlt0, nI_l, lN_i, lN_add, lN_mul, lN_sub, pk_lLT, pk_lLE, pk_lEQ, lg_lt, lg_ge, lg_eq0, lg_le, lg_gt, lg_ltn, lg_gen, lg_eq0n, lg_len, lg_gtn, Nat.zero_le, Nat.not_lt_zero, not_false_eq_true, not_true_eq_false, true_and, and_true]; omega) | omega)) ?_))
    by_cases q1 : w = 1
    · rw [q1]
      exact o_neg (by decide) (o_pos (show ¬ nI so = 2 by (first | (simp (maxSteps := 4000000) (disch := omega) only [n_0, n_1, n_2, n_3, n_4, n_5, n_6, n_7, n_8, n_9, n_10, n_11, n_12, n_13, n_14, n_15, n_16, n_18, n_20, n_24, n_31, n_32, n_34, n_40, n_41, n_44, n_45, n_47, n_48, n_57, n_58, n_59, n_61, n_63, n_64, n_65, n_68, n_90, n_91, n_93, n_95, n_97, n_100, n_122, n_123, n_125, n_128, n_144, n_200, n_255, n_256, n_300, n_400, n_600, n_1536, n_3980, n_4000, n_4001, n_4300, n_65536, l_0, l_1, l_2, l_3, l_4, l_10, l_48, l_63, l_255, l_300, nI_ltI, nI_leI, nI_eq, nI_clamp, nI_add, pk_sub, pk_mul, nI_ne1, ne1_nI, nI_pge, nI_nlt0, nI_l, lN_i, lN_add, lN_mul, lN_sub, pk_lLT, pk_lLE, pk_lEQ, lg_lt, lg_ge, lg_eq0, lg_le, lg_gt, lg_ltn, lg_gen, lg_eq0n, lg_len, lg_gtn, Nat.zero_le, Nat.not_lt_zero, not_false_eq_true, not_true_eq_false, true_and, and_true]; done) | (simp (maxSteps := 4000000) (disch := omega) only [n_0, n_1, n_2, n_3, n_4, n_5, n_6, n_7, n_8, n_9, n_10, n_11, n_12, n_13, n_14, n_15, n_16, n_18, n_20, n_24, n_31, n_32, n_34, n_40, n_41, n_44, n_45, n_47, n_48, n_57, n_58, n_59, n_61, n_63, n_64, n_65, n_68, n_90, n_91, n_93, n_95, n_97, n_100, n_122, n_123, n_125, n_128, n_144, n_200, n_255, n_256, n_300, n_400, n_600, n_1536, n_3980, n_4000, n_4001, n_4300, n_65536, l_0, l_1, l_2, l_3, l_4, l_10, l_48, l_63, l_255, l_300, nI_ltI, nI_leI, nI_eq, nI_clamp, nI_add, pk_sub, pk_mul, nI_ne1, ne1_nI, nI_pge, nI_nlt0, nI_l, lN_i, lN_add, lN_mul, lN_sub, pk_lLT, pk_lLE, pk_lEQ, lg_lt, lg_ge, lg_eq0, lg_le, lg_gt, lg_ltn, lg_gen, lg_eq0n, lg_len, lg_gtn, Nat.zero_le, Nat.not_lt_zero, not_false_eq_true, not_true_eq_false, true_and, and_true]; omega) | omega)) (bd _))
    · exact o_pos (show ¬ nI w = 1 by (first | (simp (maxSteps := 4000000) (disch := omega) only [n_0, n_1, n_2, n_3, n_4, n_5, n_6, n_7, n_8, n_9, n_10, n_11, n_12, n_13, n_14, n_15, n_16, n_18, n_20, n_24, n_31, n_32, n_34, n_40, n_41, n_44, n_45, n_47, n_48, n_57, n_58, n_59, n_61, n_63, n_64, n_65, n_68, n_90, n_91, n_93, n_95, n_97, n_100, n_122, n_123, n_125, n_128, n_144, n_200, n_255, n_256, n_300, n_400, n_600, n_1536, n_3980, n_4000, n_4001, n_4300, n_65536, l_0, l_1, l_2, l_3, l_4, l_10, l_48, l_63, l_255, l_300, nI_ltI, nI_leI, nI_eq, nI_clamp, nI_add, pk_sub, pk_mul, nI_ne1, ne1_nI, nI_pge, nI_nlt0, nI_l, lN_i, lN_add, lN_mul, lN_sub, pk_lLT, pk_lLE, pk_lEQ, lg_lt, lg_ge, lg_eq0, lg_le, lg_gt, lg_ltn, lg_gen, lg_eq0n, lg_len, lg_gtn, Nat.zero_le, Nat.not_lt_zero, not_false_eq_true, not_true_eq_false, true_and, and_true]; done) | (simp (maxSteps := 4000000) (disch := omega) only [n_0, n_1, n_2, n_3, n_4, n_5, n_6, n_7, n_8, n_9, n_10, n_11, n_12, n_13, n_14, n_15, n_16, n_18, n_20, n_24, n_31, n_32, n_34, n_40, n_41, n_44, n_45, n_47, n_48, n_57, n_58, n_59, n_61, n_63, n_64, n_65, n_68, n_90, n_91, n_93, n_95, n_97, n_100, n_122, n_123, n_125, n_128, n_144, n_200, n_255, n_256, n_300, n_400, n_600, n_1536, n_3980, n_4000, n_4001, n_4300, n_65536, l_0, l_1, l_2, l_3, l_4, l_10, l_48, l_63, l_255, l_300, nI_ltI, nI_leI, nI_eq, nI_clamp, nI_add, pk_sub, pk_mul, nI_ne1, ne1_nI, nI_pge, nI_nlt0, nI_l, lN_i, lN_add, lN_mul, lN_sub, pk_lLT, pk_lLE, pk_lEQ, lg_lt, lg_ge, lg_eq0, lg_le, lg_gt, lg_ltn, lg_gen, lg_eq0n, lg_len, lg_gtn, Nat.zero_le, Nat.not_lt_zero, not_false_eq_true, not_true_eq_false, true_and, and_true]; omega) | omega)) (bd _)
end Rv
