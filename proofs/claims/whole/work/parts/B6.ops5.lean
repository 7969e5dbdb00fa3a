/-! Calls: into -/

section Ops
variable {h g : XH} {S n a : Nat} {y : Nat → Nat} {sg : SGT} {sd : Nat → Int64}
/-- what a part leads to, as a node: its place -/
def pAt (y : Nat → Nat) (s q : Nat) : Nat := if s = 2 then q else q + nb y 4 q
/-- the model enters -/
theorem e_m_into_119 {so o e p s o' q : Nat} {ee : Int32} (M : MR g n a y sg sd so o e p) (s5 : s = 1 ∧ o' = 0 ∨ s = 2 ∨ s = 3 ∨ s = 5) (hq : ¬ s = 2 → q + 4 ≤ n) (ha : a + 1 ≤ 43) : b_m_into_119 (nI s) (nI o') (nI q) ee g = some (nk s, ENm g (a + 1) (nI s) (nI o') ee (nI (pAt y s q))) := by
  have tail : ∀ (oo pp : Int32), b_m_into_156 (nI s) (nI s) oo ee pp g = some (nk s, ENm g (a + 1) (nI s) oo ee pp) := by
    intro oo pp
    unfold b_m_into_156
    exact o_bind (e_m_enter M.2.1.1 (by omega)) (o_bind (e_m_told (by omega)) rfl)
  have t133 : ∀ (oo : Int32), b_m_into_133 (nI s) (nI q) ee (nI s) oo g = some (nk s, ENm g (a + 1) (nI s) oo ee (nI (pAt y s q))) := by
    intro oo
    unfold b_m_into_133 pAt
    by_cases c : s = 2
    · rw [if_pos c]
      exact o_neg (by rw [c]; exact not_not_intro rfl) (tail _ _)
    · rw [if_neg c]
      have eN := e_m_number M.1 (i := q) (k := 4) (by decide) (hq c)
      refine o_pos (show ¬ nI s = 2 from fun z => c ((nI_eq (b := 2) (by omega) (by decide)).mp z)) (o_bind eN ?_)
      show b_m_into_156 _ _ _ _ (nI q + (lN (nb y 4 q)).toInt32) g = _
      rw [lN_i, nI_add]
      exact tail _ _
  unfold b_m_into_119
  by_cases c : s = 1
  · have o0 : o' = 0 := by omega
    subst o0
    exact o_neg (by rw [c]; exact not_not_intro rfl) (t133 0)
  · exact o_pos (show ¬ nI s = 1 from fun z => c ((nI_eq (b := 1) (by omega) (by decide)).mp z)) (t133 _)
/-- the class enters what it found -/
theorem e_r_enterPart {s o' e' q : Nat} (B : BY g 1256 1257) (e5 : hi g 1255 5 = nI a) (ha : a + 1 ≤ 43) (e6 : hi g 1255 6 = nI s) (e7 : hi g 1255 7 = nI o') (e8 : hi g 1255 8 = nI q) (e9 : hi g 1255 9 = nI e' - 1) (s5 : s = 1 ∨ s = 2 ∧ e' = 0 ∨ s = 3 ∨ s = 5) (hq : ¬ s = 2 → q + 4 ≤ 4000) : f_r_enterPart g = some (nk s, ENc g (a + 1) (nI s) (nI o') (nI e' - 1) (nI (pAt (cb g 1257) s q))) := by
  have bh : ¬ s = 2 → b_r_enterPart_40 g = some (nk s, ENc g (a + 1) (nI s) (nI o') (nI e' - 1) (nI (pAt (cb g 1257) s q))) := by
    intro c
    unfold b_r_enterPart_40 pAt
    rw [e6, e7, e8, e9, if_neg c]
    exact o_bind (e_b_behind B (hq c)) (o_bind (e_r_enter e5 ha (by omega)) rfl)
  unfold f_r_enterPart
  rcases s5 with q1 | ⟨q1, q2⟩ | q1 | q1 <;> subst q1
  · exact o_pos e6 (bh (by decide))
  · subst q2
    rw [e6, e7, e8]
    exact o_neg (by decide) (o_pos (by decide) (o_bind (e_r_enter (s := 2) e5 ha (by decide)) rfl))
  · have := bh (by decide)
    rw [e6]
    exact o_neg (by decide) (o_neg (by decide) (o_pos (by decide) this))
  · have := bh (by decide)
    rw [e6]
    exact o_neg (by decide) (o_neg (by decide) (o_neg (by decide) (o_neg (by decide) (o_pos (by decide) this))))
theorem e_r_enterU {o' q : Nat} (B : BY g 1256 1257) (e5 : hi g 1255 5 = nI a) (ha : a + 1 ≤ 43) (e6 : hi g 1255 6 = nI 4) (e7 : hi g 1255 7 = nI o') (e8 : hi g 1255 8 = nI q) (hq : q + 4 ≤ 4000) : f_r_enterPart g = some (nk 3, ENc g (a + 1) (nI 3) (nI o') (nI 0 - 1) (nI (pAt (cb g 1257) 3 q))) := by
  unfold f_r_enterPart pAt
  rw [e6, e7, e8]
  exact o_neg (by decide) (o_neg (by decide) (o_neg (by decide) (o_pos (by decide) (o_bind (e_b_behind B hq) (o_bind (e_r_enter (s := 3) e5 ha (by decide)) rfl)))))
theorem e_r_enterNo {s : Nat} (e6 : hi g 1255 6 = nI s) (s5 : s = 0 ∨ s = 6) : f_r_enterPart g = some (-1, g) := by
  unfold f_r_enterPart
  rw [e6]
  rcases s5 with q1 | q1 <;> subst q1
  · exact o_neg (by decide) (o_neg (by decide) (o_neg (by decide) (o_neg (by decide) (o_neg (by decide) rfl))))
  · exact o_neg (by decide) (o_neg (by decide) (o_neg (by decide) (o_neg (by decide) (o_neg (by decide) rfl))))
theorem ENc_m {b : Nat} {a0 a1 a2 a3 : Int32} {so o e p : Nat} (M : MR g n a y sg sd so o e p) : MR (hsi (ENc g b a0 a1 a2 a3) 1262 0 0) n a y sg sd so o e p := by
  unfold ENc
  refine M.gen (fun a h1 h2 => ?_) (fun k hk' => ?_) ?_
  · simp (maxSteps := 4000000) (disch := omega) only [hi_hsi_ne]
  · simp (maxSteps := 4000000) (disch := omega) only [hi_hsi_ne, hi_nk]
  · simp only [hj_hsi]
theorem RM.ent {b c : Nat} {a0 a1 a2 a3 b0 b1 b2 b3 : Int32} (C : LC h g) : RM h (ENm (hsi (ENc g b a0 a1 a2 a3) 1262 0 0) c b0 b1 b2 b3) := by
  unfold ENm ENc
  refine RM.same ?_ ?_
  · simp only [hz_hsi]; exact C.z.1
  · simp only [hw_hsi]; exact C.z.2.1
theorem RRl.lc (q : RRl h sg n) (C : LC h g) : RRl g sg n := by
  unfold RRl
  rw [cb_cg (C.hi (by decide)), C.hi (a := 1262) (by decide), C.hi (a := 1256) (by decide), C.hi (a := 1310) (by decide), C.hi (a := 1311) (by decide)]
  exact q
theorem RRn.lc {so o e p : Nat → Nat} (q : RRn h sg n a so o e p) (C : LC h g) : RRn g sg n a so o e p := by
  unfold RRn
  rw [cb_cg (C.hi (by decide)), C.hi (a := 1258) (by decide), C.hi (a := 1259) (by decide), C.hi (a := 1260) (by decide), C.hi (a := 1261) (by decide), C.hi (a := 1312) (by decide), C.hi (a := 1313) (by decide), C.hi (a := 1314) (by decide), C.hi (a := 1315) (by decide)]
  exact q
theorem fndU_hi {p i : Nat} : hi (fndU h sg sd y p i) 1255 5 = hi h 1255 5 ∧ hi (fndU h sg sd y p i) 1255 6 = nI (sg 12 i) ∧ hi (fndU h sg sd y p i) 1255 7 = (if jwh y p (la y p) (sg 15 i) = 0 then -1 else nI (sg 18 (8 * sg 13 i + (jwh y p (la y p) (sg 15 i) - 1)))) ∧ hi (fndU h sg sd y p i) 1255 8 = (if jwh y p (la y p) (sg 15 i) = 0 then -1 else nI (p + fr y (la y p) (sg 15 i + 1))) := ⟨rfl, rfl, rfl, rfl⟩
theorem fndT_hi {a0 a1 a2 a3 : Int32} {w : Int64} : hi (hsj (fnd h a0 a1 a2 a3) 1255 10 w) 1255 5 = hi h 1255 5 ∧ hi (hsj (fnd h a0 a1 a2 a3) 1255 10 w) 1255 6 = a0 ∧ hi (hsj (fnd h a0 a1 a2 a3) 1255 10 w) 1255 7 = a1 ∧ hi (hsj (fnd h a0 a1 a2 a3) 1255 10 w) 1255 8 = a3 ∧ hi (hsj (fnd h a0 a1 a2 a3) 1255 10 w) 1255 9 = a2 := ⟨rfl, rfl, rfl, rfl, rfl⟩
theorem into_nil {x : Int32} (H : RA h S sg sd) (z1 : f_r_locate S x h = some (1, g)) (z2 : LC h g) (z3 : hi g 1255 5 = hi h 1255 5) (z4 : hi g 1255 8 = -1 ∨ (¬ hi g 1255 8 = -1 ∧ ∃ s, hi g 1255 6 = nI s ∧ (s = 0 ∨ s = 6))) (z5 : f_m_into x g = some (-1, hsi g 1262 0 0)) : ∃ r h1 h2, f_t_into x h = some (r, h1) ∧ f_m_into x h1 = some (r, h2) ∧ RX h2 ∧ RM h h2 := by
  refine ⟨-1, g, hsi g 1262 0 0, ?_, z5, ⟨S, sg, sd, (H.lc z2 z3).th⟩, RM.lc z2⟩
  unfold f_t_into
  rcases z4 with z4 | ⟨z4, s, z6, z7⟩
  · exact o_bind H.2.1.1 (o_bind z1 (o_neg one0 (o_neg (not_not_intro z4) rfl)))
  · exact o_bind H.2.1.1 (o_bind z1 (o_neg one0 (o_pos z4 (o_bind (e_r_enterNo z6 z7) rfl))))
theorem into_ent {x : Int32} {sa oa ea pa s o' e' p' : Nat} {so o e p : Nat → Nat} (H : RA h S sg sd) (q1 : RRl h sg n) (q2 : RRn h sg n a so o e p) (M : MR h n a (cb h 1257) sg sd sa oa ea pa) (z1 : f_r_locate S x h = some (1, g)) (z2 : LC h g) (z3 : hi g 1255 5 = hi h 1255 5) (z4 : ¬ hi g 1255 8 = -1) (z5 : f_r_enterPart g = some (nk s, ENc g (a + 1) (nI s) (nI o') (nI e' - 1) (nI p'))) (z6 : NV sg (cb h 1257) n (a + 1) s o' e' p') (z7 : ∀ g', MR g' n a (cb h 1257) sg sd sa oa ea pa → (∀ a, 1263 ≤ a → a ≤ 1315 → hi g' a = hi h a) → f_m_into x g' = some (nk s, ENm (hsi g' 1262 0 0) (a + 1) (nI s) (nI o') (nI e' - 1) (nI p'))) : ∃ r h1 h2, f_t_into x h = some (r, h1) ∧ f_m_into x h1 = some (r, h2) ∧ RX h2 ∧ RM h h2 := by
  refine ⟨nk s, ENc g (a + 1) (nI s) (nI o') (nI e' - 1) (nI p'), ENm (hsi (ENc g (a + 1) (nI s) (nI o') (nI e' - 1) (nI p')) 1262 0 0) (a + 1) (nI s) (nI o') (nI e' - 1) (nI p'), ?_, ?_, ⟨S, sg, sd, (H.lc z2 z3).enter (q1.lc z2) (q2.lc z2) (by rw [cb_cg (z2.hi (by decide))]; exact z6)⟩, RM.ent z2⟩
  · unfold f_t_into
    exact o_bind H.2.1.1 (o_bind z1 (o_neg one0 (o_pos z4 (o_bind z5 rfl))))
  · refine z7 _ ((M.lc z2).gen (fun a h1 h2 => ?_) (fun k hk' => ?_) ?_) (fun a h1 h2 => ?_)
    · unfold ENc; simp (maxSteps := 4000000) (disch := omega) only [hi_hsi_ne]
    · unfold ENc; simp (maxSteps := 4000000) (disch := omega) only [hi_hsi_ne]
    · unfold ENc; simp only [hj_hsi]
    · unfold ENc; simp (maxSteps := 4000000) (disch := omega) only [hi_hsi_ne]; exact z2.hi (by omega)
set_option maxHeartbeats 8000000 in
theorem into_U {oa ea pa k : Nat} {so o e p : Nat → Nat} (H : RA h S sg sd) (W : WF sg sd) (q1 : RRl h sg n) (q2 : RRn h sg n a so o e p) (R : RC h S n a (cb h 1257) sg sd 3 oa 0 pa) (M : MR h n a (cb h 1257) sg sd 3 oa 0 pa) (v : NV sg (cb h 1257) n a 3 oa 0 pa) {d : Nat} (d2 : a + 2 ≤ 2 * d) (T : TOK sg (cb h 1257) n pa oa d) (hk2 : k < sg 10 oa) (h4 : sg 12 (16 * oa + k) = 4) : ∃ r h1 h2, f_t_into (nI k) h = some (r, h1) ∧ f_m_into (nI k) h1 = some (r, h2) ∧ RX h2 ∧ RM h h2 := by
  have n4 := q1.2.2.2.1
  have a43 := R.1.2
  have B := H.1.b1256
  have r5 := R.1.1
  have hk' : k < pc sg (cb h 1257) 3 oa pa := hk2
  have ho := T.2.2.2.1
  have jj := jl_ok T.2.2.1
  have d16 := T.1
  have i256 := W.i256 ho hk2
  have C : LC h (fndU h sg sd (cb h 1257) pa (16 * oa + k)) := (((fnd_lc.sj).si).si).si
  have ok := (T.2.2.2.2 k hk2).uni h4
  have fu := fndU_hi (h := h) (sg := sg) (sd := sd) (y := cb h 1257) (p := pa) (i := 16 * oa + k)
  have z5 := fu.1
  have hu : sg 13 (16 * oa + k) < sg 0 2 := by rcases W.fk ho hk2 with k | k | k <;> omega
  have wu := W.2.2.2 _ hu
  have w0 := W.1
  have sl := W.sl ho hk2
  by_cases c : jwh (cb h 1257) pa (la (cb h 1257) pa) (sg 15 (16 * oa + k)) = 0
  · have M2 := (M.lc C).th (v := 0)
    refine into_nil H (e_r_locate_U R W T d2 hk2 h4) C z5 (Or.inl ?_) ?_
    · rw [fu.2.2.2, if_pos c]
    · unfold f_m_into; exact o_bind (e_m_isPart M2 W v hk') (o_pos one0 (o_bind (e_m_partSort_T M2 W ho hk2) (o_bind (e_m_partOf_T M2 W ho hk2) (o_bind (e_m_partAt_T M2 W T hk2) (o_neg (by rw [h4]; exact not_not_intro rfl) (o_bind (e_m_which_U M2 W T hk2 h4) (o_neg (by rw [c]; exact not_not_intro rfl) rfl)))))))
  · obtain ⟨x1, x2, x3⟩ := ok.2.2 c
    have jk := jw_ok x2
    have fn := fr_ne x1
    have y8 : jwh (cb h 1257) pa (la (cb h 1257) pa) (sg 15 (16 * oa + k)) < 256 := by
      unfold jwh
      split
      · decide
      · exact cb_lt _ _ _
    have mt := wu.2.2 (jwh (cb h 1257) pa (la (cb h 1257) pa) (sg 15 (16 * oa + k)) - 1) (by omega)
    have T2 := x3 (by omega) mt
    have e8 : hi (fndU h sg sd (cb h 1257) pa (16 * oa + k)) 1255 8 = nI (pa + fr (cb h 1257) (la (cb h 1257) pa) (sg 15 (16 * oa + k) + 1)) := by rw [fu.2.2.2, if_neg c]
    have e7 : hi (fndU h sg sd (cb h 1257) pa (16 * oa + k)) 1255 7 = nI (sg 18 (8 * sg 13 (16 * oa + k) + (jwh (cb h 1257) pa (la (cb h 1257) pa) (sg 15 (16 * oa + k)) - 1))) := by rw [fu.2.2.1, if_neg c]
    have e6 : hi (fndU h sg sd (cb h 1257) pa (16 * oa + k)) 1255 6 = nI 4 := by rw [fu.2.1, h4]
    have NVn : NV sg (cb h 1257) n (a + 1) 3 (sg 18 (8 * sg 13 (16 * oa + k) + (jwh (cb h 1257) pa (la (cb h 1257) pa) (sg 15 (16 * oa + k)) - 1))) 0 (pAt (cb h 1257) 3 (pa + fr (cb h 1257) (la (cb h 1257) pa) (sg 15 (16 * oa + k) + 1))) := Or.inl ⟨rfl, rfl, d + 1, by omega, T2⟩
    have ep := e_r_enterU (a := a) (by rw [C.by]; exact B) (z5.trans r5) NVn.lt e6 e7 e8 (by omega)
    rw [cb_cg (C.hi (by decide))] at ep
    refine into_ent (s := 3) (e' := 0) H q1 q2 M (e_r_locate_U R W T d2 hk2 h4) C z5 (by rw [e8]; exact nI_n1 (by omega)) ep NVn (fun g' M' eq' => ?_)
    have M2 := M'.th (v := 0)
    have eS := e_m_stored M2 T.2.1 T.2.2.1 (s := sg 15 (16 * oa + k) + 1) (by omega)
    have e9 : sA (cb h 1257) pa (sg 15 (16 * oa + k) + 1) = nI (pa + fr (cb h 1257) (la (cb h 1257) pa) (sg 15 (16 * oa + k) + 1)) := if_neg x1
    rw [e9, ← nI_1, ← (M2.1.2.2.2.fi ho hk2).2.2.2.1] at eS
    have cu := (M2.1.2.2.2.2.2.2 _ hu).2 (jwh (cb h 1257) pa (la (cb h 1257) pa) (sg 15 (16 * oa + k)) - 1) (by omega)
    unfold f_m_into; refine o_bind (e_m_isPart M2 W v hk') (o_pos one0 (o_bind (e_m_partSort_T M2 W ho hk2) (o_bind (e_m_partOf_T M2 W ho hk2) (o_bind (e_m_partAt_T M2 W T hk2) (o_neg (by rw [h4]; exact not_not_intro rfl) (o_bind (e_m_which_U M2 W T hk2 h4) (o_pos (nI_ne0 (by omega) (by omega)) (o_bind (e_m_row_T M2) ?_))))))))
    dsimp only
    rw [nI_clamp (show 16 * oa + k < 2 ^ 31 by omega)]
    refine o_pos (by (first | (simp (maxSteps := 4000000) (disch := omega) only [n_0, n_1, n_2, n_3, n_4, n_5, n_6, n_7, n_8, n_9, n_10, n_11, n_12, n_13, n_14, n_15, n_16, n_18, n_20, n_24, n_31, n_32, n_34, n_40, n_41, n_44, n_45, n_47, n_48, n_57, n_58, n_59, n_61, n_63, n_64, n_65, n_68, n_90, n_91, n_93, n_95, n_97, n_100, n_122, n_123, n_125, n_128, n_144, n_200, n_255, n_256, n_300, n_400, n_600, n_1536, n_3980, n_4000, n_4001, n_4300, n_65536, l_0, l_1, l_2, l_3, l_4, l_10, l_48, l_63, l_255, l_300, nI_ltI, nI_leI, nI_eq, nI_clamp, nI_add, pk_sub, pk_mul, nI_ne1, ne1_nI, nI_pge, nI_nlt0, nI_l, lN_i, lN_add, lN_mul, lN_sub, pk_lLT, pk_lLE, pk_lEQ, lg_lt, lg_ge, lg_eq0, lg_le, lg_gt, lg_ltn, lg_gen, lg_eq0n, lg_len, lg_gtn, Nat.zero_le, Nat.not_lt_zero, not_false_eq_true, not_true_eq_false, true_and, and_true]; done) | (simp (maxSteps := 4000000) (disch := omega) only [n_0, n_1, n_2, n_3, n_4, n_5, n_6, n_7, n_8, n_9, n_10, n_11, n_12, n_13, n_14, n_15, n_16, n_18, n_20, n_24, n_31, n_32, n_34, n_40, n_41, n_44, n_45, n_47, n_48, n_57, n_58, n_59, n_61, n_63, n_64, n_65, n_68, n_90, n_91, n_93, n_95, n_97, n_100, n_122, n_123, n_125, n_128, n_144, n_200, n_255, n_256, n_300, n_400, n_600, n_1536, n_3980, n_4000, n_4001, n_4300, n_65536, l_0, l_1, l_2, l_3, l_4, l_10, l_48, l_63, l_255, l_300, nI_ltI, nI_leI, nI_eq, nI_clamp, nI_add, pk_sub, pk_mul, nI_ne1, ne1_nI, nI_pge, nI_nlt0, nI_l, lN_i, lN_add, lN_mul, lN_sub, pk_lLT, pk_lLE, pk_lEQ, lg_lt, lg_ge, lg_eq0, lg_le, lg_gt, lg_ltn, lg_gen, lg_eq0n, lg_len, lg_gtn, Nat.zero_le, Nat.not_lt_zero, not_false_eq_true, not_true_eq_false, true_and, and_true]; omega) | omega)) (o_bind eS ?_)
    have ex : 8 * nI (sg 13 (16 * oa + k)) + nI (jwh (cb h 1257) pa (la (cb h 1257) pa) (sg 15 (16 * oa + k))) - 1 = nI (8 * sg 13 (16 * oa + k) + (jwh (cb h 1257) pa (la (cb h 1257) pa) (sg 15 (16 * oa + k)) - 1)) := by
      rw [n_8, pk_mul, nI_add, nI_m _ (by omega)]
      congr 1
      omega
    dsimp only
    rw [ex, nI_clamp (by omega), cu]
    refine o_pos (by (first | (simp (maxSteps := 4000000) (disch := omega) only [n_0, n_1, n_2, n_3, n_4, n_5, n_6, n_7, n_8, n_9, n_10, n_11, n_12, n_13, n_14, n_15, n_16, n_18, n_20, n_24, n_31, n_32, n_34, n_40, n_41, n_44, n_45, n_47, n_48, n_57, n_58, n_59, n_61, n_63, n_64, n_65, n_68, n_90, n_91, n_93, n_95, n_97, n_100, n_122, n_123, n_125, n_128, n_144, n_200, n_255, n_256, n_300, n_400, n_600, n_1536, n_3980, n_4000, n_4001, n_4300, n_65536, l_0, l_1, l_2, l_3, l_4, l_10, l_48, l_63, l_255, l_300, nI_ltI, nI_leI, nI_eq, nI_clamp, nI_add, pk_sub, pk_mul, nI_ne1, ne1_nI, nI_pge, nI_nlt0, nI_l, lN_i, lN_add, lN_mul, lN_sub, pk_lLT, pk_lLE, pk_lEQ, lg_lt, lg_ge, lg_eq0, lg_le, lg_gt, lg_ltn, lg_gen, lg_eq0n, lg_len, lg_gtn, Nat.zero_le, Nat.not_lt_zero, not_false_eq_true, not_true_eq_false, true_and, and_true]; done) | (simp (maxSteps := 4000000) (disch := omega) only [n_0, n_1, n_2, n_3, n_4, n_5, n_6, n_7, n_8, n_9, n_10, n_11, n_12, n_13, n_14, n_15, n_16, n_18, n_20, n_24, n_31, n_32, n_34, n_40, n_41, n_44, n_45, n_47, n_48, n_57, n_58, n_59, n_61, n_63, n_64, n_65, n_68, n_90, n_91, n_93, n_95, n_97, n_100, n_122, n_123, n_125, n_128, n_144, n_200, n_255, n_256, n_300, n_400, n_600, n_1536, n_3980, n_4000, n_4001, n_4300, n_65536, l_0, l_1, l_2, l_3, l_4, l_10, l_48, l_63, l_255, l_300, nI_ltI, nI_leI, nI_eq, nI_clamp, nI_add, pk_sub, pk_mul, nI_ne1, ne1_nI, nI_pge, nI_nlt0, nI_l, lN_i, lN_add, lN_mul, lN_sub, pk_lLT, pk_lLE, pk_lEQ, lg_lt, lg_ge, lg_eq0, lg_le, lg_gt, lg_ltn, lg_gen, lg_eq0n, lg_len, lg_gtn, Nat.zero_le, Nat.not_lt_zero, not_false_eq_true, not_true_eq_false, true_and, and_true]; omega) | omega)) ?_
    unfold b_m_into_88
    exact o_neg (by decide) (o_pos (nI_n1 (by omega)) (o_pos (by decide) (e_m_into_119 (s := 3) M2 (Or.inr (Or.inr (Or.inl rfl))) (fun _ => by omega) NVn.lt)))
set_option maxHeartbeats 8000000 in
theorem into_T {oa ea pa k : Nat} {so o e p : Nat → Nat} (H : RA h S sg sd) (W : WF sg sd) (q1 : RRl h sg n) (q2 : RRn h sg n a so o e p) (R : RC h S n a (cb h 1257) sg sd 3 oa 0 pa) (M : MR h n a (cb h 1257) sg sd 3 oa 0 pa) (v : NV sg (cb h 1257) n a 3 oa 0 pa) {d : Nat} (d2 : a + 2 ≤ 2 * d) (T : TOK sg (cb h 1257) n pa oa d) (hk2 : k < sg 10 oa) (h4 : ¬ sg 12 (16 * oa + k) = 4) : ∃ r h1 h2, f_t_into (nI k) h = some (r, h1) ∧ f_m_into (nI k) h1 = some (r, h2) ∧ RX h2 ∧ RM h h2 := by
  have n4 := q1.2.2.2.1
  have a43 := R.1.2
  have B := H.1.b1256
  have r5 := R.1.1
  have hk' : k < pc sg (cb h 1257) 3 oa pa := hk2
  have ho := T.2.2.2.1
  have jj := jl_ok T.2.2.1
  have d16 := T.1
  have i256 := W.i256 ho hk2
  have C : LC h (hsj (fnd h (nI (sg 12 (16 * oa + k))) (nI (sg 13 (16 * oa + k))) (nI (sg 14 (16 * oa + k)) - 1) (sA (cb h 1257) pa (sg 15 (16 * oa + k)))) 1255 10 (sd (16 * oa + k))) := fnd_lc.sj
  have M2 := (M.lc C).th (v := 0)
  have fu := fndT_hi (h := h) (a0 := nI (sg 12 (16 * oa + k))) (a1 := nI (sg 13 (16 * oa + k))) (a2 := nI (sg 14 (16 * oa + k)) - 1) (a3 := sA (cb h 1257) pa (sg 15 (16 * oa + k))) (w := sd (16 * oa + k))
  have z5 := fu.1
  have s5 : sg 12 (16 * oa + k) ≤ 5 := by rcases W.fk ho hk2 with k | ⟨-, -, ⟨e, -⟩ | ⟨e, -⟩ | ⟨e, -⟩ | ⟨e, -⟩⟩ | k <;> omega
  have n4' : ¬ nI (sg 12 (16 * oa + k)) = 4 := fun z => h4 ((nI_eq (b := 4) (by omega) (by decide)).mp z)
  have sn := sA_n (s := sg 15 (16 * oa + k)) (show pa ≤ 4000 by have := T.2.1; omega) (cb_lt h 1257)
  by_cases c : fr (cb h 1257) (la (cb h 1257) pa) (sg 15 (16 * oa + k)) = 0
  · refine into_nil H (e_r_locate_T R W T d2 hk2 h4) C z5 (Or.inl ?_) ?_
    · rw [fu.2.2.2.1, sn]; exact c
    · unfold f_m_into; refine o_bind (e_m_isPart M2 W v hk') (o_pos one0 (o_bind (e_m_partSort_T M2 W ho hk2) (o_bind (e_m_partOf_T M2 W ho hk2) (o_bind (e_m_partAt_T M2 W T hk2) (o_pos n4' ?_)))))
      unfold b_m_into_88
      by_cases z : nI (sg 12 (16 * oa + k)) = 0
      · exact o_pos z rfl
      · exact o_neg z (o_neg (by rw [sn]; exact not_not_intro c) rfl)
  · have e9 : sA (cb h 1257) pa (sg 15 (16 * oa + k)) = nI (pa + fr (cb h 1257) (la (cb h 1257) pa) (sg 15 (16 * oa + k))) := if_neg c
    obtain ⟨f1, f2, f3⟩ := (T.2.2.2.2 k hk2).fld h4 c
    have jk := jw_ok f1
    have fn := fr_ne c
    have kz : oK sg (sg 12 (16 * oa + k)) (sg 13 (16 * oa + k)) ∨ sg 12 (16 * oa + k) = 4 ∨ sg 12 (16 * oa + k) = 5 := by
      rcases W.fk ho hk2 with k | k | k
      · exact absurd k.1 h4
      · exact Or.inl k.2.2
      · exact Or.inr (Or.inr k.1)
    have z1 := zO_le W kz
    have e8 : hi (hsj (fnd h (nI (sg 12 (16 * oa + k))) (nI (sg 13 (16 * oa + k))) (nI (sg 14 (16 * oa + k)) - 1) (sA (cb h 1257) pa (sg 15 (16 * oa + k)))) 1255 10 (sd (16 * oa + k))) 1255 8 = nI (pa + fr (cb h 1257) (la (cb h 1257) pa) (sg 15 (16 * oa + k))) := fu.2.2.2.1.trans e9
    have n8 : ¬ hi (hsj (fnd h (nI (sg 12 (16 * oa + k))) (nI (sg 13 (16 * oa + k))) (nI (sg 14 (16 * oa + k)) - 1) (sA (cb h 1257) pa (sg 15 (16 * oa + k)))) 1255 10 (sd (16 * oa + k))) 1255 8 = -1 := by rw [e8]; exact nI_n1 (by omega)
    by_cases c0 : sg 12 (16 * oa + k) = 0
    · refine into_nil H (e_r_locate_T R W T d2 hk2 h4) C z5 (Or.inr ⟨n8, 0, ?_, Or.inl rfl⟩) ?_
      · rw [fu.2.1, c0]
      · unfold f_m_into; refine o_bind (e_m_isPart M2 W v hk') (o_pos one0 (o_bind (e_m_partSort_T M2 W ho hk2) (o_bind (e_m_partOf_T M2 W ho hk2) (o_bind (e_m_partAt_T M2 W T hk2) (o_pos n4' ?_)))))
        unfold b_m_into_88
        exact o_pos (by rw [c0]; rfl) rfl
    · -- a text, a struct, a table, a vector
      have go : ∀ (NVn : NV sg (cb h 1257) n (a + 1) (sg 12 (16 * oa + k)) (sg 13 (16 * oa + k)) (sg 14 (16 * oa + k)) (pAt (cb h 1257) (sg 12 (16 * oa + k)) (pa + fr (cb h 1257) (la (cb h 1257) pa) (sg 15 (16 * oa + k))))), (sg 12 (16 * oa + k) = 1 ∧ sg 13 (16 * oa + k) = 0 ∨ sg 12 (16 * oa + k) = 2 ∨ sg 12 (16 * oa + k) = 3 ∨ sg 12 (16 * oa + k) = 5) → (¬ sg 12 (16 * oa + k) = 5 → sg 14 (16 * oa + k) = 0) → (¬ sg 12 (16 * oa + k) = 2 → pa + fr (cb h 1257) (la (cb h 1257) pa) (sg 15 (16 * oa + k)) + 4 ≤ n) → ∃ r h1 h2, f_t_into (nI k) h = some (r, h1) ∧ f_m_into (nI k) h1 = some (r, h2) ∧ RX h2 ∧ RM h h2 := by
        intro NVn k1 k2 k3
        have ep := e_r_enterPart (a := a) (s := sg 12 (16 * oa + k)) (o' := sg 13 (16 * oa + k)) (e' := sg 14 (16 * oa + k)) (by rw [C.by]; exact B) (z5.trans r5) NVn.lt fu.2.1 fu.2.2.1 e8 fu.2.2.2.2 (by omega) (fun z => by have := k3 z; omega)
        rw [cb_cg (C.hi (by decide))] at ep
        refine into_ent H q1 q2 M (e_r_locate_T R W T d2 hk2 h4) C z5 n8 ep NVn (fun g' M' eq' => ?_)
        have M2 := M'.th (v := 0)
        unfold f_m_into; refine o_bind (e_m_isPart M2 W v hk') (o_pos one0 (o_bind (e_m_partSort_T M2 W ho hk2) (o_bind (e_m_partOf_T M2 W ho hk2) (o_bind (e_m_partAt_T M2 W T hk2) (o_pos n4' ?_)))))
        unfold b_m_into_88
        dsimp only
        rw [e9]
        refine o_neg (show ¬ nI (sg 12 (16 * oa + k)) = 0 from fun z => c0 ((nI_eq (b := 0) (by omega) (by decide)).mp z)) (o_pos (nI_n1 (by omega)) ?_)
        by_cases c5 : sg 12 (16 * oa + k) = 5
        · refine o_neg (by rw [c5]; exact not_not_intro rfl) (o_bind (e_m_row_T M2) ?_)
          dsimp only
          rw [nI_clamp (show 16 * oa + k < 2 ^ 31 by omega), (M2.1.2.2.2.fi ho hk2).2.2.1]
          exact o_pos (by (first | (simp (maxSteps := 4000000) (disch := omega) only [n_0, n_1, n_2, n_3, n_4, n_5, n_6, n_7, n_8, n_9, n_10, n_11, n_12, n_13, n_14, n_15, n_16, n_18, n_20, n_24, n_31, n_32, n_34, n_40, n_41, n_44, n_45, n_47, n_48, n_57, n_58, n_59, n_61, n_63, n_64, n_65, n_68, n_90, n_91, n_93, n_95, n_97, n_100, n_122, n_123, n_125, n_128, n_144, n_200, n_255, n_256, n_300, n_400, n_600, n_1536, n_3980, n_4000, n_4001, n_4300, n_65536, l_0, l_1, l_2, l_3, l_4, l_10, l_48, l_63, l_255, l_300, nI_ltI, nI_leI, nI_eq, nI_clamp, nI_add, pk_sub, pk_mul, nI_ne1, ne1_nI, nI_pge, nI_nlt0, nI_l, lN_i, lN_add, lN_mul, lN_sub, pk_lLT, pk_lLE, pk_lEQ, lg_lt, lg_ge, lg_eq0, lg_le, lg_gt, lg_ltn, lg_gen, lg_eq0n, lg_len, lg_gtn, Nat.zero_le, Nat.not_lt_zero, not_false_eq_true, not_true_eq_false, true_and, and_true]; done) | (simp (maxSteps := 4000000) (disch := omega) only [n_0, n_1, n_2, n_3, n_4, n_5, n_6, n_7, n_8, n_9, n_10, n_11, n_12, n_13, n_14, n_15, n_16, n_18, n_20, n_24, n_31, n_32, n_34, n_40, n_41, n_44, n_45, n_47, n_48, n_57, n_58, n_59, n_61, n_63, n_64, n_65, n_68, n_90, n_91, n_93, n_95, n_97, n_100, n_122, n_123, n_125, n_128, n_144, n_200, n_255, n_256, n_300, n_400, n_600, n_1536, n_3980, n_4000, n_4001, n_4300, n_65536, l_0, l_1, l_2, l_3, l_4, l_10, l_48, l_63, l_255, l_300, nI_ltI, nI_leI, nI_eq, nI_clamp, nI_add, pk_sub, pk_mul, nI_ne1, ne1_nI, nI_pge, nI_nlt0, nI_l, lN_i, lN_add, lN_mul, lN_sub, pk_lLT, pk_lLE, pk_lEQ, lg_lt, lg_ge, lg_eq0, lg_le, lg_gt, lg_ltn, lg_gen, lg_eq0n, lg_len, lg_gtn, Nat.zero_le, Nat.not_lt_zero, not_false_eq_true, not_true_eq_false, true_and, and_true]; omega) | omega)) (e_m_into_119 M2 k1 k3 NVn.lt)
        · have e0 := k2 c5
          rw [e0]
          exact o_pos (show ¬ nI (sg 12 (16 * oa + k)) = 5 from fun z => c5 ((nI_eq (b := 5) (by omega) (by decide)).mp z)) (e_m_into_119 M2 k1 k3 NVn.lt)
      skip
      rcases W.fk ho hk2 with kk | kk | kk
      · exact absurd kk.1 h4
      · have E := f2 kk.2.1
        have e14 : sg 14 (16 * oa + k) = 0 := by
          rcases ((W.2.2.1 oa ho).2.2 k hk2).2.2.2 with ⟨z, -⟩ | ⟨z, -⟩ | ⟨-, z, -⟩
          · exact z
          · exact z
          · exact absurd z kk.2.1
        rcases kk.2.2 with ⟨z, zo⟩ | ⟨z, zo⟩ | ⟨z, zo⟩ | ⟨z, zo⟩
        · exact absurd z c0
        · have zz : zO sg (sg 12 (16 * oa + k)) (sg 13 (16 * oa + k)) = 4 := by rw [z]; rfl
          rw [z] at E
          have tx := E.txt
          exact go (Or.inr (Or.inr (Or.inl ⟨z, e14, zo, by omega, by rw [z]; exact tx⟩))) (Or.inl ⟨z, zo⟩) (fun _ => e14) (fun _ => by omega)
        · have zz : zO sg (sg 12 (16 * oa + k)) (sg 13 (16 * oa + k)) = sg 2 (sg 13 (16 * oa + k)) := by rw [z]; rfl
          have w0 := W.1.1
          exact go (Or.inr (Or.inr (Or.inr ⟨z, e14, zo, by omega, by rw [z]; show _ + fr _ _ _ + _ ≤ n; omega⟩))) (Or.inr (Or.inl z)) (fun _ => e14) (fun q => absurd z q)
        · have zz : zO sg (sg 12 (16 * oa + k)) (sg 13 (16 * oa + k)) = 4 := by rw [z]; rfl
          rw [z] at E
          have tb := E.tab d16 zo
          exact go (Or.inl ⟨z, e14, d + 1, by omega, by rw [z]; exact tb⟩) (Or.inr (Or.inr (Or.inl z))) (fun _ => e14) (fun _ => by omega)
      · have zz : zO sg (sg 12 (16 * oa + k)) (sg 13 (16 * oa + k)) = 4 := by rw [kk.1]; rfl
        have vt := f3 kk.1 d16 kk.2.2
        exact go (Or.inr (Or.inl ⟨kk.1, kk.2.1, d, by omega, by rw [kk.1]; exact vt⟩)) (Or.inr (Or.inr (Or.inr kk.1))) (fun q => absurd kk.1 q) (fun _ => by omega)
set_option maxHeartbeats 8000000 in
theorem into_V {oa ea pa k : Nat} {so o e p : Nat → Nat} (H : RA h S sg sd) (W : WF sg sd) (q1 : RRl h sg n) (q2 : RRn h sg n a so o e p) (R : RC h S n a (cb h 1257) sg sd 5 oa ea pa) (M : MR h n a (cb h 1257) sg sd 5 oa ea pa) (v : NV sg (cb h 1257) n a 5 oa ea pa) {d : Nat} (e1 : 1 ≤ ea) (d2 : a + 1 ≤ 2 * d) (T : VOK sg (cb h 1257) n pa (ea - 1) oa d) (hk2 : k < nb (cb h 1257) 4 pa) : ∃ r h1 h2, f_t_into (nI k) h = some (r, h1) ∧ f_m_into (nI k) h1 = some (r, h2) ∧ RX h2 ∧ RM h h2 := by
  have n4 := q1.2.2.2.1
  have a43 := R.1.2
  have B := H.1.b1256
  have r5 := R.1.1
  have hk' : k < pc sg (cb h 1257) 5 oa pa := hk2
  have C : LC h (fnd h (nI (ea - 1)) (nI oa) (-1) (nI (pa + 4 + k * zO sg (ea - 1) oa))) := fnd_lc
  have M2 := (M.lc C).th (v := 0)
  have fu := fnd_hi (h := h) (a0 := nI (ea - 1)) (a1 := nI oa) (a2 := -1) (a3 := nI (pa + 4 + k * zO sg (ea - 1) oa))
  have z5 := fu.1
  have k3 : ea - 1 ≤ 3 := by rcases T.2.2.2.1 with ⟨e, -⟩ | ⟨e, -⟩ | ⟨e, -⟩ | ⟨e, -⟩ <;> omega
  have kz : (k + 1) * zO sg (ea - 1) oa ≤ nb (cb h 1257) 4 pa * zO sg (ea - 1) oa := Nat.mul_le_mul_right _ (by omega)
  rw [Nat.add_mul] at kz
  have z1 := zO_le W (Or.inl T.2.2.2.1)
  have t3 := T.2.2.1
  have E := T.2.2.2.2 k hk2
  have d16 := T.1
  have n4' : ¬ nI (ea - 1) = 4 := fun z => absurd ((nI_eq (b := 4) (by omega) (by decide)).mp z) (by omega)
  by_cases c0 : ea - 1 = 0
  · refine into_nil H (e_r_locate_V R W e1 T d2 hk2) C z5 (Or.inr ⟨by rw [fu.2.2.2.1]; exact nI_n1 (show pa + 4 + k * zO sg (ea - 1) oa < 2 ^ 31 by omega), 0, by rw [fu.2.1, c0], Or.inl rfl⟩) ?_
    unfold f_m_into; refine o_bind (e_m_isPart M2 W v hk') (o_pos one0 (o_bind (e_m_partSort_V M2 e1) (o_bind (e_m_partOf_V M2) (o_bind (e_m_partAt_V M2 W e1 T.2.2.2.1) (o_pos n4' ?_)))))
    unfold b_m_into_88
    exact o_pos (by rw [c0]; rfl) rfl
  · have go : ∀ (NVn : NV sg (cb h 1257) n (a + 1) (ea - 1) oa 0 (pAt (cb h 1257) (ea - 1) (pa + 4 + k * zO sg (ea - 1) oa))), (ea - 1 = 1 ∧ oa = 0 ∨ ea - 1 = 2 ∨ ea - 1 = 3 ∨ ea - 1 = 5) → (¬ ea - 1 = 2 → pa + 4 + k * zO sg (ea - 1) oa + 4 ≤ n) → ∃ r h1 h2, f_t_into (nI k) h = some (r, h1) ∧ f_m_into (nI k) h1 = some (r, h2) ∧ RX h2 ∧ RM h h2 := by
      intro NVn k1 k2
      have ep := e_r_enterPart (a := a) (s := ea - 1) (o' := oa) (e' := 0) (by rw [C.by]; exact B) (z5.trans r5) NVn.lt fu.2.1 fu.2.2.1 fu.2.2.2.1 (fu.2.2.2.2.1.trans (by decide)) (by omega) (fun z => by have := k2 z; omega)
      rw [cb_cg (C.hi (by decide))] at ep
      refine into_ent H q1 q2 M (e_r_locate_V R W e1 T d2 hk2) C z5 (by rw [fu.2.2.2.1]; exact nI_n1 (show pa + 4 + k * zO sg (ea - 1) oa < 2 ^ 31 by omega)) ep NVn (fun g' M' eq' => ?_)
      have M2 := M'.th (v := 0)
      unfold f_m_into; refine o_bind (e_m_isPart M2 W v hk') (o_pos one0 (o_bind (e_m_partSort_V M2 e1) (o_bind (e_m_partOf_V M2) (o_bind (e_m_partAt_V M2 W e1 T.2.2.2.1) (o_pos n4' ?_)))))
      unfold b_m_into_88
      exact o_neg (show ¬ nI (ea - 1) = 0 from fun z => c0 ((nI_eq (b := 0) (by omega) (by decide)).mp z)) (o_pos (nI_n1 (by omega)) (o_pos (show ¬ nI (ea - 1) = 5 from fun z => absurd ((nI_eq (b := 5) (by omega) (by decide)).mp z) (by omega)) (e_m_into_119 M2 k1 k2 NVn.lt)))
    skip
    rcases T.2.2.2.1 with ⟨z, zo⟩ | ⟨z, zo⟩ | ⟨z, zo⟩ | ⟨z, zo⟩
    · exact absurd z c0
    · have zz : zO sg (ea - 1) oa = 4 := by rw [z]; rfl
      rw [z] at E
      have tx := E.txt
      rw [z] at go
      exact go (Or.inr (Or.inr (Or.inl ⟨rfl, rfl, zo, by omega, tx⟩))) (Or.inl ⟨rfl, zo⟩) (fun _ => by rw [z] at zz kz t3; omega)
    · have zz : zO sg (ea - 1) oa = sg 2 oa := by rw [z]; rfl
      have w0 := W.1.1
      rw [z] at go
      exact go (Or.inr (Or.inr (Or.inr ⟨rfl, rfl, zo, by omega, by show pa + 4 + k * zO sg 2 oa + sg 2 oa ≤ n; rw [z] at zz kz t3; omega⟩))) (Or.inr (Or.inl rfl)) (fun q => absurd rfl q)
    · have zz : zO sg (ea - 1) oa = 4 := by rw [z]; rfl
      rw [z] at E
      have tb := E.tab d16 zo
      rw [z] at go
      exact go (Or.inl ⟨rfl, rfl, d + 1, by omega, tb⟩) (Or.inr (Or.inr (Or.inl rfl))) (fun _ => by rw [z] at zz kz t3; omega)
set_option maxHeartbeats 8000000 in
theorem into_X {oa ea pa k : Nat} {so o e p : Nat → Nat} (H : RA h S sg sd) (W : WF sg sd) (q1 : RRl h sg n) (q2 : RRn h sg n a so o e p) (R : RC h S n a (cb h 1257) sg sd 1 0 0 pa) (M : MR h n a (cb h 1257) sg sd 1 0 0 pa) (v : NV sg (cb h 1257) n a 1 0 0 pa) (d2 : a ≤ 33) (T : pa + 4 + nb (cb h 1257) 4 pa + 1 ≤ n) (hk2 : k < nb (cb h 1257) 4 pa) : ∃ r h1 h2, f_t_into (nI k) h = some (r, h1) ∧ f_m_into (nI k) h1 = some (r, h2) ∧ RX h2 ∧ RM h h2 := by
  have n4 := q1.2.2.2.1
  have a43 := R.1.2
  have B := H.1.b1256
  have r5 := R.1.1
  have hk' : k < pc sg (cb h 1257) 1 0 pa := hk2
  have C : LC h (fnd h 6 0 (-1) (nI (pa + 4 + k))) := fnd_lc
  have M2 := (M.lc C).th (v := 0)
  have fu := fnd_hi (h := h) (a0 := 6) (a1 := 0) (a2 := -1) (a3 := nI (pa + 4 + k))
  refine into_nil H (e_r_locate_X R W v hk2) C fu.1 (Or.inr ⟨by rw [fu.2.2.2.1]; exact nI_n1 (show pa + 4 + k < 2 ^ 31 by omega), 6, fu.2.1, Or.inr rfl⟩) ?_
  unfold f_m_into; refine o_bind (e_m_isPart M2 W v hk') (o_pos one0 (o_bind (e_m_partSort_X M2) (o_bind (e_m_partOf_X M2) (o_bind (e_m_partAt_X M2) (o_pos (show ¬ (0 : Int32) = 4 by decide) ?_)))))
  unfold b_m_into_88
  exact o_pos rfl rfl
set_option maxHeartbeats 8000000 in
theorem into_S {oa ea pa k : Nat} {so o e p : Nat → Nat} (H : RA h S sg sd) (W : WF sg sd) (q1 : RRl h sg n) (q2 : RRn h sg n a so o e p) (R : RC h S n a (cb h 1257) sg sd 2 oa 0 pa) (M : MR h n a (cb h 1257) sg sd 2 oa 0 pa) (v : NV sg (cb h 1257) n a 2 oa 0 pa) (ho : oa < sg 0 0) (d2 : a + oa ≤ 43) (T : pa + sg 2 oa ≤ n) (hk2 : k < sg 1 oa) : ∃ r h1 h2, f_t_into (nI k) h = some (r, h1) ∧ f_m_into (nI k) h1 = some (r, h2) ∧ RX h2 ∧ RM h h2 := by
  have n4 := q1.2.2.2.1
  have a43 := R.1.2
  have B := H.1.b1256
  have r5 := R.1.1
  have hk' : k < pc sg (cb h 1257) 2 oa pa := hk2
  have C : LC h (hsj (fnd h (nI (sg 4 (12 * oa + k))) (nI (sg 5 (12 * oa + k))) (-1) (nI (pa + sg 6 (12 * oa + k)))) 1255 10 (hj h (dS S oa + 2 + k) 8)) := fnd_lc.sj
  have M2 := (M.lc C).th (v := 0)
  have fu := fndT_hi (h := h) (a0 := nI (sg 4 (12 * oa + k))) (a1 := nI (sg 5 (12 * oa + k))) (a2 := -1) (a3 := nI (pa + sg 6 (12 * oa + k))) (w := hj h (dS S oa + 2 + k) 8)
  have w1 := (W.2.1 oa ho).1
  rcases (W.2.1 oa ho).2.1 k hk2 with ⟨z, zo, zp⟩ | ⟨z, zo, zp⟩
  · refine into_nil H (e_r_locate_S R W ho v hk2) C fu.1 (Or.inr ⟨by rw [fu.2.2.2.1]; exact nI_n1 (show pa + sg 6 (12 * oa + k) < 2 ^ 31 by omega), 0, by rw [fu.2.1, z], Or.inl rfl⟩) ?_
    unfold f_m_into; refine o_bind (e_m_isPart M2 W v hk') (o_pos one0 (o_bind (e_m_partSort_S M2 W ho hk2) (o_bind (e_m_partOf_S M2 W ho hk2) (o_bind (e_m_partAt_S M2 W ho hk2) (o_pos (show ¬ nI (sg 4 (12 * oa + k)) = 4 by rw [z]; decide) ?_)))))
    unfold b_m_into_88
    exact o_pos (by rw [z]; rfl) rfl
  · have NVn : NV sg (cb h 1257) n (a + 1) 2 (sg 5 (12 * oa + k)) 0 (pAt (cb h 1257) 2 (pa + sg 6 (12 * oa + k))) := Or.inr (Or.inr (Or.inr ⟨rfl, rfl, by omega, by omega, by show pa + sg 6 (12 * oa + k) + _ ≤ n; omega⟩))
    have ep := e_r_enterPart (a := a) (s := 2) (o' := sg 5 (12 * oa + k)) (e' := 0) (q := pa + sg 6 (12 * oa + k)) (by rw [C.by]; exact B) (fu.1.trans r5) NVn.lt (by rw [fu.2.1, z]) fu.2.2.1 fu.2.2.2.1 (fu.2.2.2.2.trans (by decide)) (by decide) (fun q => absurd rfl q)
    rw [cb_cg (C.hi (by decide))] at ep
    refine into_ent H q1 q2 M (e_r_locate_S R W ho v hk2) C fu.1 (by rw [fu.2.2.2.1]; exact nI_n1 (show pa + sg 6 (12 * oa + k) < 2 ^ 31 by omega)) ep NVn (fun g' M' eq' => ?_)
    have M2 := M'.th (v := 0)
    unfold f_m_into; refine o_bind (e_m_isPart M2 W v hk') (o_pos one0 (o_bind (e_m_partSort_S M2 W ho hk2) (o_bind (e_m_partOf_S M2 W ho hk2) (o_bind (e_m_partAt_S M2 W ho hk2) (o_pos (show ¬ nI (sg 4 (12 * oa + k)) = 4 by rw [z]; decide) ?_)))))
    unfold b_m_into_88
    dsimp only
    rw [z]
    exact o_neg (by decide) (o_pos (nI_n1 (by omega)) (o_pos (by decide) (e_m_into_119 (s := 2) M2 (Or.inr (Or.inl rfl)) (fun q => absurd rfl q) NVn.lt)))
theorem op_into {x : Int32} (H : RX h) : ∃ r h1 h2, f_t_into x h = some (r, h1) ∧ f_m_into x h1 = some (r, h2) ∧ RX h2 ∧ RM h h2 := by
  obtain ⟨S, sg, sd, H⟩ := H
  have no : f_r_locate S x h = some (0, h) → f_m_isPart x (hsi h 1262 0 0) = some (0, hsi h 1262 0 0) → ∃ r h1 h2, f_t_into x h = some (r, h1) ∧ f_m_into x h1 = some (r, h2) ∧ RX h2 ∧ RM h h2 := by
    intro z1 z2
    refine ⟨-1, h, hsi h 1262 0 0, ?_, ?_, ⟨S, sg, sd, H.th⟩, RM.same rfl rfl⟩
    · unfold f_t_into
      exact o_bind H.2.1.1 (o_bind z1 (o_pos rfl rfl))
    · unfold f_m_into
      exact o_bind z2 (o_neg (not_not_intro rfl) rfl)
  rcases H.rd with ⟨q1, q2, q3⟩ | ⟨n, a, so, o, e, p, W, q1, q2, R, M, v⟩
  · exact no (e_r_locate0 q2) (e_m_isPart0 (by rw [hi_nk (by decide)]; exact q1))
  · have pl := v.pcl W q1.2.2.2.1
    rcases x32 x (pc sg (cb h 1257) (so a) (o a) (p a)) (by omega) with c | c | ⟨k, hk', ek⟩
    · exact no (e_r_locate_no R W v (Or.inl c)) (e_m_isPart_no M.th W v (Or.inl c))
    · exact no (e_r_locate_no R W v (Or.inr c)) (e_m_isPart_no M.th W v (Or.inr c))
    · subst ek
      have v2 := v
      generalize es : so a = sa at *
      generalize eo : o a = oa at *
      generalize ee : e a = ea at *
      generalize ep : p a = pa at *
      rcases v2 with ⟨s3, e0, d, d2, T⟩ | ⟨s3, e1, d, d2, T⟩ | ⟨s3, e0, o0, d2, T⟩ | ⟨s3, e0, ho, d2, T⟩
      · subst s3
        subst e0
        by_cases h4 : sg 12 (16 * oa + k) = 4
        · exact into_U (ea := 0) H W q1 q2 R M v d2 T hk' h4
        · exact into_T (ea := 0) H W q1 q2 R M v d2 T hk' h4
      · subst s3
        exact into_V H W q1 q2 R M v e1 d2 T hk'
      · subst s3
        subst e0
        subst o0
        exact into_X (oa := 0) (ea := 0) H W q1 q2 R M v d2 T hk'
      · subst s3
        subst e0
        exact into_S (ea := 0) H W q1 q2 R M v ho d2 T hk'
end Ops
