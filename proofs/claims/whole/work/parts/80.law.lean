/-! The methods of the law that catch, as functions -/
def f_L_schema (h : XH) : Option (Int32 × XH) := match f_t_schema h with | none => none | some r1 => (match r1.1 with | Sum.inl x => some (0, hsj r1.2 1316 (Int32.toNatClampNeg 0) (Int32.toInt64 x)) | Sum.inr k => (if k = 0 then some (1, r1.2) else none))
set_option maxRecDepth 20000 in
theorem kf_L_schema {l : Launch} {G : XG} {d : Nat} {h : XH} {r : Int32 × XH} (hl : l.stackTraces = false) (L0 : LY h) (hf : f_L_schema h = some r) : XCh l G xEL_schema hhL_schema (d + 9) [.ref 0, .ref 1316] h (fun v h2 => (h2 = r.2 ∧ v = some (.int r.1)) ∧ LY r.2) := by
  have pre : XS l G xEL_schema (d + 9) (0, xent xEL_schema [.ref 0, .ref 1316], [], h) (3, xent xEL_schema [.ref 0, .ref 1316], [.ref 0, .int 0, .ref 1316], h) := XS.tr (s_aloadn rfl rfl rfl) (XS.tr (s_iconst (v := 0) rfl rfl) (s_aloadn rfl rfl rfl))
  unfold f_L_schema at hf
  rcases e1 : f_t_schema h with _ | r1
  · rw [e1] at hf; cases hf
  rw [e1] at hf; dsimp only at hf
  rcases kf_t_schema (l := l) (G := G) (d := d) hl L0 e1 with ⟨x, ex, con⟩ | ⟨k, E, ek, eE, conx⟩
  · rw [ex] at hf; dsimp only at hf
    have w : XR l G xEL_schema (d + 9) (0, xent xEL_schema [.ref 0, .ref 1316], [], h) (fun C => ∃ v, xRet xEL_schema C v ∧ (C.2.2.2 = r.2 ∧ v = some (.int r.1)) ∧ LY r.2) := by
      refine pre.go ?_
      refine r_callv rfl xvX11_schema xm13_7 con (LY.lt L0 (by decide)) (LY.k0 L0) (by decide) rfl rfl (by omega) (by decide) (Nat.le_of_ble_eq_true rfl) ?_
      rintro _ _ ⟨⟨rfl, rfl⟩, L1⟩
      refine XS.go (s_i2l rfl) ?_
      refine XS.go (s_last rfl (LY.lt L1 (by decide)) (LY.k1316 L1) (inN (k := 0) (LY.n1316 L1) rfl (by decide) (by decide))) ?_
      refine XS.go (s_goto (tgt := 14) rfl rfl) ?_
      refine XS.go (s_iconst (v := 0) rfl rfl) ?_
      cases hf
      exact XR.reti rfl rfl (fun hret => ⟨_, hret, ⟨rfl, rfl⟩, (by simp only [LY_sj]; exact L1)⟩)
    obtain ⟨C, ⟨v, h1, h2⟩, h3⟩ := w
    exact ⟨v, C.2.2.2, h2, XMh.of xgL_schema (by decide +kernel) rfl (Nat.le_of_ble_eq_true rfl) h3 h1⟩
  · rw [ek] at hf; dsimp only at hf
    obtain ⟨h2, ⟨rfl, L9⟩, hM⟩ := conx
    by_cases k0 : k = 0
    · rw [if_pos k0] at hf
      subst k0
      have eE2 : E = "java/lang/IllegalArgumentException" := (Option.some.inj eE).symm
      subst eE2
      cases hf
      exact ⟨some (.int 1), r1.2, ⟨⟨rfl, rfl⟩, L9⟩, XMh.caught (C := (13, [], [.int 1], r1.2)) xgL_schema (by decide +kernel) rfl (Nat.le_of_ble_eq_true rfl) pre rfl xvX11_schema xm13_7 hM (LY.lt L0 (by decide)) (LY.k0 L0) (by decide) rfl rfl (by omega) (by decide) (Nat.le_of_ble_eq_true rfl) [] [] (0, 8, 11, 13) rfl (List.mem_of_getElem? (i := 0) rfl) (fun _ hz => absurd hz List.not_mem_nil) rfl (by decide) (lg_4 56 rfl rfl) ⟨2, by decide, Or.inl ⟨2, rfl, rfl, rfl⟩⟩ (s_iconst (v := 1) rfl rfl) (Or.inr (Or.inl ⟨1, rfl, Or.inl rfl, rfl, rfl⟩))⟩
    rw [if_neg k0] at hf
    cases hf
def f_L_text (h : XH) : Option (Int32 × XH) := match f_t_text h with | none => none | some r1 => (match r1.1 with | Sum.inl x => some (0, hsj r1.2 1316 (Int32.toNatClampNeg 0) (Int32.toInt64 x)) | Sum.inr k => (if k = 1 then some (1, r1.2) else (if k = 2 then some (2, r1.2) else none)))
set_option maxRecDepth 20000 in
theorem kf_L_text {l : Launch} {G : XG} {d : Nat} {h : XH} {r : Int32 × XH} (hl : l.stackTraces = false) (L0 : LY h) (hf : f_L_text h = some r) : XCh l G xEL_text hhL_text (d + 7) [.ref 0, .ref 1316] h (fun v h2 => (h2 = r.2 ∧ v = some (.int r.1)) ∧ LY r.2) := by
  have pre : XS l G xEL_text (d + 7) (0, xent xEL_text [.ref 0, .ref 1316], [], h) (3, xent xEL_text [.ref 0, .ref 1316], [.ref 0, .int 0, .ref 1316], h) := XS.tr (s_aloadn rfl rfl rfl) (XS.tr (s_iconst (v := 0) rfl rfl) (s_aloadn rfl rfl rfl))
  unfold f_L_text at hf
  rcases e1 : f_t_text h with _ | r1
  · rw [e1] at hf; cases hf
  rw [e1] at hf; dsimp only at hf
  rcases kf_t_text (l := l) (G := G) (d := d) hl L0 e1 with ⟨x, ex, con⟩ | ⟨k, E, ek, eE, conx⟩
  · rw [ex] at hf; dsimp only at hf
    have w : XR l G xEL_text (d + 7) (0, xent xEL_text [.ref 0, .ref 1316], [], h) (fun C => ∃ v, xRet xEL_text C v ∧ (C.2.2.2 = r.2 ∧ v = some (.int r.1)) ∧ LY r.2) := by
      refine pre.go ?_
      refine r_callv rfl xvX11_text xm13_15 con (LY.lt L0 (by decide)) (LY.k0 L0) (by decide) rfl rfl (by omega) (by decide) (Nat.le_of_ble_eq_true rfl) ?_
      rintro _ _ ⟨⟨rfl, rfl⟩, L1⟩
      refine XS.go (s_i2l rfl) ?_
      refine XS.go (s_last rfl (LY.lt L1 (by decide)) (LY.k1316 L1) (inN (k := 0) (LY.n1316 L1) rfl (by decide) (by decide))) ?_
      refine XS.go (s_goto (tgt := 17) rfl rfl) ?_
      refine XS.go (s_iconst (v := 0) rfl rfl) ?_
      cases hf
      exact XR.reti rfl rfl (fun hret => ⟨_, hret, ⟨rfl, rfl⟩, (by simp only [LY_sj]; exact L1)⟩)
    obtain ⟨C, ⟨v, h1, h2⟩, h3⟩ := w
    exact ⟨v, C.2.2.2, h2, XMh.of xgL_text (by decide +kernel) rfl (Nat.le_of_ble_eq_true rfl) h3 h1⟩
  · rw [ek] at hf; dsimp only at hf
    obtain ⟨h2, ⟨rfl, L9⟩, hM⟩ := conx
    by_cases k0 : k = 1
    · rw [if_pos k0] at hf
      subst k0
      have eE2 : E = "java/lang/IllegalStateException" := (Option.some.inj eE).symm
      subst eE2
      cases hf
      exact ⟨some (.int 1), r1.2, ⟨⟨rfl, rfl⟩, L9⟩, XMh.caught (C := (13, [], [.int 1], r1.2)) xgL_text (by decide +kernel) rfl (Nat.le_of_ble_eq_true rfl) pre rfl xvX11_text xm13_15 hM (LY.lt L0 (by decide)) (LY.k0 L0) (by decide) rfl rfl (by omega) (by decide) (Nat.le_of_ble_eq_true rfl) [] [(0, 8, 14, 20)] (0, 8, 11, 18) rfl (List.mem_of_getElem? (i := 1) rfl) (fun _ hz => absurd hz List.not_mem_nil) rfl (by decide) (lg_6 37 rfl rfl) ⟨2, by decide, Or.inl ⟨2, rfl, rfl, rfl⟩⟩ (s_iconst (v := 1) rfl rfl) (Or.inr (Or.inl ⟨1, rfl, Or.inl rfl, rfl, rfl⟩))⟩
    rw [if_neg k0] at hf
    by_cases k1 : k = 2
    · rw [if_pos k1] at hf
      subst k1
      have eE2 : E = "java/lang/UnsupportedOperationException" := (Option.some.inj eE).symm
      subst eE2
      cases hf
      exact ⟨some (.int 2), r1.2, ⟨⟨rfl, rfl⟩, L9⟩, XMh.caught (C := (16, [], [.int 2], r1.2)) xgL_text (by decide +kernel) rfl (Nat.le_of_ble_eq_true rfl) pre rfl xvX11_text xm13_15 hM (LY.lt L0 (by decide)) (LY.k0 L0) (by decide) rfl rfl (by omega) (by decide) (Nat.le_of_ble_eq_true rfl) [(0, 8, 11, 18)] [] (0, 8, 14, 20) rfl (List.mem_of_getElem? (i := 2) rfl) (List.forall_mem_cons.mpr ⟨⟨by decide, "java/lang/IllegalStateException", (lg_6 37 rfl rfl), List.mem_of_getElem? (i := 1) rfl, by decide⟩, fun _ hz => absurd hz List.not_mem_nil⟩) rfl (by decide) (lg_6 38 rfl rfl) ⟨2, by decide, Or.inl ⟨2, rfl, rfl, rfl⟩⟩ (s_iconst (v := 2) rfl rfl) (Or.inr (Or.inl ⟨2, rfl, Or.inl rfl, rfl, rfl⟩))⟩
    rw [if_neg k1] at hf
    cases hf
def f_L_vector (a0 : Int32) (a1 : Int32) (h : XH) : Option (Int32 × XH) := match f_t_vector a0 a1 h with | none => none | some r1 => (match r1.1 with | Sum.inl x => some (0, hsj r1.2 1316 (Int32.toNatClampNeg 0) (Int32.toInt64 x)) | Sum.inr k => (if k = 1 then some (1, r1.2) else (if k = 0 then some (2, r1.2) else (if k = 2 then some (3, r1.2) else none))))
set_option maxRecDepth 20000 in
theorem kf_L_vector {l : Launch} {G : XG} {d : Nat} {a0 : Int32} {a1 : Int32} {h : XH} {r : Int32 × XH} (hl : l.stackTraces = false) (L0 : LY h) (hf : f_L_vector a0 a1 h = some r) : XCh l G xEL_vector hhL_vector (d + 7) [.ref 0, .int a0, .int a1, .ref 1316] h (fun v h2 => (h2 = r.2 ∧ v = some (.int r.1)) ∧ LY r.2) := by
  have pre : XS l G xEL_vector (d + 7) (0, xent xEL_vector [.ref 0, .int a0, .int a1, .ref 1316], [], h) (5, xent xEL_vector [.ref 0, .int a0, .int a1, .ref 1316], [.int a1, .int a0, .ref 0, .int 0, .ref 1316], h) := XS.tr (s_aloadn rfl rfl rfl) (XS.tr (s_iconst (v := 0) rfl rfl) (XS.tr (s_aloadn rfl rfl rfl) (XS.tr (s_iloadn rfl rfl rfl) (s_iloadn rfl rfl rfl))))
  unfold f_L_vector at hf
  rcases e1 : f_t_vector a0 a1 h with _ | r1
  · rw [e1] at hf; cases hf
  rw [e1] at hf; dsimp only at hf
  rcases kf_t_vector (l := l) (G := G) (d := d) hl L0 e1 with ⟨x, ex, con⟩ | ⟨k, E, ek, eE, conx⟩
  · rw [ex] at hf; dsimp only at hf
    have w : XR l G xEL_vector (d + 7) (0, xent xEL_vector [.ref 0, .int a0, .int a1, .ref 1316], [], h) (fun C => ∃ v, xRet xEL_vector C v ∧ (C.2.2.2 = r.2 ∧ v = some (.int r.1)) ∧ LY r.2) := by
      refine pre.go ?_
      refine r_callv rfl xvX11_vector xm13_22 con (LY.lt L0 (by decide)) (LY.k0 L0) (by decide) rfl rfl (by omega) (by decide) (Nat.le_of_ble_eq_true rfl) ?_
      rintro _ _ ⟨⟨rfl, rfl⟩, L1⟩
      refine XS.go (s_i2l rfl) ?_
      refine XS.go (s_last rfl (LY.lt L1 (by decide)) (LY.k1316 L1) (inN (k := 0) (LY.n1316 L1) rfl (by decide) (by decide))) ?_
      refine XS.go (s_goto (tgt := 25) rfl rfl) ?_
      refine XS.go (s_iconst (v := 0) rfl rfl) ?_
      cases hf
      exact XR.reti rfl rfl (fun hret => ⟨_, hret, ⟨rfl, rfl⟩, (by simp only [LY_sj]; exact L1)⟩)
    obtain ⟨C, ⟨v, h1, h2⟩, h3⟩ := w
    exact ⟨v, C.2.2.2, h2, XMh.of xgL_vector (by decide +kernel) rfl (Nat.le_of_ble_eq_true rfl) h3 h1⟩
  · rw [ek] at hf; dsimp only at hf
    obtain ⟨h2, ⟨rfl, L9⟩, hM⟩ := conx
    by_cases k0 : k = 1
    · rw [if_pos k0] at hf
      subst k0
      have eE2 : E = "java/lang/IllegalStateException" := (Option.some.inj eE).symm
      subst eE2
      cases hf
      exact ⟨some (.int 1), r1.2, ⟨⟨rfl, rfl⟩, L9⟩, XMh.caught (C := (16, [], [.int 1], r1.2)) xgL_vector (by decide +kernel) rfl (Nat.le_of_ble_eq_true rfl) pre rfl xvX11_vector xm13_22 hM (LY.lt L0 (by decide)) (LY.k0 L0) (by decide) rfl rfl (by omega) (by decide) (Nat.le_of_ble_eq_true rfl) [] [(0, 10, 17, 13), (0, 10, 21, 20)] (0, 10, 13, 18) rfl (List.mem_of_getElem? (i := 1) rfl) (fun _ hz => absurd hz List.not_mem_nil) rfl (by decide) (lg_6 37 rfl rfl) ⟨4, by decide, Or.inr ⟨rfl, rfl⟩⟩ (s_iconst (v := 1) rfl rfl) (Or.inr (Or.inl ⟨1, rfl, Or.inl rfl, rfl, rfl⟩))⟩
    rw [if_neg k0] at hf
    by_cases k1 : k = 0
    · rw [if_pos k1] at hf
      subst k1
      have eE2 : E = "java/lang/IllegalArgumentException" := (Option.some.inj eE).symm
      subst eE2
      cases hf
      exact ⟨some (.int 2), r1.2, ⟨⟨rfl, rfl⟩, L9⟩, XMh.caught (C := (20, [], [.int 2], r1.2)) xgL_vector (by decide +kernel) rfl (Nat.le_of_ble_eq_true rfl) pre rfl xvX11_vector xm13_22 hM (LY.lt L0 (by decide)) (LY.k0 L0) (by decide) rfl rfl (by omega) (by decide) (Nat.le_of_ble_eq_true rfl) [(0, 10, 13, 18)] [(0, 10, 21, 20)] (0, 10, 17, 13) rfl (List.mem_of_getElem? (i := 0) rfl) (List.forall_mem_cons.mpr ⟨⟨by decide, "java/lang/IllegalStateException", (lg_6 37 rfl rfl), List.mem_of_getElem? (i := 1) rfl, by decide⟩, fun _ hz => absurd hz List.not_mem_nil⟩) rfl (by decide) (lg_4 56 rfl rfl) ⟨4, by decide, Or.inr ⟨rfl, rfl⟩⟩ (s_iconst (v := 2) rfl rfl) (Or.inr (Or.inl ⟨2, rfl, Or.inl rfl, rfl, rfl⟩))⟩
    rw [if_neg k1] at hf
    by_cases k2 : k = 2
    · rw [if_pos k2] at hf
      subst k2
      have eE2 : E = "java/lang/UnsupportedOperationException" := (Option.some.inj eE).symm
      subst eE2
      cases hf
      exact ⟨some (.int 3), r1.2, ⟨⟨rfl, rfl⟩, L9⟩, XMh.caught (C := (24, [], [.int 3], r1.2)) xgL_vector (by decide +kernel) rfl (Nat.le_of_ble_eq_true rfl) pre rfl xvX11_vector xm13_22 hM (LY.lt L0 (by decide)) (LY.k0 L0) (by decide) rfl rfl (by omega) (by decide) (Nat.le_of_ble_eq_true rfl) [(0, 10, 13, 18), (0, 10, 17, 13)] [] (0, 10, 21, 20) rfl (List.mem_of_getElem? (i := 2) rfl) (List.forall_mem_cons.mpr ⟨⟨by decide, "java/lang/IllegalStateException", (lg_6 37 rfl rfl), List.mem_of_getElem? (i := 1) rfl, by decide⟩, List.forall_mem_cons.mpr ⟨⟨by decide, "java/lang/IllegalArgumentException", (lg_4 56 rfl rfl), List.mem_of_getElem? (i := 0) rfl, by decide⟩, fun _ hz => absurd hz List.not_mem_nil⟩⟩) rfl (by decide) (lg_6 38 rfl rfl) ⟨4, by decide, Or.inr ⟨rfl, rfl⟩⟩ (s_iconst (v := 3) rfl rfl) (Or.inr (Or.inl ⟨3, rfl, Or.inl rfl, rfl, rfl⟩))⟩
    rw [if_neg k2] at hf
    cases hf
def f_L_begin (a0 : Int32) (h : XH) : Option (Int32 × XH) := match f_t_begin a0 h with | none => none | some r1 => (match r1.1 with | Sum.inl x => some (0, r1.2) | Sum.inr k => (if k = 1 then some (1, r1.2) else (if k = 3 then some (2, r1.2) else none)))
set_option maxRecDepth 20000 in
theorem kf_L_begin {l : Launch} {G : XG} {d : Nat} {a0 : Int32} {h : XH} {r : Int32 × XH} (hl : l.stackTraces = false) (L0 : LY h) (hf : f_L_begin a0 h = some r) : XCh l G xEL_begin hhL_begin (d + 7) [.ref 0, .int a0] h (fun v h2 => (h2 = r.2 ∧ v = some (.int r.1)) ∧ LY r.2) := by
  have pre : XS l G xEL_begin (d + 7) (0, xent xEL_begin [.ref 0, .int a0], [], h) (2, xent xEL_begin [.ref 0, .int a0], [.int a0, .ref 0], h) := XS.tr (s_aloadn rfl rfl rfl) (s_iloadn rfl rfl rfl)
  unfold f_L_begin at hf
  rcases e1 : f_t_begin a0 h with _ | r1
  · rw [e1] at hf; cases hf
  rw [e1] at hf; dsimp only at hf
  rcases kf_t_begin (l := l) (G := G) (d := d) hl L0 e1 with ⟨x, ex, con⟩ | ⟨k, E, ek, eE, conx⟩
  · rw [ex] at hf; dsimp only at hf
    have w : XR l G xEL_begin (d + 7) (0, xent xEL_begin [.ref 0, .int a0], [], h) (fun C => ∃ v, xRet xEL_begin C v ∧ (C.2.2.2 = r.2 ∧ v = some (.int r.1)) ∧ LY r.2) := by
      refine pre.go ?_
      refine r_callv rfl xvX11_begin xm13_26 con (LY.lt L0 (by decide)) (LY.k0 L0) (by decide) rfl rfl (by omega) (by decide) (Nat.le_of_ble_eq_true rfl) ?_
      rintro _ _ ⟨⟨rfl, rfl⟩, L1⟩
      refine XS.go (s_goto (tgt := 14) rfl rfl) ?_
      refine XS.go (s_iconst (v := 0) rfl rfl) ?_
      cases hf
      exact XR.reti rfl rfl (fun hret => ⟨_, hret, ⟨rfl, rfl⟩, L1⟩)
    obtain ⟨C, ⟨v, h1, h2⟩, h3⟩ := w
    exact ⟨v, C.2.2.2, h2, XMh.of xgL_begin (by decide +kernel) rfl (Nat.le_of_ble_eq_true rfl) h3 h1⟩
  · rw [ek] at hf; dsimp only at hf
    obtain ⟨h2, ⟨rfl, L9⟩, hM⟩ := conx
    by_cases k0 : k = 1
    · rw [if_pos k0] at hf
      subst k0
      have eE2 : E = "java/lang/IllegalStateException" := (Option.some.inj eE).symm
      subst eE2
      cases hf
      exact ⟨some (.int 1), r1.2, ⟨⟨rfl, rfl⟩, L9⟩, XMh.caught (C := (10, [], [.int 1], r1.2)) xgL_begin (by decide +kernel) rfl (Nat.le_of_ble_eq_true rfl) pre rfl xvX11_begin xm13_26 hM (LY.lt L0 (by decide)) (LY.k0 L0) (by decide) rfl rfl (by omega) (by decide) (Nat.le_of_ble_eq_true rfl) [] [(0, 5, 11, 30)] (0, 5, 8, 18) rfl (List.mem_of_getElem? (i := 1) rfl) (fun _ hz => absurd hz List.not_mem_nil) rfl (by decide) (lg_6 37 rfl rfl) ⟨2, by decide, Or.inl ⟨2, rfl, rfl, rfl⟩⟩ (s_iconst (v := 1) rfl rfl) (Or.inr (Or.inl ⟨1, rfl, Or.inl rfl, rfl, rfl⟩))⟩
    rw [if_neg k0] at hf
    by_cases k1 : k = 3
    · rw [if_pos k1] at hf
      subst k1
      have eE2 : E = "java/util/NoSuchElementException" := (Option.some.inj eE).symm
      subst eE2
      cases hf
      exact ⟨some (.int 2), r1.2, ⟨⟨rfl, rfl⟩, L9⟩, XMh.caught (C := (13, [], [.int 2], r1.2)) xgL_begin (by decide +kernel) rfl (Nat.le_of_ble_eq_true rfl) pre rfl xvX11_begin xm13_26 hM (LY.lt L0 (by decide)) (LY.k0 L0) (by decide) rfl rfl (by omega) (by decide) (Nat.le_of_ble_eq_true rfl) [(0, 5, 8, 18)] [] (0, 5, 11, 30) rfl (List.mem_of_getElem? (i := 3) rfl) (List.forall_mem_cons.mpr ⟨⟨by decide, "java/lang/IllegalStateException", (lg_6 37 rfl rfl), List.mem_of_getElem? (i := 1) rfl, by decide⟩, fun _ hz => absurd hz List.not_mem_nil⟩) rfl (by decide) (lg_6 167 rfl rfl) ⟨2, by decide, Or.inl ⟨2, rfl, rfl, rfl⟩⟩ (s_iconst (v := 2) rfl rfl) (Or.inr (Or.inl ⟨2, rfl, Or.inl rfl, rfl, rfl⟩))⟩
    rw [if_neg k1] at hf
    cases hf
def f_L_set (a0 : Int32) (h : XH) : Option (Int32 × XH) := match f_t_set a0 h with | none => none | some r1 => (match r1.1 with | Sum.inl x => some (0, hsj r1.2 1316 (Int32.toNatClampNeg 0) (if x = 0 then 0 else 1)) | Sum.inr k => (if k = 1 then some (1, r1.2) else (if k = 3 then some (2, r1.2) else (if k = 0 then some (3, r1.2) else (if k = 2 then some (4, r1.2) else none)))))
set_option maxRecDepth 20000 in
theorem kf_L_set {l : Launch} {G : XG} {d : Nat} {a0 : Int32} {h : XH} {r : Int32 × XH} (hl : l.stackTraces = false) (L0 : LY h) (hf : f_L_set a0 h = some r) : XCh l G xEL_set hhL_set (d + 7) [.ref 0, .int a0, .ref 1316] h (fun v h2 => (h2 = r.2 ∧ v = some (.int r.1)) ∧ LY r.2) := by
  have pre : XS l G xEL_set (d + 7) (0, xent xEL_set [.ref 0, .int a0, .ref 1316], [], h) (4, xent xEL_set [.ref 0, .int a0, .ref 1316], [.int a0, .ref 0, .int 0, .ref 1316], h) := XS.tr (s_aloadn rfl rfl rfl) (XS.tr (s_iconst (v := 0) rfl rfl) (XS.tr (s_aloadn rfl rfl rfl) (s_iloadn rfl rfl rfl)))
  unfold f_L_set at hf
  rcases e1 : f_t_set a0 h with _ | r1
  · rw [e1] at hf; cases hf
  rw [e1] at hf; dsimp only at hf
  rcases kf_t_set (l := l) (G := G) (d := d) hl L0 e1 with ⟨x, ex, con⟩ | ⟨k, E, ek, eE, conx⟩
  · rw [ex] at hf; dsimp only at hf
    have w : XR l G xEL_set (d + 7) (0, xent xEL_set [.ref 0, .int a0, .ref 1316], [], h) (fun C => ∃ v, xRet xEL_set C v ∧ (C.2.2.2 = r.2 ∧ v = some (.int r.1)) ∧ LY r.2) := by
      refine pre.go ?_
      refine r_callv rfl xvX11_set xm13_32 con (LY.lt L0 (by decide)) (LY.k0 L0) (by decide) rfl rfl (by omega) (by decide) (Nat.le_of_ble_eq_true rfl) ?_
      rintro _ _ ⟨⟨rfl, rfl⟩, L1⟩
      refine r_if_eq (tgt := 14) rfl rfl (fun qz => ?_) (fun qz => ?_)
      · rw [if_pos qz] at hf
        refine XS.go (s_lconst (v := 0) rfl rfl) ?_
        refine XS.go (s_last rfl (LY.lt L1 (by decide)) (LY.k1316 L1) (inN (k := 0) (LY.n1316 L1) rfl (by decide) (by decide))) ?_
        refine XS.go (s_goto (tgt := 31) rfl rfl) ?_
        refine XS.go (s_iconst (v := 0) rfl rfl) ?_
        cases hf
        exact XR.reti rfl rfl (fun hret => ⟨_, hret, ⟨rfl, rfl⟩, (by simp only [LY_sj]; exact L1)⟩)
      · rw [if_neg qz] at hf
        refine XS.go (s_lconst (v := 1) rfl rfl) ?_
        refine XS.go (s_goto (tgt := 15) rfl rfl) ?_
        refine XS.go (s_last rfl (LY.lt L1 (by decide)) (LY.k1316 L1) (inN (k := 0) (LY.n1316 L1) rfl (by decide) (by decide))) ?_
        refine XS.go (s_goto (tgt := 31) rfl rfl) ?_
        refine XS.go (s_iconst (v := 0) rfl rfl) ?_
        cases hf
        exact XR.reti rfl rfl (fun hret => ⟨_, hret, ⟨rfl, rfl⟩, (by simp only [LY_sj]; exact L1)⟩)
    obtain ⟨C, ⟨v, h1, h2⟩, h3⟩ := w
    exact ⟨v, C.2.2.2, h2, XMh.of xgL_set (by decide +kernel) rfl (Nat.le_of_ble_eq_true rfl) h3 h1⟩
  · rw [ek] at hf; dsimp only at hf
    obtain ⟨h2, ⟨rfl, L9⟩, hM⟩ := conx
    by_cases k0 : k = 1
    · rw [if_pos k0] at hf
      subst k0
      have eE2 : E = "java/lang/IllegalStateException" := (Option.some.inj eE).symm
      subst eE2
      cases hf
      exact ⟨some (.int 1), r1.2, ⟨⟨rfl, rfl⟩, L9⟩, XMh.caught (C := (21, [], [.int 1], r1.2)) xgL_set (by decide +kernel) rfl (Nat.le_of_ble_eq_true rfl) pre rfl xvX11_set xm13_32 hM (LY.lt L0 (by decide)) (LY.k0 L0) (by decide) rfl rfl (by omega) (by decide) (Nat.le_of_ble_eq_true rfl) [] [(0, 16, 22, 30), (0, 16, 25, 13), (0, 16, 28, 20)] (0, 16, 19, 18) rfl (List.mem_of_getElem? (i := 1) rfl) (fun _ hz => absurd hz List.not_mem_nil) rfl (by decide) (lg_6 37 rfl rfl) ⟨3, by decide, Or.inl ⟨3, rfl, rfl, rfl⟩⟩ (s_iconst (v := 1) rfl rfl) (Or.inr (Or.inl ⟨1, rfl, Or.inl rfl, rfl, rfl⟩))⟩
    rw [if_neg k0] at hf
    by_cases k1 : k = 3
    · rw [if_pos k1] at hf
      subst k1
      have eE2 : E = "java/util/NoSuchElementException" := (Option.some.inj eE).symm
      subst eE2
      cases hf
      exact ⟨some (.int 2), r1.2, ⟨⟨rfl, rfl⟩, L9⟩, XMh.caught (C := (24, [], [.int 2], r1.2)) xgL_set (by decide +kernel) rfl (Nat.le_of_ble_eq_true rfl) pre rfl xvX11_set xm13_32 hM (LY.lt L0 (by decide)) (LY.k0 L0) (by decide) rfl rfl (by omega) (by decide) (Nat.le_of_ble_eq_true rfl) [(0, 16, 19, 18)] [(0, 16, 25, 13), (0, 16, 28, 20)] (0, 16, 22, 30) rfl (List.mem_of_getElem? (i := 3) rfl) (List.forall_mem_cons.mpr ⟨⟨by decide, "java/lang/IllegalStateException", (lg_6 37 rfl rfl), List.mem_of_getElem? (i := 1) rfl, by decide⟩, fun _ hz => absurd hz List.not_mem_nil⟩) rfl (by decide) (lg_6 167 rfl rfl) ⟨3, by decide, Or.inl ⟨3, rfl, rfl, rfl⟩⟩ (s_iconst (v := 2) rfl rfl) (Or.inr (Or.inl ⟨2, rfl, Or.inl rfl, rfl, rfl⟩))⟩
    rw [if_neg k1] at hf
    by_cases k2 : k = 0
    · rw [if_pos k2] at hf
      subst k2
      have eE2 : E = "java/lang/IllegalArgumentException" := (Option.some.inj eE).symm
      subst eE2
      cases hf
      exact ⟨some (.int 3), r1.2, ⟨⟨rfl, rfl⟩, L9⟩, XMh.caught (C := (27, [], [.int 3], r1.2)) xgL_set (by decide +kernel) rfl (Nat.le_of_ble_eq_true rfl) pre rfl xvX11_set xm13_32 hM (LY.lt L0 (by decide)) (LY.k0 L0) (by decide) rfl rfl (by omega) (by decide) (Nat.le_of_ble_eq_true rfl) [(0, 16, 19, 18), (0, 16, 22, 30)] [(0, 16, 28, 20)] (0, 16, 25, 13) rfl (List.mem_of_getElem? (i := 0) rfl) (List.forall_mem_cons.mpr ⟨⟨by decide, "java/lang/IllegalStateException", (lg_6 37 rfl rfl), List.mem_of_getElem? (i := 1) rfl, by decide⟩, List.forall_mem_cons.mpr ⟨⟨by decide, "java/util/NoSuchElementException", (lg_6 167 rfl rfl), List.mem_of_getElem? (i := 3) rfl, by decide⟩, fun _ hz => absurd hz List.not_mem_nil⟩⟩) rfl (by decide) (lg_4 56 rfl rfl) ⟨3, by decide, Or.inl ⟨3, rfl, rfl, rfl⟩⟩ (s_iconst (v := 3) rfl rfl) (Or.inr (Or.inl ⟨3, rfl, Or.inl rfl, rfl, rfl⟩))⟩
    rw [if_neg k2] at hf
    by_cases k3 : k = 2
    · rw [if_pos k3] at hf
      subst k3
      have eE2 : E = "java/lang/UnsupportedOperationException" := (Option.some.inj eE).symm
      subst eE2
      cases hf
      exact ⟨some (.int 4), r1.2, ⟨⟨rfl, rfl⟩, L9⟩, XMh.caught (C := (30, [], [.int 4], r1.2)) xgL_set (by decide +kernel) rfl (Nat.le_of_ble_eq_true rfl) pre rfl xvX11_set xm13_32 hM (LY.lt L0 (by decide)) (LY.k0 L0) (by decide) rfl rfl (by omega) (by decide) (Nat.le_of_ble_eq_true rfl) [(0, 16, 19, 18), (0, 16, 22, 30), (0, 16, 25, 13)] [] (0, 16, 28, 20) rfl (List.mem_of_getElem? (i := 2) rfl) (List.forall_mem_cons.mpr ⟨⟨by decide, "java/lang/IllegalStateException", (lg_6 37 rfl rfl), List.mem_of_getElem? (i := 1) rfl, by decide⟩, List.forall_mem_cons.mpr ⟨⟨by decide, "java/util/NoSuchElementException", (lg_6 167 rfl rfl), List.mem_of_getElem? (i := 3) rfl, by decide⟩, List.forall_mem_cons.mpr ⟨⟨by decide, "java/lang/IllegalArgumentException", (lg_4 56 rfl rfl), List.mem_of_getElem? (i := 0) rfl, by decide⟩, fun _ hz => absurd hz List.not_mem_nil⟩⟩⟩) rfl (by decide) (lg_6 38 rfl rfl) ⟨3, by decide, Or.inl ⟨3, rfl, rfl, rfl⟩⟩ (s_iconst (v := 4) rfl rfl) (Or.inr (Or.inl ⟨4, rfl, Or.inl rfl, rfl, rfl⟩))⟩
    rw [if_neg k3] at hf
    cases hf
def f_L_ready (h : XH) : Option (Int32 × XH) := match f_t_ready h with | none => none | some r1 => (match r1.1 with | Sum.inl x => some (0, hsj r1.2 1316 (Int32.toNatClampNeg 0) (Int32.toInt64 x)) | Sum.inr k => (if k = 1 then some (1, r1.2) else (if k = 2 then some (2, r1.2) else none)))
set_option maxRecDepth 20000 in
theorem kf_L_ready {l : Launch} {G : XG} {d : Nat} {h : XH} {r : Int32 × XH} (hl : l.stackTraces = false) (L0 : LY h) (hf : f_L_ready h = some r) : XCh l G xEL_ready hhL_ready (d + 7) [.ref 0, .ref 1316] h (fun v h2 => (h2 = r.2 ∧ v = some (.int r.1)) ∧ LY r.2) := by
  have pre : XS l G xEL_ready (d + 7) (0, xent xEL_ready [.ref 0, .ref 1316], [], h) (3, xent xEL_ready [.ref 0, .ref 1316], [.ref 0, .int 0, .ref 1316], h) := XS.tr (s_aloadn rfl rfl rfl) (XS.tr (s_iconst (v := 0) rfl rfl) (s_aloadn rfl rfl rfl))
  unfold f_L_ready at hf
  rcases e1 : f_t_ready h with _ | r1
  · rw [e1] at hf; cases hf
  rw [e1] at hf; dsimp only at hf
  rcases kf_t_ready (l := l) (G := G) (d := d) hl L0 e1 with ⟨x, ex, con⟩ | ⟨k, E, ek, eE, conx⟩
  · rw [ex] at hf; dsimp only at hf
    have w : XR l G xEL_ready (d + 7) (0, xent xEL_ready [.ref 0, .ref 1316], [], h) (fun C => ∃ v, xRet xEL_ready C v ∧ (C.2.2.2 = r.2 ∧ v = some (.int r.1)) ∧ LY r.2) := by
      refine pre.go ?_
      refine r_callv rfl xvX11_ready xm13_36 con (LY.lt L0 (by decide)) (LY.k0 L0) (by decide) rfl rfl (by omega) (by decide) (Nat.le_of_ble_eq_true rfl) ?_
      rintro _ _ ⟨⟨rfl, rfl⟩, L1⟩
      refine XS.go (s_i2l rfl) ?_
      refine XS.go (s_last rfl (LY.lt L1 (by decide)) (LY.k1316 L1) (inN (k := 0) (LY.n1316 L1) rfl (by decide) (by decide))) ?_
      refine XS.go (s_goto (tgt := 17) rfl rfl) ?_
      refine XS.go (s_iconst (v := 0) rfl rfl) ?_
      cases hf
      exact XR.reti rfl rfl (fun hret => ⟨_, hret, ⟨rfl, rfl⟩, (by simp only [LY_sj]; exact L1)⟩)
    obtain ⟨C, ⟨v, h1, h2⟩, h3⟩ := w
    exact ⟨v, C.2.2.2, h2, XMh.of xgL_ready (by decide +kernel) rfl (Nat.le_of_ble_eq_true rfl) h3 h1⟩
  · rw [ek] at hf; dsimp only at hf
    obtain ⟨h2, ⟨rfl, L9⟩, hM⟩ := conx
    by_cases k0 : k = 1
    · rw [if_pos k0] at hf
      subst k0
      have eE2 : E = "java/lang/IllegalStateException" := (Option.some.inj eE).symm
      subst eE2
      cases hf
      exact ⟨some (.int 1), r1.2, ⟨⟨rfl, rfl⟩, L9⟩, XMh.caught (C := (13, [], [.int 1], r1.2)) xgL_ready (by decide +kernel) rfl (Nat.le_of_ble_eq_true rfl) pre rfl xvX11_ready xm13_36 hM (LY.lt L0 (by decide)) (LY.k0 L0) (by decide) rfl rfl (by omega) (by decide) (Nat.le_of_ble_eq_true rfl) [] [(0, 8, 14, 20)] (0, 8, 11, 18) rfl (List.mem_of_getElem? (i := 1) rfl) (fun _ hz => absurd hz List.not_mem_nil) rfl (by decide) (lg_6 37 rfl rfl) ⟨2, by decide, Or.inl ⟨2, rfl, rfl, rfl⟩⟩ (s_iconst (v := 1) rfl rfl) (Or.inr (Or.inl ⟨1, rfl, Or.inl rfl, rfl, rfl⟩))⟩
    rw [if_neg k0] at hf
    by_cases k1 : k = 2
    · rw [if_pos k1] at hf
      subst k1
      have eE2 : E = "java/lang/UnsupportedOperationException" := (Option.some.inj eE).symm
      subst eE2
      cases hf
      exact ⟨some (.int 2), r1.2, ⟨⟨rfl, rfl⟩, L9⟩, XMh.caught (C := (16, [], [.int 2], r1.2)) xgL_ready (by decide +kernel) rfl (Nat.le_of_ble_eq_true rfl) pre rfl xvX11_ready xm13_36 hM (LY.lt L0 (by decide)) (LY.k0 L0) (by decide) rfl rfl (by omega) (by decide) (Nat.le_of_ble_eq_true rfl) [(0, 8, 11, 18)] [] (0, 8, 14, 20) rfl (List.mem_of_getElem? (i := 2) rfl) (List.forall_mem_cons.mpr ⟨⟨by decide, "java/lang/IllegalStateException", (lg_6 37 rfl rfl), List.mem_of_getElem? (i := 1) rfl, by decide⟩, fun _ hz => absurd hz List.not_mem_nil⟩) rfl (by decide) (lg_6 38 rfl rfl) ⟨2, by decide, Or.inl ⟨2, rfl, rfl, rfl⟩⟩ (s_iconst (v := 2) rfl rfl) (Or.inr (Or.inl ⟨2, rfl, Or.inl rfl, rfl, rfl⟩))⟩
    rw [if_neg k1] at hf
    cases hf
def f_L_finish (a0 : Int32) (h : XH) : Option (Int32 × XH) := match f_t_finish a0 h with | none => none | some r1 => (match r1.1 with | Sum.inl x => some (0, hsj r1.2 1316 (Int32.toNatClampNeg 0) (Int32.toInt64 x)) | Sum.inr k => (if k = 1 then some (1, r1.2) else (if k = 0 then some (2, r1.2) else (if k = 2 then some (3, r1.2) else none))))
set_option maxRecDepth 20000 in
theorem kf_L_finish {l : Launch} {G : XG} {d : Nat} {a0 : Int32} {h : XH} {r : Int32 × XH} (hl : l.stackTraces = false) (L0 : LY h) (hf : f_L_finish a0 h = some r) : XCh l G xEL_finish hhL_finish (d + 7) [.ref 0, .int a0, .ref 1316] h (fun v h2 => (h2 = r.2 ∧ v = some (.int r.1)) ∧ LY r.2) := by
  have pre : XS l G xEL_finish (d + 7) (0, xent xEL_finish [.ref 0, .int a0, .ref 1316], [], h) (4, xent xEL_finish [.ref 0, .int a0, .ref 1316], [.int a0, .ref 0, .int 0, .ref 1316], h) := XS.tr (s_aloadn rfl rfl rfl) (XS.tr (s_iconst (v := 0) rfl rfl) (XS.tr (s_aloadn rfl rfl rfl) (s_iloadn rfl rfl rfl)))
  unfold f_L_finish at hf
  rcases e1 : f_t_finish a0 h with _ | r1
  · rw [e1] at hf; cases hf
  rw [e1] at hf; dsimp only at hf
  rcases kf_t_finish (l := l) (G := G) (d := d) hl L0 e1 with ⟨x, ex, con⟩ | ⟨k, E, ek, eE, conx⟩
  · rw [ex] at hf; dsimp only at hf
    have w : XR l G xEL_finish (d + 7) (0, xent xEL_finish [.ref 0, .int a0, .ref 1316], [], h) (fun C => ∃ v, xRet xEL_finish C v ∧ (C.2.2.2 = r.2 ∧ v = some (.int r.1)) ∧ LY r.2) := by
      refine pre.go ?_
      refine r_callv rfl xvX11_finish xm13_39 con (LY.lt L0 (by decide)) (LY.k0 L0) (by decide) rfl rfl (by omega) (by decide) (Nat.le_of_ble_eq_true rfl) ?_
      rintro _ _ ⟨⟨rfl, rfl⟩, L1⟩
      refine XS.go (s_i2l rfl) ?_
      refine XS.go (s_last rfl (LY.lt L1 (by decide)) (LY.k1316 L1) (inN (k := 0) (LY.n1316 L1) rfl (by decide) (by decide))) ?_
      refine XS.go (s_goto (tgt := 21) rfl rfl) ?_
      refine XS.go (s_iconst (v := 0) rfl rfl) ?_
      cases hf
      exact XR.reti rfl rfl (fun hret => ⟨_, hret, ⟨rfl, rfl⟩, (by simp only [LY_sj]; exact L1)⟩)
    obtain ⟨C, ⟨v, h1, h2⟩, h3⟩ := w
    exact ⟨v, C.2.2.2, h2, XMh.of xgL_finish (by decide +kernel) rfl (Nat.le_of_ble_eq_true rfl) h3 h1⟩
  · rw [ek] at hf; dsimp only at hf
    obtain ⟨h2, ⟨rfl, L9⟩, hM⟩ := conx
    by_cases k0 : k = 1
    · rw [if_pos k0] at hf
      subst k0
      have eE2 : E = "java/lang/IllegalStateException" := (Option.some.inj eE).symm
      subst eE2
      cases hf
      exact ⟨some (.int 1), r1.2, ⟨⟨rfl, rfl⟩, L9⟩, XMh.caught (C := (14, [], [.int 1], r1.2)) xgL_finish (by decide +kernel) rfl (Nat.le_of_ble_eq_true rfl) pre rfl xvX11_finish xm13_39 hM (LY.lt L0 (by decide)) (LY.k0 L0) (by decide) rfl rfl (by omega) (by decide) (Nat.le_of_ble_eq_true rfl) [] [(0, 9, 15, 13), (0, 9, 18, 20)] (0, 9, 12, 18) rfl (List.mem_of_getElem? (i := 1) rfl) (fun _ hz => absurd hz List.not_mem_nil) rfl (by decide) (lg_6 37 rfl rfl) ⟨3, by decide, Or.inl ⟨3, rfl, rfl, rfl⟩⟩ (s_iconst (v := 1) rfl rfl) (Or.inr (Or.inl ⟨1, rfl, Or.inl rfl, rfl, rfl⟩))⟩
    rw [if_neg k0] at hf
    by_cases k1 : k = 0
    · rw [if_pos k1] at hf
      subst k1
      have eE2 : E = "java/lang/IllegalArgumentException" := (Option.some.inj eE).symm
      subst eE2
      cases hf
      exact ⟨some (.int 2), r1.2, ⟨⟨rfl, rfl⟩, L9⟩, XMh.caught (C := (17, [], [.int 2], r1.2)) xgL_finish (by decide +kernel) rfl (Nat.le_of_ble_eq_true rfl) pre rfl xvX11_finish xm13_39 hM (LY.lt L0 (by decide)) (LY.k0 L0) (by decide) rfl rfl (by omega) (by decide) (Nat.le_of_ble_eq_true rfl) [(0, 9, 12, 18)] [(0, 9, 18, 20)] (0, 9, 15, 13) rfl (List.mem_of_getElem? (i := 0) rfl) (List.forall_mem_cons.mpr ⟨⟨by decide, "java/lang/IllegalStateException", (lg_6 37 rfl rfl), List.mem_of_getElem? (i := 1) rfl, by decide⟩, fun _ hz => absurd hz List.not_mem_nil⟩) rfl (by decide) (lg_4 56 rfl rfl) ⟨3, by decide, Or.inl ⟨3, rfl, rfl, rfl⟩⟩ (s_iconst (v := 2) rfl rfl) (Or.inr (Or.inl ⟨2, rfl, Or.inl rfl, rfl, rfl⟩))⟩
    rw [if_neg k1] at hf
    by_cases k2 : k = 2
    · rw [if_pos k2] at hf
      subst k2
      have eE2 : E = "java/lang/UnsupportedOperationException" := (Option.some.inj eE).symm
      subst eE2
      cases hf
      exact ⟨some (.int 3), r1.2, ⟨⟨rfl, rfl⟩, L9⟩, XMh.caught (C := (20, [], [.int 3], r1.2)) xgL_finish (by decide +kernel) rfl (Nat.le_of_ble_eq_true rfl) pre rfl xvX11_finish xm13_39 hM (LY.lt L0 (by decide)) (LY.k0 L0) (by decide) rfl rfl (by omega) (by decide) (Nat.le_of_ble_eq_true rfl) [(0, 9, 12, 18), (0, 9, 15, 13)] [] (0, 9, 18, 20) rfl (List.mem_of_getElem? (i := 2) rfl) (List.forall_mem_cons.mpr ⟨⟨by decide, "java/lang/IllegalStateException", (lg_6 37 rfl rfl), List.mem_of_getElem? (i := 1) rfl, by decide⟩, List.forall_mem_cons.mpr ⟨⟨by decide, "java/lang/IllegalArgumentException", (lg_4 56 rfl rfl), List.mem_of_getElem? (i := 0) rfl, by decide⟩, fun _ hz => absurd hz List.not_mem_nil⟩⟩) rfl (by decide) (lg_6 38 rfl rfl) ⟨3, by decide, Or.inl ⟨3, rfl, rfl, rfl⟩⟩ (s_iconst (v := 3) rfl rfl) (Or.inr (Or.inl ⟨3, rfl, Or.inl rfl, rfl, rfl⟩))⟩
    rw [if_neg k2] at hf
    cases hf
def f_L_load (a0 : Int32) (h : XH) : Option (Int32 × XH) := match f_t_load a0 h with | none => none | some r1 => (match r1.1 with | Sum.inl x => some (0, hsj r1.2 1316 (Int32.toNatClampNeg 0) (if x = 0 then 0 else 1)) | Sum.inr k => (if k = 0 then some (1, r1.2) else (if k = 1 then some (2, r1.2) else none)))
set_option maxRecDepth 20000 in
theorem kf_L_load {l : Launch} {G : XG} {d : Nat} {a0 : Int32} {h : XH} {r : Int32 × XH} (hl : l.stackTraces = false) (L0 : LY h) (hf : f_L_load a0 h = some r) : XCh l G xEL_load hhL_load (d + 203) [.ref 0, .int a0, .ref 1316] h (fun v h2 => (h2 = r.2 ∧ v = some (.int r.1)) ∧ LY r.2) := by
  have pre : XS l G xEL_load (d + 203) (0, xent xEL_load [.ref 0, .int a0, .ref 1316], [], h) (4, xent xEL_load [.ref 0, .int a0, .ref 1316], [.int a0, .ref 0, .int 0, .ref 1316], h) := XS.tr (s_aloadn rfl rfl rfl) (XS.tr (s_iconst (v := 0) rfl rfl) (XS.tr (s_aloadn rfl rfl rfl) (s_iloadn rfl rfl rfl)))
  unfold f_L_load at hf
  rcases e1 : f_t_load a0 h with _ | r1
  · rw [e1] at hf; cases hf
  rw [e1] at hf; dsimp only at hf
  rcases kf_t_load (l := l) (G := G) (d := d) hl L0 e1 with ⟨x, ex, con⟩ | ⟨k, E, ek, eE, conx⟩
  · rw [ex] at hf; dsimp only at hf
    have w : XR l G xEL_load (d + 203) (0, xent xEL_load [.ref 0, .int a0, .ref 1316], [], h) (fun C => ∃ v, xRet xEL_load C v ∧ (C.2.2.2 = r.2 ∧ v = some (.int r.1)) ∧ LY r.2) := by
      refine pre.go ?_
      refine r_callv rfl xvX11_load xm13_43 con (LY.lt L0 (by decide)) (LY.k0 L0) (by decide) rfl rfl (by omega) (by decide) (Nat.le_of_ble_eq_true rfl) ?_
      rintro _ _ ⟨⟨rfl, rfl⟩, L1⟩
      refine r_if_eq (tgt := 14) rfl rfl (fun qz => ?_) (fun qz => ?_)
      · rw [if_pos qz] at hf
        refine XS.go (s_lconst (v := 0) rfl rfl) ?_
        refine XS.go (s_last rfl (LY.lt L1 (by decide)) (LY.k1316 L1) (inN (k := 0) (LY.n1316 L1) rfl (by decide) (by decide))) ?_
        refine XS.go (s_goto (tgt := 25) rfl rfl) ?_
        refine XS.go (s_iconst (v := 0) rfl rfl) ?_
        cases hf
        exact XR.reti rfl rfl (fun hret => ⟨_, hret, ⟨rfl, rfl⟩, (by simp only [LY_sj]; exact L1)⟩)
      · rw [if_neg qz] at hf
        refine XS.go (s_lconst (v := 1) rfl rfl) ?_
        refine XS.go (s_goto (tgt := 15) rfl rfl) ?_
        refine XS.go (s_last rfl (LY.lt L1 (by decide)) (LY.k1316 L1) (inN (k := 0) (LY.n1316 L1) rfl (by decide) (by decide))) ?_
        refine XS.go (s_goto (tgt := 25) rfl rfl) ?_
        refine XS.go (s_iconst (v := 0) rfl rfl) ?_
        cases hf
        exact XR.reti rfl rfl (fun hret => ⟨_, hret, ⟨rfl, rfl⟩, (by simp only [LY_sj]; exact L1)⟩)
    obtain ⟨C, ⟨v, h1, h2⟩, h3⟩ := w
    exact ⟨v, C.2.2.2, h2, XMh.of xgL_load (by decide +kernel) rfl (Nat.le_of_ble_eq_true rfl) h3 h1⟩
  · rw [ek] at hf; dsimp only at hf
    obtain ⟨h2, ⟨rfl, L9⟩, hM⟩ := conx
    by_cases k0 : k = 0
    · rw [if_pos k0] at hf
      subst k0
      have eE2 : E = "java/lang/IllegalArgumentException" := (Option.some.inj eE).symm
      subst eE2
      cases hf
      exact ⟨some (.int 1), r1.2, ⟨⟨rfl, rfl⟩, L9⟩, XMh.caught (C := (21, [], [.int 1], r1.2)) xgL_load (by decide +kernel) rfl (Nat.le_of_ble_eq_true rfl) pre rfl xvX11_load xm13_43 hM (LY.lt L0 (by decide)) (LY.k0 L0) (by decide) rfl rfl (by omega) (by decide) (Nat.le_of_ble_eq_true rfl) [] [(0, 16, 22, 18)] (0, 16, 19, 13) rfl (List.mem_of_getElem? (i := 0) rfl) (fun _ hz => absurd hz List.not_mem_nil) rfl (by decide) (lg_4 56 rfl rfl) ⟨3, by decide, Or.inl ⟨3, rfl, rfl, rfl⟩⟩ (s_iconst (v := 1) rfl rfl) (Or.inr (Or.inl ⟨1, rfl, Or.inl rfl, rfl, rfl⟩))⟩
    rw [if_neg k0] at hf
    by_cases k1 : k = 1
    · rw [if_pos k1] at hf
      subst k1
      have eE2 : E = "java/lang/IllegalStateException" := (Option.some.inj eE).symm
      subst eE2
      cases hf
      exact ⟨some (.int 2), r1.2, ⟨⟨rfl, rfl⟩, L9⟩, XMh.caught (C := (24, [], [.int 2], r1.2)) xgL_load (by decide +kernel) rfl (Nat.le_of_ble_eq_true rfl) pre rfl xvX11_load xm13_43 hM (LY.lt L0 (by decide)) (LY.k0 L0) (by decide) rfl rfl (by omega) (by decide) (Nat.le_of_ble_eq_true rfl) [(0, 16, 19, 13)] [] (0, 16, 22, 18) rfl (List.mem_of_getElem? (i := 1) rfl) (List.forall_mem_cons.mpr ⟨⟨by decide, "java/lang/IllegalArgumentException", (lg_4 56 rfl rfl), List.mem_of_getElem? (i := 0) rfl, by decide⟩, fun _ hz => absurd hz List.not_mem_nil⟩) rfl (by decide) (lg_6 37 rfl rfl) ⟨3, by decide, Or.inl ⟨3, rfl, rfl, rfl⟩⟩ (s_iconst (v := 2) rfl rfl) (Or.inr (Or.inl ⟨2, rfl, Or.inl rfl, rfl, rfl⟩))⟩
    rw [if_neg k1] at hf
    cases hf
def f_L_read (a0 : Int32) (h : XH) : Option (Int32 × XH) := match f_t_read a0 h with | none => none | some r1 => (match r1.1 with | Sum.inl x => some (0, hsj r1.2 1316 (Int32.toNatClampNeg 0) x) | Sum.inr k => (if k = 3 then some (1, r1.2) else none))
set_option maxRecDepth 20000 in
theorem kf_L_read {l : Launch} {G : XG} {d : Nat} {a0 : Int32} {h : XH} {r : Int32 × XH} (hl : l.stackTraces = false) (L0 : LY h) (hf : f_L_read a0 h = some r) : XCh l G xEL_read hhL_read (d + 7) [.ref 0, .int a0, .ref 1316] h (fun v h2 => (h2 = r.2 ∧ v = some (.int r.1)) ∧ LY r.2) := by
  have pre : XS l G xEL_read (d + 7) (0, xent xEL_read [.ref 0, .int a0, .ref 1316], [], h) (4, xent xEL_read [.ref 0, .int a0, .ref 1316], [.int a0, .ref 0, .int 0, .ref 1316], h) := XS.tr (s_aloadn rfl rfl rfl) (XS.tr (s_iconst (v := 0) rfl rfl) (XS.tr (s_aloadn rfl rfl rfl) (s_iloadn rfl rfl rfl)))
  unfold f_L_read at hf
  rcases e1 : f_t_read a0 h with _ | r1
  · rw [e1] at hf; cases hf
  rw [e1] at hf; dsimp only at hf
  rcases kf_t_read (l := l) (G := G) (d := d) hl L0 e1 with ⟨x, ex, con⟩ | ⟨k, E, ek, eE, conx⟩
  · rw [ex] at hf; dsimp only at hf
    have w : XR l G xEL_read (d + 7) (0, xent xEL_read [.ref 0, .int a0, .ref 1316], [], h) (fun C => ∃ v, xRet xEL_read C v ∧ (C.2.2.2 = r.2 ∧ v = some (.int r.1)) ∧ LY r.2) := by
      refine pre.go ?_
      refine r_callv rfl xvX11_read xm13_46 con (LY.lt L0 (by decide)) (LY.k0 L0) (by decide) rfl rfl (by omega) (by decide) (Nat.le_of_ble_eq_true rfl) ?_
      rintro _ _ ⟨⟨rfl, rfl⟩, L1⟩
      refine XS.go (s_last rfl (LY.lt L1 (by decide)) (LY.k1316 L1) (inN (k := 0) (LY.n1316 L1) rfl (by decide) (by decide))) ?_
      refine XS.go (s_goto (tgt := 14) rfl rfl) ?_
      refine XS.go (s_iconst (v := 0) rfl rfl) ?_
      cases hf
      exact XR.reti rfl rfl (fun hret => ⟨_, hret, ⟨rfl, rfl⟩, (by simp only [LY_sj]; exact L1)⟩)
    obtain ⟨C, ⟨v, h1, h2⟩, h3⟩ := w
    exact ⟨v, C.2.2.2, h2, XMh.of xgL_read (by decide +kernel) rfl (Nat.le_of_ble_eq_true rfl) h3 h1⟩
  · rw [ek] at hf; dsimp only at hf
    obtain ⟨h2, ⟨rfl, L9⟩, hM⟩ := conx
    by_cases k0 : k = 3
    · rw [if_pos k0] at hf
      subst k0
      have eE2 : E = "java/util/NoSuchElementException" := (Option.some.inj eE).symm
      subst eE2
      cases hf
      exact ⟨some (.int 1), r1.2, ⟨⟨rfl, rfl⟩, L9⟩, XMh.caught (C := (13, [], [.int 1], r1.2)) xgL_read (by decide +kernel) rfl (Nat.le_of_ble_eq_true rfl) pre rfl xvX11_read xm13_46 hM (LY.lt L0 (by decide)) (LY.k0 L0) (by decide) rfl rfl (by omega) (by decide) (Nat.le_of_ble_eq_true rfl) [] [] (0, 8, 11, 30) rfl (List.mem_of_getElem? (i := 3) rfl) (fun _ hz => absurd hz List.not_mem_nil) rfl (by decide) (lg_6 167 rfl rfl) ⟨3, by decide, Or.inl ⟨3, rfl, rfl, rfl⟩⟩ (s_iconst (v := 1) rfl rfl) (Or.inr (Or.inl ⟨1, rfl, Or.inl rfl, rfl, rfl⟩))⟩
    rw [if_neg k0] at hf
    cases hf
