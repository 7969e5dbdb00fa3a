section XHeapC
variable {l : Launch} {G : XG} {q : xEnt} {d pc : Nat} {L : List (Option Value)} {st : List Value} {h : XH}
theorem s_aast104 {a b : Nat} {i : Int32} (hc : xI q pc = some (.aastore, 1)) (ha : a < hz h) (hk0 : hk h a = 104) (hin : vp_in i (hn h a)) (hb0 : b < hz h) (hkb : hk h b = 3) : XS l G q d (pc, L, .ref b :: .int i :: .ref a :: st, h) (pc + 1, L, st, hsr h a i.toNatClampNeg (some b)) := by
  refine ⟨⟨Nat.le_refl _, Nat.le_refl _⟩, fun p e Rm s m args below meth c cx Qf H locs cells slots ls r hl hq _ _ kk => ?_⟩
  obtain ⟨hx, hb, -, -, -, -, -, -, hK, hg, -, -, -, hs⟩ := cx
  obtain ⟨cA, h1, h2, h3⟩ := (r.2.2.1 a ha).2.2.2.2.2.1 hk0
  have hlt : i.toNatClampNeg < hn h a := Nat.not_le.mp fun z => hin (Or.inr z)
  have hn0 : ¬ i < 0 := fun z => hin (Or.inl z)
  have hO := (r.2.2.1 b hb0).1 (by rw [hkb]; decide)
  unfold xO at hO
  rw [hkb] at hO
  obtain ⟨rr, hr1, cellV, g1, g2, g3, -⟩ := hO
  have hcls := (hK.1 3 _ hr1).2
  cases hr1
  obtain ⟨kA, comp, k1, k2, k3, k4⟩ := h3
  have hcomp : comp = (gD G).1 3 := Option.some.inj (k3.symm.trans hcls.1)
  subst hcomp
  obtain ⟨kC, hkC, -⟩ := hcls.2
  refine W.aast hx hb h1 (fun z w => by cases w) (fun w => by cases w) k1 k2 rfl hkC ⟨hn0, by show _ < (arrV _ _ _).slots.size; rw [arrV_size]; exact hlt⟩ g1 (fun z w => by rw [g3] at w; cases w) (by rw [g2]; exact hkC) (by rw [g2]; exact va_assign hcls) rfl rfl (xI_dec hg hc) fun H' e1 e2 e3 => ?_
  have ek : hk (hsr h a i.toNatClampNeg (some b)) a = 104 := hk0
  have w := kk H' (locs ++ [⟨gA G a, i.toNatClampNeg⟩]) ls (r.put hs ha e2 e3 rfl ho_sr ⟨fun z => absurd z (by rw [ek]; decide), fun z => absurd (ek.symm.trans z) (by decide), fun z => absurd (ek.symm.trans z) (by decide), fun z => absurd (ek.symm.trans z) (by decide), fun z => absurd (ek.symm.trans z) (by decide), ?_, fun z => absurd (ek.symm.trans z) (by decide)⟩) hl (fun z hz' => ?_)
  · have e1 : hz (hsr h a i.toNatClampNeg (some b)) = hz h := rfl
    have e2 : hw (hsr h a i.toNatClampNeg (some b)) = hw h := rfl
    simp only [e1, e2, Nat.sub_self, Nat.add_zero] at w
    exact w
  · refine fun _ => ⟨cA, ?_, h2, kA, _, k1, k2, k3, k4⟩
    rw [e1, arrV_store]
    show some (arrV cA (hn h a) _) = some (arrV cA (hn h a) _)
    congr 2
    funext j
    unfold updV
    by_cases ej : j = i.toNatClampNeg
    · rw [if_pos ej, ej]; simp [hr, hsr, x2, va_rf, mv]
    · rw [if_neg ej]; simp [hr, hsr, x2, ej]
  · rcases List.mem_append.mp hz' with h9 | h9
    · exact hq z h9
    · rw [List.mem_singleton.mp h9]
      show gB G ≤ gA G a
      rw [gA_dyn (Nat.lt_of_lt_of_le ha (Nat.le_trans r.2.1 (by omega)))]
      omega
theorem s_aast105 {a b : Nat} {i : Int32} (hc : xI q pc = some (.aastore, 1)) (ha : a < hz h) (hk0 : hk h a = 105) (hin : vp_in i (hn h a)) (hb0 : b < hz h) (hkb : hk h b = 2) : XS l G q d (pc, L, .ref b :: .int i :: .ref a :: st, h) (pc + 1, L, st, hsr h a i.toNatClampNeg (some b)) := by
  refine ⟨⟨Nat.le_refl _, Nat.le_refl _⟩, fun p e Rm s m args below meth c cx Qf H locs cells slots ls r hl hq _ _ kk => ?_⟩
  obtain ⟨hx, hb, -, -, -, -, -, -, hK, hg, -, -, -, hs⟩ := cx
  obtain ⟨cA, h1, h2, h3⟩ := (r.2.2.1 a ha).2.2.2.2.2.2 hk0
  have hlt : i.toNatClampNeg < hn h a := Nat.not_le.mp fun z => hin (Or.inr z)
  have hn0 : ¬ i < 0 := fun z => hin (Or.inl z)
  have hO := (r.2.2.1 b hb0).1 (by rw [hkb]; decide)
  unfold xO at hO
  rw [hkb] at hO
  obtain ⟨rr, hr1, cellV, g1, g2, g3, -⟩ := hO
  have hcls := (hK.1 2 _ hr1).2
  cases hr1
  obtain ⟨kA, comp, k1, k2, k3, k4⟩ := h3
  have hcomp : comp = (gD G).1 2 := Option.some.inj (k3.symm.trans hcls.1)
  subst hcomp
  obtain ⟨kC, hkC, -⟩ := hcls.2
  refine W.aast hx hb h1 (fun z w => by cases w) (fun w => by cases w) k1 k2 rfl hkC ⟨hn0, by show _ < (arrV _ _ _).slots.size; rw [arrV_size]; exact hlt⟩ g1 (fun z w => by rw [g3] at w; cases w) (by rw [g2]; exact hkC) (by rw [g2]; exact va_assign hcls) rfl rfl (xI_dec hg hc) fun H' e1 e2 e3 => ?_
  have ek : hk (hsr h a i.toNatClampNeg (some b)) a = 105 := hk0
  have w := kk H' (locs ++ [⟨gA G a, i.toNatClampNeg⟩]) ls (r.put hs ha e2 e3 rfl ho_sr ⟨fun z => absurd z (by rw [ek]; decide), fun z => absurd (ek.symm.trans z) (by decide), fun z => absurd (ek.symm.trans z) (by decide), fun z => absurd (ek.symm.trans z) (by decide), fun z => absurd (ek.symm.trans z) (by decide), fun z => absurd (ek.symm.trans z) (by decide), ?_⟩) hl (fun z hz' => ?_)
  · have e1 : hz (hsr h a i.toNatClampNeg (some b)) = hz h := rfl
    have e2 : hw (hsr h a i.toNatClampNeg (some b)) = hw h := rfl
    simp only [e1, e2, Nat.sub_self, Nat.add_zero] at w
    exact w
  · refine fun _ => ⟨cA, ?_, h2, kA, _, k1, k2, k3, k4⟩
    rw [e1, arrV_store]
    show some (arrV cA (hn h a) _) = some (arrV cA (hn h a) _)
    congr 2
    funext j
    unfold updV
    by_cases ej : j = i.toNatClampNeg
    · rw [if_pos ej, ej]; simp [hr, hsr, x2, va_rf, mv]
    · rw [if_neg ej]; simp [hr, hsr, x2, ej]
  · rcases List.mem_append.mp hz' with h9 | h9
    · exact hq z h9
    · rw [List.mem_singleton.mp h9]
      show gB G ≤ gA G a
      rw [gA_dyn (Nat.lt_of_lt_of_le ha (Nat.le_trans r.2.1 (by omega)))]
      omega
theorem s_alen {a : Nat} (hc : xI q pc = some (.arraylength, 1)) (ha : a < hz h) (hk0 : 100 ≤ hk h a ∧ hk h a ≤ 105) : XS l G q d (pc, L, .ref a :: st, h) (pc + 1, L, .int (nI (hn h a)) :: st, h) := by
  refine ⟨⟨Nat.le_refl _, Nat.le_refl _⟩, fun p e Rm s m args below meth c cx Qf H locs cells slots ls r hl hq _ _ kk => ?_⟩
  obtain ⟨hx, hb, -, -, -, -, -, -, -, hg, -⟩ := cx
  have w := kk H locs ls r hl hq
  simp only [Nat.sub_self, Nat.add_zero] at w
  have go : ∀ (cA : ClassId) (f : Nat → Value) (ty : FieldType), H[gA G a]? = some (arrV cA (hn h a) f) → ArrOfT s cA ty → W p l e Rm s m args below meth c H locs cells slots Qf (F0 m pc ls ((.ref a :: st).map (mv G))) := fun cA f ty h1 h2 =>
    W.alen (n := nI (hn h a)) hx hb h1 (h2 _ _) (by show (arrV _ _ _).slots.size.toInt32 = _; rw [arrV_size]; rfl) rfl rfl (xI_dec hg hc) w
  have hcase : hk h a = 100 ∨ hk h a = 101 ∨ hk h a = 102 ∨ hk h a = 103 ∨ hk h a = 104 ∨ hk h a = 105 := by omega
  have C := r.2.2.1 a ha
  rcases hcase with z | z | z | z | z | z
  · obtain ⟨cA, h1, h2⟩ := C.2.1 z; exact go _ _ _ h1 h2
  · obtain ⟨cA, h1, h2⟩ := C.2.2.1 z; exact go _ _ _ h1 h2
  · obtain ⟨cA, h1, h2⟩ := C.2.2.2.1 z; exact go _ _ _ h1 h2
  · obtain ⟨cA, h1, h2⟩ := C.2.2.2.2.1 z; exact go _ _ _ h1 h2
  · obtain ⟨cA, h1, h2, -⟩ := C.2.2.2.2.2.1 z; exact go _ _ _ h1 h2
  · obtain ⟨cA, h1, h2, -⟩ := C.2.2.2.2.2.2 z; exact go _ _ _ h1 h2
theorem xft_ne9 {ci k : Nat} : xft ci k ≠ 9 := by
  intro e
  by_cases hci : ci < 13
  · by_cases hkk : k < 88
    · exact (show ∀ ci, ci < 13 → ∀ k, k < 88 → xft ci k ≠ 9 by decide +kernel) ci hci k hkk e
    · have : (xftL.getD ci []).getD k 0 = 0 := by
        have hlen : (xftL.getD ci []).length ≤ k := Nat.le_trans ((show ∀ ci, ci < 13 → (xftL.getD ci []).length ≤ 88 by decide +kernel) ci hci) (by omega)
        rw [List.getD_eq_getElem?_getD, List.getElem?_eq_none hlen]; rfl
      rw [xft, this] at e
      cases e
  · have hlen : xftL.length ≤ ci := Nat.le_trans (show xftL.length ≤ 13 by decide +kernel) (by omega)
    have : xftL.getD ci [] = [] := by simp [List.getD_eq_getElem?_getD, List.getElem?_eq_none hlen]
    rw [xft, this] at e
    cases e
theorem hnew_k {kind n : Nat} : hk (hnew h kind n) (hz h) = kind := by simp [hk, hnew, x1, hz]
theorem hnew_n {kind n : Nat} : hn (hnew h kind n) (hz h) = n := by simp [hn, hnew, x1, hz]
theorem hnew_i {kind n j : Nat} : hi (hnew h kind n) (hz h) j = 0 := by simp [hi, hnew, x1, hz]
theorem hnew_j {kind n j : Nat} : hj (hnew h kind n) (hz h) j = 0 := by simp [hj, hnew, x1, hz]
theorem hnew_r {kind n j : Nat} : hr (hnew h kind n) (hz h) j = none := by simp [hr, hnew, x1, hz]
theorem hnew_z {kind n : Nat} : hz (hnew h kind n) = hz h + 1 := rfl
theorem hnew_w {kind n : Nat} : hw (hnew h kind n) = hw h + n := rfl
theorem gA_new {H : Heap} {U : State} (r : XRel G h H U) : gA G (hz h) = H.size := by
  rw [gA_dyn (Nat.lt_of_le_of_lt r.2.1 (by omega)), r.1]
/-- a new object -/
theorem s_new {idx ci N : Nat} (hc : xI q pc = some (.new idx, 3)) (hl0 : Cond.classLink (xCls q.1) idx (xCls ci) ∈ lw_g) (h13 : ci < 13) (hN : xNf ci = N) (hm : hz h < 1000000) : XS l G q d (pc, L, st, h) (pc + 3, L, .ref (hz h) :: st, hnew h ci N) := by
  refine ⟨⟨Nat.le_succ _, Nat.le_add_right _ _⟩, fun p e Rm s m args below meth c cx Qf H locs cells slots ls r hl hq hcl hsl kk => ?_⟩
  obtain ⟨hx, hb, -, -, -, -, hown, hts, hK, hg, -, -, -, hs⟩ := cx
  obtain ⟨rr, h1⟩ := xcl_at h13
  obtain ⟨hin, ⟨ty, hty, htc⟩, -, hins, hini, -, hcn, -, hNN, -⟩ := xcl h1
  have hKn := hK.1 ci _ h1
  simp only [hnew_z, hnew_w] at hcl hsl kk
  rw [← hN, ← hNN] at kk hsl
  have e1 : cells + (hz h + 1 - hz h) = cells + 1 := by omega
  have e2 : slots + (hw h + rr.2.2 - hw h) = slots + rr.2.2 := by omega
  rw [e1] at hcl
  rw [e2] at hsl
  rw [e1, e2] at kk
  refine W.newcK (h := H.size) hx hb hown (hts _ (by rw [hcn]; exact hl0)) (hts _ hins) (hts _ hini) rfl (xI_dec hg hc) hcl hsl hKn.2.1 rfl fun H' kC hkC g1 g2 g3 => ?_
  have ek : hk (hnew h ci rr.2.2) (hz h) = ci := hnew_k
  have hob := u_born ty hts hin hKn hkC g1 hty
  have w := kk H' locs ls (r.push hs hm g2 g3 rfl ho_new ⟨fun _ => ?_, fun z => ?_, fun z => ?_, fun z => ?_, fun z => ?_, fun z => ?_, fun z => ?_⟩) hl hq
  · have e3 : (Value.ref (hz h) :: st).map (mv G) = .ref H.size :: st.map (mv G) := by simp [mv, gA_new r]
    rw [e3] at w
    exact w
  · unfold xO
    rw [ek, gA_new r]
    refine ⟨rr, h1, hob.to fun k hkN => ?_⟩
    unfold fv
    rw [ek, hnew_i, hnew_j, hnew_r, ← htc k hkN]
    have hp := hty k hkN
    have ht9 := htc k hkN
    revert ht9
    generalize ty k = t9
    intro ht9
    cases t9 <;> first | rfl | (exfalso; simp only [xtc] at ht9; exact xft_ne9 ht9.symm)
  all_goals (rw [ek] at z; omega)
theorem s_newi {n : Int32} {N : Nat} (hc : xI q pc = some (.newarray .int, 2)) (hn0 : ¬ n < 0) (hN : n.toNatClampNeg = N) (hb5 : N ≤ 100000) (hm : hz h < 1000000) : XS l G q d (pc, L, .int n :: st, h) (pc + 2, L, .ref (hz h) :: st, hnew h 100 N) := by
  refine ⟨⟨Nat.le_succ _, Nat.le_add_right _ _⟩, fun p e Rm s m args below meth c cx Qf H locs cells slots ls r hl hq hcl hsl kk => ?_⟩
  obtain ⟨hx, hb, -, -, -, -, hown, hts, hK, hg, -, -, -, hs⟩ := cx
  simp only [hnew_z, hnew_w] at hcl hsl kk
  have e1 : cells + (hz h + 1 - hz h) = cells + 1 := by omega
  have e2 : slots + (hw h + N - hw h) = slots + N := by omega
  rw [e1] at hcl
  rw [e2] at hsl
  rw [e1, e2] at kk
  refine W.newaK (atype := .int) (h := H.size) (N := N) hx hb (hts _ (show Cond.arrayClass .int ∈ lw_g from lg_1 93 rfl rfl)) rfl (xI_dec hg hc) rfl hn0 hN (by show N * componentBytes .int ≤ _; simp only [componentBytes]; omega) hcl hsl rfl fun H' cA g1 g2 g3 g4 => ?_
  have ek : hk (hnew h 100 N) (hz h) = 100 := hnew_k
  have w := kk H' locs ls (r.push hs hm g2 g3 rfl ho_new ⟨fun z => absurd z (by rw [ek]; decide), ?_, fun z => absurd (ek.symm.trans z) (by decide), fun z => absurd (ek.symm.trans z) (by decide), fun z => absurd (ek.symm.trans z) (by decide), fun z => absurd (ek.symm.trans z) (by decide), fun z => absurd (ek.symm.trans z) (by decide)⟩) hl hq
  · have e3 : (Value.ref (hz h) :: st).map (mv G) = .ref H.size :: st.map (mv G) := by simp [mv, gA_new r]
    rw [e3] at w
    exact w
  · refine fun _ => ⟨cA, ?_, g4⟩
    rw [gA_new r, g1, hnew_n]
    simp only [hnew_i]
    rfl
theorem s_newj {n : Int32} {N : Nat} (hc : xI q pc = some (.newarray .long, 2)) (hn0 : ¬ n < 0) (hN : n.toNatClampNeg = N) (hb5 : N ≤ 100000) (hm : hz h < 1000000) : XS l G q d (pc, L, .int n :: st, h) (pc + 2, L, .ref (hz h) :: st, hnew h 101 N) := by
  refine ⟨⟨Nat.le_succ _, Nat.le_add_right _ _⟩, fun p e Rm s m args below meth c cx Qf H locs cells slots ls r hl hq hcl hsl kk => ?_⟩
  obtain ⟨hx, hb, -, -, -, -, hown, hts, hK, hg, -, -, -, hs⟩ := cx
  simp only [hnew_z, hnew_w] at hcl hsl kk
  have e1 : cells + (hz h + 1 - hz h) = cells + 1 := by omega
  have e2 : slots + (hw h + N - hw h) = slots + N := by omega
  rw [e1] at hcl
  rw [e2] at hsl
  rw [e1, e2] at kk
  refine W.newaK (atype := .long) (h := H.size) (N := N) hx hb (hts _ (show Cond.arrayClass .long ∈ lw_g from lg_1 67 rfl rfl)) rfl (xI_dec hg hc) rfl hn0 hN (by show N * componentBytes .long ≤ _; simp only [componentBytes]; omega) hcl hsl rfl fun H' cA g1 g2 g3 g4 => ?_
  have ek : hk (hnew h 101 N) (hz h) = 101 := hnew_k
  have w := kk H' locs ls (r.push hs hm g2 g3 rfl ho_new ⟨fun z => absurd z (by rw [ek]; decide), fun z => absurd (ek.symm.trans z) (by decide), ?_, fun z => absurd (ek.symm.trans z) (by decide), fun z => absurd (ek.symm.trans z) (by decide), fun z => absurd (ek.symm.trans z) (by decide), fun z => absurd (ek.symm.trans z) (by decide)⟩) hl hq
  · have e3 : (Value.ref (hz h) :: st).map (mv G) = .ref H.size :: st.map (mv G) := by simp [mv, gA_new r]
    rw [e3] at w
    exact w
  · refine fun _ => ⟨cA, ?_, g4⟩
    rw [gA_new r, g1, hnew_n]
    simp only [hnew_j]
    rfl
theorem s_newb {n : Int32} {N : Nat} (hc : xI q pc = some (.newarray .byte, 2)) (hn0 : ¬ n < 0) (hN : n.toNatClampNeg = N) (hb5 : N ≤ 100000) (hm : hz h < 1000000) : XS l G q d (pc, L, .int n :: st, h) (pc + 2, L, .ref (hz h) :: st, hnew h 102 N) := by
  refine ⟨⟨Nat.le_succ _, Nat.le_add_right _ _⟩, fun p e Rm s m args below meth c cx Qf H locs cells slots ls r hl hq hcl hsl kk => ?_⟩
  obtain ⟨hx, hb, -, -, -, -, hown, hts, hK, hg, -, -, -, hs⟩ := cx
  simp only [hnew_z, hnew_w] at hcl hsl kk
  have e1 : cells + (hz h + 1 - hz h) = cells + 1 := by omega
  have e2 : slots + (hw h + N - hw h) = slots + N := by omega
  rw [e1] at hcl
  rw [e2] at hsl
  rw [e1, e2] at kk
  refine W.newaK (atype := .byte) (h := H.size) (N := N) hx hb (hts _ (show Cond.arrayClass .byte ∈ lw_g from lg_1 52 rfl rfl)) rfl (xI_dec hg hc) rfl hn0 hN (by show N * componentBytes .byte ≤ _; simp only [componentBytes]; omega) hcl hsl rfl fun H' cA g1 g2 g3 g4 => ?_
  have ek : hk (hnew h 102 N) (hz h) = 102 := hnew_k
  have w := kk H' locs ls (r.push hs hm g2 g3 rfl ho_new ⟨fun z => absurd z (by rw [ek]; decide), fun z => absurd (ek.symm.trans z) (by decide), fun z => absurd (ek.symm.trans z) (by decide), ?_, fun z => absurd (ek.symm.trans z) (by decide), fun z => absurd (ek.symm.trans z) (by decide), fun z => absurd (ek.symm.trans z) (by decide)⟩) hl hq
  · have e3 : (Value.ref (hz h) :: st).map (mv G) = .ref H.size :: st.map (mv G) := by simp [mv, gA_new r]
    rw [e3] at w
    exact w
  · refine fun _ => ⟨cA, ?_, g4⟩
    rw [gA_new r, g1, hnew_n]
    simp only [hnew_i]
    rfl
theorem s_newz {n : Int32} {N : Nat} (hc : xI q pc = some (.newarray .boolean, 2)) (hn0 : ¬ n < 0) (hN : n.toNatClampNeg = N) (hb5 : N ≤ 100000) (hm : hz h < 1000000) : XS l G q d (pc, L, .int n :: st, h) (pc + 2, L, .ref (hz h) :: st, hnew h 103 N) := by
  refine ⟨⟨Nat.le_succ _, Nat.le_add_right _ _⟩, fun p e Rm s m args below meth c cx Qf H locs cells slots ls r hl hq hcl hsl kk => ?_⟩
  obtain ⟨hx, hb, -, -, -, -, hown, hts, hK, hg, -, -, -, hs⟩ := cx
  simp only [hnew_z, hnew_w] at hcl hsl kk
  have e1 : cells + (hz h + 1 - hz h) = cells + 1 := by omega
  have e2 : slots + (hw h + N - hw h) = slots + N := by omega
  rw [e1] at hcl
  rw [e2] at hsl
  rw [e1, e2] at kk
  refine W.newaK (atype := .boolean) (h := H.size) (N := N) hx hb (hts _ (show Cond.arrayClass .boolean ∈ lw_g from lg_2 102 rfl rfl)) rfl (xI_dec hg hc) rfl hn0 hN (by show N * componentBytes .boolean ≤ _; simp only [componentBytes]; omega) hcl hsl rfl fun H' cA g1 g2 g3 g4 => ?_
  have ek : hk (hnew h 103 N) (hz h) = 103 := hnew_k
  have w := kk H' locs ls (r.push hs hm g2 g3 rfl ho_new ⟨fun z => absurd z (by rw [ek]; decide), fun z => absurd (ek.symm.trans z) (by decide), fun z => absurd (ek.symm.trans z) (by decide), fun z => absurd (ek.symm.trans z) (by decide), ?_, fun z => absurd (ek.symm.trans z) (by decide), fun z => absurd (ek.symm.trans z) (by decide)⟩) hl hq
  · have e3 : (Value.ref (hz h) :: st).map (mv G) = .ref H.size :: st.map (mv G) := by simp [mv, gA_new r]
    rw [e3] at w
    exact w
  · refine fun _ => ⟨cA, ?_, g4⟩
    rw [gA_new r, g1, hnew_n]
    simp only [hnew_i]
    rfl
theorem s_newf {n : Int32} {N idx : Nat} (hc : xI q pc = some (.anewarray idx, 3)) (hl0 : Cond.classLink (xCls q.1) idx RX3 ∈ lw_g) (hn0 : ¬ n < 0) (hN : n.toNatClampNeg = N) (hb5 : N ≤ 100000) (hm : hz h < 1000000) : XS l G q d (pc, L, .int n :: st, h) (pc + 3, L, .ref (hz h) :: st, hnew h 104 N) := by
  refine ⟨⟨Nat.le_succ _, Nat.le_add_right _ _⟩, fun p e Rm s m args below meth c cx Qf H locs cells slots ls r hl hq hcl hsl kk => ?_⟩
  obtain ⟨hx, hb, -, -, -, -, hown, hts, hK, hg, -, -, hE, hs⟩ := cx
  simp only [hnew_z, hnew_w] at hcl hsl kk
  have e1 : cells + (hz h + 1 - hz h) = cells + 1 := by omega
  have e2 : slots + (hw h + N - hw h) = slots + N := by omega
  rw [e1] at hcl
  rw [e2] at hsl
  rw [e1, e2] at kk
  subst hN
  refine W.anew hx hb hown (hts _ hl0) (va_AO.use hE.1.1) rfl (xI_dec hg hc) rfl hn0 (by omega) hcl hsl fun cA kA comp f1 f2 f3 f4 => ?_
  generalize hH1 : H.push ({ cls := cA, slots := Array.replicate n.toNatClampNeg .null, vm := .none } : Cell) = H1
  have z1 : H1.size = H.size + 1 := by rw [← hH1, Array.size_push]
  have g1 : H1[H.size]? = some (arrV cA n.toNatClampNeg (fun _ => .null)) := by rw [← hH1, Array.getElem?_push_size, ← arrV_new]
  have o1 : ∀ z : Nat, z < H.size → H1[z]? = H[z]? := fun z hz' => by rw [← hH1, Array.getElem?_push, if_neg (Nat.ne_of_lt hz')]
  have hAr : ArrOfT s cA (.object RX3) := fun N z => ⟨(fun k h => by cases h), kA, f2, comp, f3⟩
  have ek : hk (hnew h 104 n.toNatClampNeg) (hz h) = 104 := hnew_k
  have w := kk H1 locs ls (r.push hs hm z1 o1 rfl ho_new ⟨fun z => absurd z (by rw [ek]; decide), fun z => absurd (ek.symm.trans z) (by decide), fun z => absurd (ek.symm.trans z) (by decide), fun z => absurd (ek.symm.trans z) (by decide), fun z => absurd (ek.symm.trans z) (by decide), ?_, fun z => absurd (ek.symm.trans z) (by decide)⟩) hl hq
  · have e3 : (Value.ref (hz h) :: st).map (mv G) = .ref H.size :: st.map (mv G) := by simp [mv, gA_new r]
    rw [e3] at w
    exact w
  · refine fun _ => ⟨cA, ?_, hAr, kA, comp, f2, f3, f4, f1⟩
    rw [gA_new r, g1, hnew_n]
    simp only [hnew_r]
    rfl
theorem s_newd {n : Int32} {N idx : Nat} (hc : xI q pc = some (.anewarray idx, 3)) (hl0 : Cond.classLink (xCls q.1) idx RX2 ∈ lw_g) (hn0 : ¬ n < 0) (hN : n.toNatClampNeg = N) (hb5 : N ≤ 100000) (hm : hz h < 1000000) : XS l G q d (pc, L, .int n :: st, h) (pc + 3, L, .ref (hz h) :: st, hnew h 105 N) := by
  refine ⟨⟨Nat.le_succ _, Nat.le_add_right _ _⟩, fun p e Rm s m args below meth c cx Qf H locs cells slots ls r hl hq hcl hsl kk => ?_⟩
  obtain ⟨hx, hb, -, -, -, -, hown, hts, hK, hg, -, -, hE, hs⟩ := cx
  simp only [hnew_z, hnew_w] at hcl hsl kk
  have e1 : cells + (hz h + 1 - hz h) = cells + 1 := by omega
  have e2 : slots + (hw h + N - hw h) = slots + N := by omega
  rw [e1] at hcl
  rw [e2] at hsl
  rw [e1, e2] at kk
  subst hN
  refine W.anew hx hb hown (hts _ hl0) (va_AO.use hE.1.2) rfl (xI_dec hg hc) rfl hn0 (by omega) hcl hsl fun cA kA comp f1 f2 f3 f4 => ?_
  generalize hH1 : H.push ({ cls := cA, slots := Array.replicate n.toNatClampNeg .null, vm := .none } : Cell) = H1
  have z1 : H1.size = H.size + 1 := by rw [← hH1, Array.size_push]
  have g1 : H1[H.size]? = some (arrV cA n.toNatClampNeg (fun _ => .null)) := by rw [← hH1, Array.getElem?_push_size, ← arrV_new]
  have o1 : ∀ z : Nat, z < H.size → H1[z]? = H[z]? := fun z hz' => by rw [← hH1, Array.getElem?_push, if_neg (Nat.ne_of_lt hz')]
  have hAr : ArrOfT s cA (.object RX2) := fun N z => ⟨(fun k h => by cases h), kA, f2, comp, f3⟩
  have ek : hk (hnew h 105 n.toNatClampNeg) (hz h) = 105 := hnew_k
  have w := kk H1 locs ls (r.push hs hm z1 o1 rfl ho_new ⟨fun z => absurd z (by rw [ek]; decide), fun z => absurd (ek.symm.trans z) (by decide), fun z => absurd (ek.symm.trans z) (by decide), fun z => absurd (ek.symm.trans z) (by decide), fun z => absurd (ek.symm.trans z) (by decide), fun z => absurd (ek.symm.trans z) (by decide), ?_⟩) hl hq
  · have e3 : (Value.ref (hz h) :: st).map (mv G) = .ref H.size :: st.map (mv G) := by simp [mv, gA_new r]
    rw [e3] at w
    exact w
  · refine fun _ => ⟨cA, ?_, hAr, kA, comp, f2, f3, f4, f1⟩
    rw [gA_new r, g1, hnew_n]
    simp only [hnew_r]
    rfl
end XHeapC
