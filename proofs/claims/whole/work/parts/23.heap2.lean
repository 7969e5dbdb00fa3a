section XHeapB
variable {l : Launch} {G : XG} {q : xEnt} {d pc : Nat} {L : List (Option Value)} {st : List Value} {h : XH}
theorem xtc0 {ty : FieldType} (h : xtc ty = 0) : ty = .int := by cases ty <;> simp_all [xtc]
theorem xtc1 {ty : FieldType} (h : xtc ty = 1) : ty = .long := by cases ty <;> simp_all [xtc]
theorem xtc3 {ty : FieldType} (h : xtc ty = 3) : ty = .boolean := by cases ty <;> simp_all [xtc]
theorem xtc2 {ty : FieldType} (h : xtc ty = 2) : (∃ C, ty = .object C) ∨ ∃ t, ty = .array t := by cases ty <;> simp_all [xtc]
theorem s_puti {a idx ci k : Nat} {x : Int32} (hc : xI q pc = some (.putfield idx, 3)) (hf : xLf (xCls q.1) idx ci k) (ha : a < hz h) (hk0 : hk h a = ci) (h13 : ci < 13) (ht : xft ci k = 0) (hfin : (xTy ci k).2.2.2 = false ∨ ((xTy ci k).1 = xCls q.1 ∧ q.2.1.name = "<init>")) : XS l G q d (pc, L, .int x :: .ref a :: st, h) (pc + 3, L, st, hsi h a k x) := by
  refine s_put hc hf ha hk0 h13 hfin (fun ty e => ?_) rfl rfl ho_si hk0 ?_ fun j hjk _ => ?_
  · rw [ht] at e
    rw [xtc0 e]; exact ⟨rfl, rfl⟩
  · unfold fv
    rw [show hk (hsi h a k x) a = ci from hk0, ht]
    simp [hi, hj, hr, hsi, hsj, hsr, x2, va_rf]
  · unfold fv
    rw [show hk (hsi h a k x) a = ci from hk0, hk0]
    simp [hi, hj, hr, hsi, hsj, hsr, x2, hjk]
theorem s_putz {a idx ci k : Nat} {x : Int32} (hc : xI q pc = some (.putfield idx, 3)) (hf : xLf (xCls q.1) idx ci k) (ha : a < hz h) (hk0 : hk h a = ci) (h13 : ci < 13) (ht : xft ci k = 3) (hfin : (xTy ci k).2.2.2 = false ∨ ((xTy ci k).1 = xCls q.1 ∧ q.2.1.name = "<init>")) (hx : x = 0 ∨ x = 1) : XS l G q d (pc, L, .int x :: .ref a :: st, h) (pc + 3, L, st, hsi h a k x) := by
  refine s_put hc hf ha hk0 h13 hfin (fun ty e => ?_) rfl rfl ho_si hk0 ?_ fun j hjk _ => ?_
  · rw [ht] at e
    rw [xtc3 e]; rcases hx with rfl | rfl <;> exact ⟨rfl, rfl⟩
  · unfold fv
    rw [show hk (hsi h a k x) a = ci from hk0, ht]
    simp [hi, hj, hr, hsi, hsj, hsr, x2, va_rf]
  · unfold fv
    rw [show hk (hsi h a k x) a = ci from hk0, hk0]
    simp [hi, hj, hr, hsi, hsj, hsr, x2, hjk]
theorem s_putj {a idx ci k : Nat} {x : Int64} (hc : xI q pc = some (.putfield idx, 3)) (hf : xLf (xCls q.1) idx ci k) (ha : a < hz h) (hk0 : hk h a = ci) (h13 : ci < 13) (ht : xft ci k = 1) (hfin : (xTy ci k).2.2.2 = false ∨ ((xTy ci k).1 = xCls q.1 ∧ q.2.1.name = "<init>")) : XS l G q d (pc, L, .long x :: .ref a :: st, h) (pc + 3, L, st, hsj h a k x) := by
  refine s_put hc hf ha hk0 h13 hfin (fun ty e => ?_) rfl rfl ho_sj hk0 ?_ fun j hjk _ => ?_
  · rw [ht] at e
    rw [xtc1 e]; exact ⟨rfl, rfl⟩
  · unfold fv
    rw [show hk (hsj h a k x) a = ci from hk0, ht]
    simp [hi, hj, hr, hsi, hsj, hsr, x2, va_rf]
  · unfold fv
    rw [show hk (hsj h a k x) a = ci from hk0, hk0]
    simp [hi, hj, hr, hsi, hsj, hsr, x2, hjk]
theorem s_putr {a idx ci k : Nat} {b : Nat} (hc : xI q pc = some (.putfield idx, 3)) (hf : xLf (xCls q.1) idx ci k) (ha : a < hz h) (hk0 : hk h a = ci) (h13 : ci < 13) (ht : xft ci k = 2) (hfin : (xTy ci k).2.2.2 = false ∨ ((xTy ci k).1 = xCls q.1 ∧ q.2.1.name = "<init>")) : XS l G q d (pc, L, .ref b :: .ref a :: st, h) (pc + 3, L, st, hsr h a k (some b)) := by
  refine s_put hc hf ha hk0 h13 hfin (fun ty e => ?_) rfl rfl ho_sr hk0 ?_ fun j hjk _ => ?_
  · rw [ht] at e
    rcases xtc2 e with ⟨_, rfl⟩ | ⟨_, rfl⟩ <;> exact ⟨rfl, rfl⟩
  · unfold fv
    rw [show hk (hsr h a k (some b)) a = ci from hk0, ht]
    simp [hi, hj, hr, hsi, hsj, hsr, x2, va_rf]
  · unfold fv
    rw [show hk (hsr h a k (some b)) a = ci from hk0, hk0]
    simp [hi, hj, hr, hsi, hsj, hsr, x2, hjk]
theorem s_putn {a idx ci k : Nat}  (hc : xI q pc = some (.putfield idx, 3)) (hf : xLf (xCls q.1) idx ci k) (ha : a < hz h) (hk0 : hk h a = ci) (h13 : ci < 13) (ht : xft ci k = 2) (hfin : (xTy ci k).2.2.2 = false ∨ ((xTy ci k).1 = xCls q.1 ∧ q.2.1.name = "<init>")) : XS l G q d (pc, L, .null :: .ref a :: st, h) (pc + 3, L, st, hsr h a k none) := by
  refine s_put hc hf ha hk0 h13 hfin (fun ty e => ?_) rfl rfl ho_sr hk0 ?_ fun j hjk _ => ?_
  · rw [ht] at e
    rcases xtc2 e with ⟨_, rfl⟩ | ⟨_, rfl⟩ <;> exact ⟨rfl, rfl⟩
  · unfold fv
    rw [show hk (hsr h a k none) a = ci from hk0, ht]
    simp [hi, hj, hr, hsi, hsj, hsr, x2, va_rf]
  · unfold fv
    rw [show hk (hsr h a k none) a = ci from hk0, hk0]
    simp [hi, hj, hr, hsi, hsj, hsr, x2, hjk]
theorem s_iald {a : Nat} {i : Int32} (hc : xI q pc = some (.iaload, 1)) (ha : a < hz h) (hk0 : hk h a = 100) (hin : vp_in i (hn h a)) : XS l G q d (pc, L, .int i :: .ref a :: st, h) (pc + 1, L, .int (hi h a i.toNatClampNeg) :: st, h) := by
  refine ⟨⟨Nat.le_refl _, Nat.le_refl _⟩, fun p e Rm s m args below meth c cx Qf H locs cells slots ls r hl hq _ _ kk => ?_⟩
  obtain ⟨hx, hb, -, -, -, -, -, -, -, hg, -⟩ := cx
  obtain ⟨cA, h1, h2⟩ := (r.2.2.1 a ha).2.1 hk0
  have hlt : i.toNatClampNeg < hn h a := Nat.not_le.mp fun z => hin (Or.inr z)
  have w := kk H locs ls r hl hq
  simp only [Nat.sub_self, Nat.add_zero] at w
  exact W.iald (v := .int (hi h a i.toNatClampNeg)) hx hb h1 (h2 _ _) (fun z => by cases z) (by show ¬ (i < 0 ∨ (arrV _ _ _).slots.size ≤ _); rw [arrV_size]; exact hin) (by show (arrV _ _ _).slots[_]? = _; rw [arrV_read _ _ hlt]) rfl rfl (xI_dec hg hc) w
theorem s_lald {a : Nat} {i : Int32} (hc : xI q pc = some (.laload, 1)) (ha : a < hz h) (hk0 : hk h a = 101) (hin : vp_in i (hn h a)) : XS l G q d (pc, L, .int i :: .ref a :: st, h) (pc + 1, L, .long (hj h a i.toNatClampNeg) :: st, h) := by
  refine ⟨⟨Nat.le_refl _, Nat.le_refl _⟩, fun p e Rm s m args below meth c cx Qf H locs cells slots ls r hl hq _ _ kk => ?_⟩
  obtain ⟨hx, hb, -, -, -, -, -, -, -, hg, -⟩ := cx
  obtain ⟨cA, h1, h2⟩ := (r.2.2.1 a ha).2.2.1 hk0
  have hlt : i.toNatClampNeg < hn h a := Nat.not_le.mp fun z => hin (Or.inr z)
  have w := kk H locs ls r hl hq
  simp only [Nat.sub_self, Nat.add_zero] at w
  exact W.lald (v := .long (hj h a i.toNatClampNeg)) hx hb h1 (h2 _ _) (fun z => by cases z) (by show ¬ (i < 0 ∨ (arrV _ _ _).slots.size ≤ _); rw [arrV_size]; exact hin) (by show (arrV _ _ _).slots[_]? = _; rw [arrV_read _ _ hlt]) rfl rfl (xI_dec hg hc) w
theorem s_bald {a : Nat} {i : Int32} (hc : xI q pc = some (.baload, 1)) (ha : a < hz h) (hk0 : hk h a = 102) (hin : vp_in i (hn h a)) : XS l G q d (pc, L, .int i :: .ref a :: st, h) (pc + 1, L, .int (hi h a i.toNatClampNeg) :: st, h) := by
  refine ⟨⟨Nat.le_refl _, Nat.le_refl _⟩, fun p e Rm s m args below meth c cx Qf H locs cells slots ls r hl hq _ _ kk => ?_⟩
  obtain ⟨hx, hb, -, -, -, -, -, -, -, hg, -⟩ := cx
  obtain ⟨cA, h1, h2⟩ := (r.2.2.1 a ha).2.2.2.1 hk0
  have hlt : i.toNatClampNeg < hn h a := Nat.not_le.mp fun z => hin (Or.inr z)
  have w := kk H locs ls r hl hq
  simp only [Nat.sub_self, Nat.add_zero] at w
  exact W.bald (v := .int (hi h a i.toNatClampNeg)) hx hb h1 (h2 _ _) (fun z => by cases z) (by show ¬ (i < 0 ∨ (arrV _ _ _).slots.size ≤ _); rw [arrV_size]; exact hin) (by show (arrV _ _ _).slots[_]? = _; rw [arrV_read _ _ hlt]) rfl rfl (xI_dec hg hc) w
theorem s_zald {a : Nat} {i : Int32} (hc : xI q pc = some (.baload, 1)) (ha : a < hz h) (hk0 : hk h a = 103) (hin : vp_in i (hn h a)) : XS l G q d (pc, L, .int i :: .ref a :: st, h) (pc + 1, L, .int (hi h a i.toNatClampNeg) :: st, h) := by
  refine ⟨⟨Nat.le_refl _, Nat.le_refl _⟩, fun p e Rm s m args below meth c cx Qf H locs cells slots ls r hl hq _ _ kk => ?_⟩
  obtain ⟨hx, hb, -, -, -, -, -, -, -, hg, -⟩ := cx
  obtain ⟨cA, h1, h2⟩ := (r.2.2.1 a ha).2.2.2.2.1 hk0
  have hlt : i.toNatClampNeg < hn h a := Nat.not_le.mp fun z => hin (Or.inr z)
  have w := kk H locs ls r hl hq
  simp only [Nat.sub_self, Nat.add_zero] at w
  exact W.zald (v := .int (hi h a i.toNatClampNeg)) hx hb h1 (h2 _ _) (fun z => by cases z) (by show ¬ (i < 0 ∨ (arrV _ _ _).slots.size ≤ _); rw [arrV_size]; exact hin) (by show (arrV _ _ _).slots[_]? = _; rw [arrV_read _ _ hlt]) rfl rfl (xI_dec hg hc) w
theorem s_aald104 {a : Nat} {i : Int32} (hc : xI q pc = some (.aaload, 1)) (ha : a < hz h) (hk0 : hk h a = 104) (hin : vp_in i (hn h a)) : XS l G q d (pc, L, .int i :: .ref a :: st, h) (pc + 1, L, va_rf (hr h a i.toNatClampNeg) :: st, h) := by
  refine ⟨⟨Nat.le_refl _, Nat.le_refl _⟩, fun p e Rm s m args below meth c cx Qf H locs cells slots ls r hl hq _ _ kk => ?_⟩
  obtain ⟨hx, hb, -, -, -, -, -, -, -, hg, -⟩ := cx
  obtain ⟨cA, h1, h2, -⟩ := (r.2.2.1 a ha).2.2.2.2.2.1 hk0
  have hlt : i.toNatClampNeg < hn h a := Nat.not_le.mp fun z => hin (Or.inr z)
  have w := kk H locs ls r hl hq
  simp only [Nat.sub_self, Nat.add_zero] at w
  exact W.aald (v := mv G (va_rf (hr h a i.toNatClampNeg))) hx hb h1 (h2 _ _) rfl (fun z => by cases z) (by show ¬ (i < 0 ∨ (arrV _ _ _).slots.size ≤ _); rw [arrV_size]; exact hin) (by show (arrV _ _ _).slots[_]? = _; rw [arrV_read _ _ hlt]) rfl rfl (xI_dec hg hc) w
theorem s_aald105 {a : Nat} {i : Int32} (hc : xI q pc = some (.aaload, 1)) (ha : a < hz h) (hk0 : hk h a = 105) (hin : vp_in i (hn h a)) : XS l G q d (pc, L, .int i :: .ref a :: st, h) (pc + 1, L, va_rf (hr h a i.toNatClampNeg) :: st, h) := by
  refine ⟨⟨Nat.le_refl _, Nat.le_refl _⟩, fun p e Rm s m args below meth c cx Qf H locs cells slots ls r hl hq _ _ kk => ?_⟩
  obtain ⟨hx, hb, -, -, -, -, -, -, -, hg, -⟩ := cx
  obtain ⟨cA, h1, h2, -⟩ := (r.2.2.1 a ha).2.2.2.2.2.2 hk0
  have hlt : i.toNatClampNeg < hn h a := Nat.not_le.mp fun z => hin (Or.inr z)
  have w := kk H locs ls r hl hq
  simp only [Nat.sub_self, Nat.add_zero] at w
  exact W.aald (v := mv G (va_rf (hr h a i.toNatClampNeg))) hx hb h1 (h2 _ _) rfl (fun z => by cases z) (by show ¬ (i < 0 ∨ (arrV _ _ _).slots.size ≤ _); rw [arrV_size]; exact hin) (by show (arrV _ _ _).slots[_]? = _; rw [arrV_read _ _ hlt]) rfl rfl (xI_dec hg hc) w
theorem s_iast {a : Nat} {i : Int32} {x : Int32} (hc : xI q pc = some (.iastore, 1)) (ha : a < hz h) (hk0 : hk h a = 100) (hin : vp_in i (hn h a)) : XS l G q d (pc, L, .int x :: .int i :: .ref a :: st, h) (pc + 1, L, st, hsi h a i.toNatClampNeg x) := by
  refine ⟨⟨Nat.le_refl _, Nat.le_refl _⟩, fun p e Rm s m args below meth c cx Qf H locs cells slots ls r hl hq _ _ kk => ?_⟩
  obtain ⟨hx, hb, -, -, -, -, -, -, -, hg, -, -, -, hs⟩ := cx
  obtain ⟨cA, h1, h2⟩ := (r.2.2.1 a ha).2.1 hk0
  refine W.iast hx hb h1 (h2 _ _) (fun z => by cases z) (by show ¬ (i < 0 ∨ (arrV _ _ _).slots.size ≤ _); rw [arrV_size]; exact hin) rfl rfl (xI_dec hg hc) fun H' e1 e2 e3 => ?_
  have ek : hk (hsi h a i.toNatClampNeg x) a = 100 := hk0
  have w := kk H' (locs ++ [⟨gA G a, i.toNatClampNeg⟩]) ls (r.put hs ha e2 e3 rfl ho_si ⟨fun z => absurd z (by rw [ek]; decide), ?_, fun z => absurd (ek.symm.trans z) (by decide), fun z => absurd (ek.symm.trans z) (by decide), fun z => absurd (ek.symm.trans z) (by decide), fun z => absurd (ek.symm.trans z) (by decide), fun z => absurd (ek.symm.trans z) (by decide)⟩) hl (fun z hz' => ?_)
  · have e1 : hz (hsi h a i.toNatClampNeg x) = hz h := rfl
    have e2 : hw (hsi h a i.toNatClampNeg x) = hw h := rfl
    simp only [e1, e2, Nat.sub_self, Nat.add_zero] at w
    exact w
  · refine fun _ => ⟨cA, ?_, h2⟩
    rw [e1, arrV_store]
    show some (arrV cA (hn h a) _) = some (arrV cA (hn h a) _)
    congr 2
    funext j
    unfold updV
    by_cases ej : j = i.toNatClampNeg
    · rw [if_pos ej, ej]; simp [hi, hj, hsi, hsj, x2, vp_nar, narrow]
    · rw [if_neg ej]; simp [hi, hj, hsi, hsj, x2, ej]
  · rcases List.mem_append.mp hz' with h9 | h9
    · exact hq z h9
    · rw [List.mem_singleton.mp h9]
      show gB G ≤ gA G a
      rw [gA_dyn (Nat.lt_of_lt_of_le ha (Nat.le_trans r.2.1 (by omega)))]
      omega
theorem s_last {a : Nat} {i : Int32} {x : Int64} (hc : xI q pc = some (.lastore, 1)) (ha : a < hz h) (hk0 : hk h a = 101) (hin : vp_in i (hn h a)) : XS l G q d (pc, L, .long x :: .int i :: .ref a :: st, h) (pc + 1, L, st, hsj h a i.toNatClampNeg x) := by
  refine ⟨⟨Nat.le_refl _, Nat.le_refl _⟩, fun p e Rm s m args below meth c cx Qf H locs cells slots ls r hl hq _ _ kk => ?_⟩
  obtain ⟨hx, hb, -, -, -, -, -, -, -, hg, -, -, -, hs⟩ := cx
  obtain ⟨cA, h1, h2⟩ := (r.2.2.1 a ha).2.2.1 hk0
  refine W.last hx hb h1 (h2 _ _) (fun z => by cases z) (by show ¬ (i < 0 ∨ (arrV _ _ _).slots.size ≤ _); rw [arrV_size]; exact hin) rfl rfl (xI_dec hg hc) fun H' e1 e2 e3 => ?_
  have ek : hk (hsj h a i.toNatClampNeg x) a = 101 := hk0
  have w := kk H' (locs ++ [⟨gA G a, i.toNatClampNeg⟩]) ls (r.put hs ha e2 e3 rfl ho_sj ⟨fun z => absurd z (by rw [ek]; decide), fun z => absurd (ek.symm.trans z) (by decide), ?_, fun z => absurd (ek.symm.trans z) (by decide), fun z => absurd (ek.symm.trans z) (by decide), fun z => absurd (ek.symm.trans z) (by decide), fun z => absurd (ek.symm.trans z) (by decide)⟩) hl (fun z hz' => ?_)
  · have e1 : hz (hsj h a i.toNatClampNeg x) = hz h := rfl
    have e2 : hw (hsj h a i.toNatClampNeg x) = hw h := rfl
    simp only [e1, e2, Nat.sub_self, Nat.add_zero] at w
    exact w
  · refine fun _ => ⟨cA, ?_, h2⟩
    rw [e1, arrV_store]
    show some (arrV cA (hn h a) _) = some (arrV cA (hn h a) _)
    congr 2
    funext j
    unfold updV
    by_cases ej : j = i.toNatClampNeg
    · rw [if_pos ej, ej]; simp [hi, hj, hsi, hsj, x2, vp_nar, narrow]
    · rw [if_neg ej]; simp [hi, hj, hsi, hsj, x2, ej]
  · rcases List.mem_append.mp hz' with h9 | h9
    · exact hq z h9
    · rw [List.mem_singleton.mp h9]
      show gB G ≤ gA G a
      rw [gA_dyn (Nat.lt_of_lt_of_le ha (Nat.le_trans r.2.1 (by omega)))]
      omega
theorem s_bast {a : Nat} {i : Int32} {x : Int32} (hc : xI q pc = some (.bastore, 1)) (ha : a < hz h) (hk0 : hk h a = 102) (hin : vp_in i (hn h a)) : XS l G q d (pc, L, .int x :: .int i :: .ref a :: st, h) (pc + 1, L, st, hsi h a i.toNatClampNeg (vp_nar .byte x)) := by
  refine ⟨⟨Nat.le_refl _, Nat.le_refl _⟩, fun p e Rm s m args below meth c cx Qf H locs cells slots ls r hl hq _ _ kk => ?_⟩
  obtain ⟨hx, hb, -, -, -, -, -, -, -, hg, -, -, -, hs⟩ := cx
  obtain ⟨cA, h1, h2⟩ := (r.2.2.1 a ha).2.2.2.1 hk0
  refine W.bast hx hb h1 (h2 _ _) (fun z => by cases z) (by show ¬ (i < 0 ∨ (arrV _ _ _).slots.size ≤ _); rw [arrV_size]; exact hin) rfl rfl (xI_dec hg hc) fun H' e1 e2 e3 => ?_
  have ek : hk (hsi h a i.toNatClampNeg (vp_nar .byte x)) a = 102 := hk0
  have w := kk H' (locs ++ [⟨gA G a, i.toNatClampNeg⟩]) ls (r.put hs ha e2 e3 rfl ho_si ⟨fun z => absurd z (by rw [ek]; decide), fun z => absurd (ek.symm.trans z) (by decide), fun z => absurd (ek.symm.trans z) (by decide), ?_, fun z => absurd (ek.symm.trans z) (by decide), fun z => absurd (ek.symm.trans z) (by decide), fun z => absurd (ek.symm.trans z) (by decide)⟩) hl (fun z hz' => ?_)
  · have e1 : hz (hsi h a i.toNatClampNeg (vp_nar .byte x)) = hz h := rfl
    have e2 : hw (hsi h a i.toNatClampNeg (vp_nar .byte x)) = hw h := rfl
    simp only [e1, e2, Nat.sub_self, Nat.add_zero] at w
    exact w
  · refine fun _ => ⟨cA, ?_, h2⟩
    rw [e1, arrV_store]
    show some (arrV cA (hn h a) _) = some (arrV cA (hn h a) _)
    congr 2
    funext j
    unfold updV
    by_cases ej : j = i.toNatClampNeg
    · rw [if_pos ej, ej]; simp [hi, hj, hsi, hsj, x2, vp_nar, narrow]
    · rw [if_neg ej]; simp [hi, hj, hsi, hsj, x2, ej]
  · rcases List.mem_append.mp hz' with h9 | h9
    · exact hq z h9
    · rw [List.mem_singleton.mp h9]
      show gB G ≤ gA G a
      rw [gA_dyn (Nat.lt_of_lt_of_le ha (Nat.le_trans r.2.1 (by omega)))]
      omega
theorem s_zast {a : Nat} {i : Int32} {x : Int32} (hc : xI q pc = some (.bastore, 1)) (ha : a < hz h) (hk0 : hk h a = 103) (hin : vp_in i (hn h a)) : XS l G q d (pc, L, .int x :: .int i :: .ref a :: st, h) (pc + 1, L, st, hsi h a i.toNatClampNeg (vp_nar .boolean x)) := by
  refine ⟨⟨Nat.le_refl _, Nat.le_refl _⟩, fun p e Rm s m args below meth c cx Qf H locs cells slots ls r hl hq _ _ kk => ?_⟩
  obtain ⟨hx, hb, -, -, -, -, -, -, -, hg, -, -, -, hs⟩ := cx
  obtain ⟨cA, h1, h2⟩ := (r.2.2.1 a ha).2.2.2.2.1 hk0
  refine W.zast hx hb h1 (h2 _ _) (fun z => by cases z) (by show ¬ (i < 0 ∨ (arrV _ _ _).slots.size ≤ _); rw [arrV_size]; exact hin) rfl rfl (xI_dec hg hc) fun H' e1 e2 e3 => ?_
  have ek : hk (hsi h a i.toNatClampNeg (vp_nar .boolean x)) a = 103 := hk0
  have w := kk H' (locs ++ [⟨gA G a, i.toNatClampNeg⟩]) ls (r.put hs ha e2 e3 rfl ho_si ⟨fun z => absurd z (by rw [ek]; decide), fun z => absurd (ek.symm.trans z) (by decide), fun z => absurd (ek.symm.trans z) (by decide), fun z => absurd (ek.symm.trans z) (by decide), ?_, fun z => absurd (ek.symm.trans z) (by decide), fun z => absurd (ek.symm.trans z) (by decide)⟩) hl (fun z hz' => ?_)
  · have e1 : hz (hsi h a i.toNatClampNeg (vp_nar .boolean x)) = hz h := rfl
    have e2 : hw (hsi h a i.toNatClampNeg (vp_nar .boolean x)) = hw h := rfl
    simp only [e1, e2, Nat.sub_self, Nat.add_zero] at w
    exact w
  · refine fun _ => ⟨cA, ?_, h2⟩
    rw [e1, arrV_store]
    show some (arrV cA (hn h a) _) = some (arrV cA (hn h a) _)
    congr 2
    funext j
    unfold updV
    by_cases ej : j = i.toNatClampNeg
    · rw [if_pos ej, ej]; simp [hi, hj, hsi, hsj, x2, vp_nar, narrow]
    · rw [if_neg ej]; simp [hi, hj, hsi, hsj, x2, ej]
  · rcases List.mem_append.mp hz' with h9 | h9
    · exact hq z h9
    · rw [List.mem_singleton.mp h9]
      show gB G ≤ gA G a
      rw [gA_dyn (Nat.lt_of_lt_of_le ha (Nat.le_trans r.2.1 (by omega)))]
      omega
end XHeapB
