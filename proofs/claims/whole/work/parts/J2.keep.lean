/-! No method of the model touches the law's own cell (more) -/
theorem j_f_m_isThing {a0 : Int64} {a1 : Int32} {a2 : Int32} {a3 : Int32} {h : XH} {r : Int32 × XH}  (hf : f_m_isThing a0 a1 a2 a3 h = some r) : hj r.2 1316 = hj h 1316 := by
  unfold f_m_isThing at hf
  rcases xi_or hf with ⟨-, hf⟩ | ⟨-, hf⟩
  · obtain rfl := Option.some.inj hf
    first | (simp (disch := decide) only [hj_hsi, hj_hsj_ne, hj_hri]; done) | rfl
  · rcases xi_or hf with ⟨-, hf⟩ | ⟨-, hf⟩
    · rcases xi_or hf with ⟨-, hf⟩ | ⟨-, hf⟩
      · rcases xi_or hf with ⟨-, hf⟩ | ⟨-, hf⟩
        · obtain rfl := Option.some.inj hf
          first | (simp (disch := decide) only [hj_hsi, hj_hsj_ne, hj_hri]; done) | rfl
        · rcases xi_or hf with ⟨-, hf⟩ | ⟨-, hf⟩
          · obtain rfl := Option.some.inj hf
            first | (simp (disch := decide) only [hj_hsi, hj_hsj_ne, hj_hri]; done) | rfl
          · rcases xi_or hf with ⟨-, hf⟩ | ⟨-, hf⟩
            · obtain rfl := Option.some.inj hf
              first | (simp (disch := decide) only [hj_hsi, hj_hsj_ne, hj_hri]; done) | rfl
            · obtain rfl := Option.some.inj hf
              first | (simp (disch := decide) only [hj_hsi, hj_hsj_ne, hj_hri]; done) | rfl
      · exact xn_or hf
    · obtain rfl := Option.some.inj hf
      first | (simp (disch := decide) only [hj_hsi, hj_hsj_ne, hj_hri]; done) | rfl
theorem j_s_m_areOfStruct_2 {K2 : Int32 → Int32 → Int32 → XH → Option (Int32 × XH)} {x1 : Int32} {x2 : Int32} {x3 : Int32} {h : XH} {r : Int32 × XH} (hK2 : ∀ (q0 : Int32) (q1 : Int32) (q2 : Int32) (qh : XH) (qr : Int32 × XH), K2 q0 q1 q2 qh = some qr → hj qr.2 1316 = hj qh 1316) (hf : s_m_areOfStruct_2 K2 x1 x2 x3 h = some r) : hj r.2 1316 = hj h 1316 := by
  unfold s_m_areOfStruct_2 at hf
  rcases xi_or hf with ⟨-, hf⟩ | ⟨-, hf⟩
  · rcases xi_or hf with ⟨-, hf⟩ | ⟨-, hf⟩
    · obtain rfl := Option.some.inj hf
      first | (simp (disch := decide) only [hj_hsi, hj_hsj_ne, hj_hri]; done) | rfl
    · rcases xi_or hf with ⟨-, hf⟩ | ⟨-, hf⟩
      · rcases xi_or hf with ⟨-, hf⟩ | ⟨-, hf⟩
        · obtain ⟨v1, e1, hf⟩ := xb_or hf
          replace e1 := j_f_m_isValue e1
          rcases xi_or hf with ⟨-, hf⟩ | ⟨-, hf⟩
          · refine (hK2 _ _ _ _ _ hf).trans ?_
            first | (simp (disch := decide) only [hj_hsi, hj_hsj_ne, hj_hri, e1]; done) | rfl
          · obtain rfl := Option.some.inj hf
            first | (simp (disch := decide) only [hj_hsi, hj_hsj_ne, hj_hri, e1]; done) | rfl
        · exact xn_or hf
      · exact xn_or hf
  · exact xn_or hf
theorem j_b_m_areOfStruct_2   : ∀ {n : Nat} {q0 : Int32} {q1 : Int32} {q2 : Int32} {h : XH} {r : Int32 × XH}, b_m_areOfStruct_2  n q0 q1 q2 h = some r → hj r.2 1316 = hj h 1316 := by
  intro n
  induction n with
  | zero => intro _ _ _ _ _ hf; cases hf
  | succ n ih => intro _ _ _ _ _ hf; exact j_s_m_areOfStruct_2 (fun _ _ _ _ _ e => ih e) hf
theorem j_f_m_areOfStruct {a0 : Int32} {a1 : Int32} {h : XH} {r : Int32 × XH}  (hf : f_m_areOfStruct a0 a1 h = some r) : hj r.2 1316 = hj h 1316 := by
  unfold f_m_areOfStruct at hf
  refine (j_b_m_areOfStruct_2 hf).trans ?_
  first | (simp (disch := decide) only [hj_hsi, hj_hsj_ne, hj_hri]; done) | rfl
theorem j_s_m_putStruct_17 {K17 : Int32 → Int32 → Int32 → Int32 → XH → Option (Unit × XH)} {x1 : Int32} {x2 : Int32} {x3 : Int32} {x4 : Int32} {h : XH} {r : Unit × XH} (hK17 : ∀ (q0 : Int32) (q1 : Int32) (q2 : Int32) (q3 : Int32) (qh : XH) (qr : Unit × XH), K17 q0 q1 q2 q3 qh = some qr → hj qr.2 1316 = hj qh 1316) (hf : s_m_putStruct_17 K17 x1 x2 x3 x4 h = some r) : hj r.2 1316 = hj h 1316 := by
  unfold s_m_putStruct_17 at hf
  rcases xi_or hf with ⟨-, hf⟩ | ⟨-, hf⟩
  · obtain ⟨v1, e1, hf⟩ := xb_or hf
    replace e1 := j_f_m_zeros e1
    obtain rfl := Option.some.inj hf
    first | (simp (disch := decide) only [hj_hsi, hj_hsj_ne, hj_hri, e1]; done) | rfl
  · rcases xi_or hf with ⟨-, hf⟩ | ⟨-, hf⟩
    · obtain ⟨v2, e2, hf⟩ := xb_or hf
      replace e2 := j_f_m_bytesOf e2
      obtain ⟨v3, e3, hf⟩ := xb_or hf
      replace e3 := j_f_m_zeros e3
      rcases xi_or hf with ⟨-, hf⟩ | ⟨-, hf⟩
      · obtain ⟨v4, e4, hf⟩ := xb_or hf
        replace e4 := j_f_m_bytesOf e4
        obtain ⟨v5, e5, hf⟩ := xb_or hf
        replace e5 := j_f_m_ahead e5
        refine (hK17 _ _ _ _ _ _ hf).trans ?_
        first | (simp (disch := decide) only [hj_hsi, hj_hsj_ne, hj_hri, e5, e4, e3, e2]; done) | rfl
      · exact xn_or hf
    · exact xn_or hf
theorem j_b_m_putStruct_17   : ∀ {n : Nat} {q0 : Int32} {q1 : Int32} {q2 : Int32} {q3 : Int32} {h : XH} {r : Unit × XH}, b_m_putStruct_17  n q0 q1 q2 q3 h = some r → hj r.2 1316 = hj h 1316 := by
  intro n
  induction n with
  | zero => intro _ _ _ _ _ _ hf; cases hf
  | succ n ih => intro _ _ _ _ _ _ hf; exact j_s_m_putStruct_17 (fun _ _ _ _ _ _ e => ih e) hf
theorem j_f_m_putStruct {a0 : Int32} {a1 : Int32} {h : XH} {r : Unit × XH}  (hf : f_m_putStruct a0 a1 h = some r) : hj r.2 1316 = hj h 1316 := by
  unfold f_m_putStruct at hf
  rcases xi_or hf with ⟨-, hf⟩ | ⟨-, hf⟩
  · refine (j_b_m_putStruct_17 hf).trans ?_
    first | (simp (disch := decide) only [hj_hsi, hj_hsj_ne, hj_hri]; done) | rfl
  · exact xn_or hf
theorem j_b_m_vector_452 {y1 : Int32} {y2 : Int32} {y3 : Int32} {h : XH} {r : Int32 × XH}  (hf : b_m_vector_452 y1 y2 y3 h = some r) : hj r.2 1316 = hj h 1316 := by
  unfold b_m_vector_452 at hf
  obtain ⟨v1, e1, hf⟩ := xb_or hf
  replace e1 := j_f_m_thing e1
  obtain rfl := Option.some.inj hf
  first | (simp (disch := decide) only [hj_hsi, hj_hsj_ne, hj_hri, e1]; done) | rfl
theorem j_b_m_vector_425 {K370 : Int32 → Int32 → Int32 → Int32 → Int32 → Int32 → XH → Option (Int32 × XH)} {x1 : Int32} {x2 : Int32} {x5 : Int32} {x7 : Int32} {x8 : Int32} {x11 : Int32} {h : XH} {r : Int32 × XH} (hK370 : ∀ (q0 : Int32) (q1 : Int32) (q2 : Int32) (q3 : Int32) (q4 : Int32) (q5 : Int32) (qh : XH) (qr : Int32 × XH), K370 q0 q1 q2 q3 q4 q5 qh = some qr → hj qr.2 1316 = hj qh 1316) (hf : b_m_vector_425 K370 x1 x2 x5 x7 x8 x11 h = some r) : hj r.2 1316 = hj h 1316 := by
  unfold b_m_vector_425 at hf
  refine (hK370 _ _ _ _ _ _ _ _ hf).trans ?_
  first | (simp (disch := decide) only [hj_hsi, hj_hsj_ne, hj_hri]; done) | rfl
theorem j_s_m_vector_370 {K370 : Int32 → Int32 → Int32 → Int32 → Int32 → Int32 → XH → Option (Int32 × XH)} {x1 : Int32} {x2 : Int32} {x5 : Int32} {x7 : Int32} {x8 : Int32} {x11 : Int32} {h : XH} {r : Int32 × XH} (hK370 : ∀ (q0 : Int32) (q1 : Int32) (q2 : Int32) (q3 : Int32) (q4 : Int32) (q5 : Int32) (qh : XH) (qr : Int32 × XH), K370 q0 q1 q2 q3 q4 q5 qh = some qr → hj qr.2 1316 = hj qh 1316) (hf : s_m_vector_370 K370 x1 x2 x5 x7 x8 x11 h = some r) : hj r.2 1316 = hj h 1316 := by
  unfold s_m_vector_370 at hf
  rcases xi_or hf with ⟨-, hf⟩ | ⟨-, hf⟩
  · obtain ⟨v1, e1, hf⟩ := xb_or hf
    replace e1 := j_f_m_ahead e1
    rcases xi_or hf with ⟨-, hf⟩ | ⟨-, hf⟩
    · refine (j_b_m_vector_452 hf).trans ?_
      first | (simp (disch := decide) only [hj_hsi, hj_hsj_ne, hj_hri, e1]; done) | rfl
    · refine (j_b_m_vector_452 hf).trans ?_
      first | (simp (disch := decide) only [hj_hsi, hj_hsj_ne, hj_hri, e1]; done) | rfl
  · rcases xi_or hf with ⟨-, hf⟩ | ⟨-, hf⟩
    · rcases xi_or hf with ⟨-, hf⟩ | ⟨-, hf⟩
      · rcases xi_or hf with ⟨-, hf⟩ | ⟨-, hf⟩
        · obtain ⟨v2, e2, hf⟩ := xb_or hf
          replace e2 := j_f_m_reference e2
          refine (j_b_m_vector_425 hK370 hf).trans ?_
          first | (simp (disch := decide) only [hj_hsi, hj_hsj_ne, hj_hri, e2]; done) | rfl
        · exact xn_or hf
      · obtain ⟨v3, e3, hf⟩ := xb_or hf
        replace e3 := j_f_m_putStruct e3
        refine (j_b_m_vector_425 hK370 hf).trans ?_
        first | (simp (disch := decide) only [hj_hsi, hj_hsj_ne, hj_hri, e3]; done) | rfl
    · rcases xi_or hf with ⟨-, hf⟩ | ⟨-, hf⟩
      · obtain ⟨v4, e4, hf⟩ := xb_or hf
        replace e4 := j_f_m_ahead e4
        refine (j_b_m_vector_425 hK370 hf).trans ?_
        first | (simp (disch := decide) only [hj_hsi, hj_hsj_ne, hj_hri, e4]; done) | rfl
      · exact xn_or hf
theorem j_b_m_vector_370   : ∀ {n : Nat} {q0 : Int32} {q1 : Int32} {q2 : Int32} {q3 : Int32} {q4 : Int32} {q5 : Int32} {h : XH} {r : Int32 × XH}, b_m_vector_370  n q0 q1 q2 q3 q4 q5 h = some r → hj r.2 1316 = hj h 1316 := by
  intro n
  induction n with
  | zero => intro _ _ _ _ _ _ _ _ hf; cases hf
  | succ n ih => intro _ _ _ _ _ _ _ _ hf; exact j_s_m_vector_370 (fun _ _ _ _ _ _ _ _ e => ih e) hf
theorem j_b_m_vector_345 {h : XH} {r : Int32 × XH}  (hf : b_m_vector_345 h = some r) : hj r.2 1316 = hj h 1316 := by
  unfold b_m_vector_345 at hf
  obtain rfl := Option.some.inj hf
  first | (simp (disch := decide) only [hj_hsi, hj_hsj_ne, hj_hri]; done) | rfl
theorem j_b_m_vector_309 {x1 : Int32} {x2 : Int32} {x5 : Int32} {x7 : Int32} {x8 : Int32} {x9 : Int32} {y1 : Int32} {y2 : Int32} {y3 : Int32} {h : XH} {r : Int32 × XH}  (hf : b_m_vector_309 x1 x2 x5 x7 x8 x9 y1 y2 y3 h = some r) : hj r.2 1316 = hj h 1316 := by
  unfold b_m_vector_309 at hf
  obtain ⟨v1, e1, hf⟩ := xb_or hf
  replace e1 := j_f_m_fill e1
  rcases xi_or hf with ⟨-, hf⟩ | ⟨-, hf⟩
  · refine (j_b_m_vector_345 hf).trans ?_
    first | (simp (disch := decide) only [hj_hsi, hj_hsj_ne, hj_hri, e1]; done) | rfl
  · rcases xi_or hf with ⟨-, hf⟩ | ⟨-, hf⟩
    · obtain ⟨v2, e2, hf⟩ := xb_or hf
      replace e2 := j_f_m_aligned e2
      obtain ⟨v3, e3, hf⟩ := xb_or hf
      replace e3 := j_f_m_zeros e3
      refine (j_b_m_vector_370 hf).trans ?_
      first | (simp (disch := decide) only [hj_hsi, hj_hsj_ne, hj_hri, e3, e2, e1]; done) | rfl
    · refine (j_b_m_vector_345 hf).trans ?_
      first | (simp (disch := decide) only [hj_hsi, hj_hsj_ne, hj_hri, e1]; done) | rfl
theorem j_b_m_vector_285 {x1 : Int32} {x2 : Int32} {x5 : Int32} {x7 : Int32} {x8 : Int32} {y0 : Int32} {h : XH} {r : Int32 × XH}  (hf : b_m_vector_285 x1 x2 x5 x7 x8 y0 h = some r) : hj r.2 1316 = hj h 1316 := by
  unfold b_m_vector_285 at hf
  rcases xi_or hf with ⟨-, hf⟩ | ⟨-, hf⟩
  · refine (j_b_m_vector_309 hf).trans ?_
    first | (simp (disch := decide) only [hj_hsi, hj_hsj_ne, hj_hri]; done) | rfl
  · refine (j_b_m_vector_309 hf).trans ?_
    first | (simp (disch := decide) only [hj_hsi, hj_hsj_ne, hj_hri]; done) | rfl
theorem j_b_m_vector_259 {x1 : Int32} {x2 : Int32} {x5 : Int32} {x7 : Int32} {y0 : Int32} {h : XH} {r : Int32 × XH}  (hf : b_m_vector_259 x1 x2 x5 x7 y0 h = some r) : hj r.2 1316 = hj h 1316 := by
  unfold b_m_vector_259 at hf
  rcases xi_or hf with ⟨-, hf⟩ | ⟨-, hf⟩
  · rcases xi_or hf with ⟨-, hf⟩ | ⟨-, hf⟩
    · refine (j_b_m_vector_285 hf).trans ?_
      first | (simp (disch := decide) only [hj_hsi, hj_hsj_ne, hj_hri]; done) | rfl
    · rcases xi_or hf with ⟨-, hf⟩ | ⟨-, hf⟩
      · refine (j_b_m_vector_285 hf).trans ?_
        first | (simp (disch := decide) only [hj_hsi, hj_hsj_ne, hj_hri]; done) | rfl
      · exact xn_or hf
  · refine (j_b_m_vector_285 hf).trans ?_
    first | (simp (disch := decide) only [hj_hsi, hj_hsj_ne, hj_hri]; done) | rfl
theorem j_b_m_vector_215 {x1 : Int32} {x2 : Int32} {x3 : Int32} {x5 : Int32} {x6 : Int32} {h : XH} {r : Int32 × XH}  (hf : b_m_vector_215 x1 x2 x3 x5 x6 h = some r) : hj r.2 1316 = hj h 1316 := by
  unfold b_m_vector_215 at hf
  rcases xi_or hf with ⟨-, hf⟩ | ⟨-, hf⟩
  · rcases xi_or hf with ⟨-, hf⟩ | ⟨-, hf⟩
    · rcases xi_or hf with ⟨-, hf⟩ | ⟨-, hf⟩
      · rcases xi_or hf with ⟨-, hf⟩ | ⟨-, hf⟩
        · refine (j_b_m_vector_259 hf).trans ?_
          first | (simp (disch := decide) only [hj_hsi, hj_hsj_ne, hj_hri]; done) | rfl
        · rcases xi_or hf with ⟨-, hf⟩ | ⟨-, hf⟩
          · refine (j_b_m_vector_259 hf).trans ?_
            first | (simp (disch := decide) only [hj_hsi, hj_hsj_ne, hj_hri]; done) | rfl
          · exact xn_or hf
      · obtain ⟨v1, e1, hf⟩ := xb_or hf
        replace e1 := j_f_m_bytesOf e1
        refine (j_b_m_vector_259 hf).trans ?_
        first | (simp (disch := decide) only [hj_hsi, hj_hsj_ne, hj_hri, e1]; done) | rfl
    · exact xn_or hf
  · obtain rfl := Option.some.inj hf
    first | (simp (disch := decide) only [hj_hsi, hj_hsj_ne, hj_hri]; done) | rfl
theorem j_b_m_vector_203 {K136 : Int32 → Int32 → Int32 → Int32 → Int32 → Int32 → XH → Option (Int32 × XH)} {x1 : Int32} {x2 : Int32} {x3 : Int32} {x5 : Int32} {x7 : Int32} {y0 : Int32} {h : XH} {r : Int32 × XH} (hK136 : ∀ (q0 : Int32) (q1 : Int32) (q2 : Int32) (q3 : Int32) (q4 : Int32) (q5 : Int32) (qh : XH) (qr : Int32 × XH), K136 q0 q1 q2 q3 q4 q5 qh = some qr → hj qr.2 1316 = hj qh 1316) (hf : b_m_vector_203 K136 x1 x2 x3 x5 x7 y0 h = some r) : hj r.2 1316 = hj h 1316 := by
  unfold b_m_vector_203 at hf
  refine (hK136 _ _ _ _ _ _ _ _ hf).trans ?_
  first | (simp (disch := decide) only [hj_hsi, hj_hsj_ne, hj_hri]; done) | rfl
theorem j_b_m_vector_200 {K136 : Int32 → Int32 → Int32 → Int32 → Int32 → Int32 → XH → Option (Int32 × XH)} {x1 : Int32} {x2 : Int32} {x3 : Int32} {x5 : Int32} {x7 : Int32} {y1 : Int64} {y2 : Int32} {y3 : Int32} {y4 : Int32} {h : XH} {r : Int32 × XH} (hK136 : ∀ (q0 : Int32) (q1 : Int32) (q2 : Int32) (q3 : Int32) (q4 : Int32) (q5 : Int32) (qh : XH) (qr : Int32 × XH), K136 q0 q1 q2 q3 q4 q5 qh = some qr → hj qr.2 1316 = hj qh 1316) (hf : b_m_vector_200 K136 x1 x2 x3 x5 x7 y1 y2 y3 y4 h = some r) : hj r.2 1316 = hj h 1316 := by
  unfold b_m_vector_200 at hf
  obtain ⟨v1, e1, hf⟩ := xb_or hf
  replace e1 := j_f_m_isThing e1
  refine (j_b_m_vector_203 hK136 hf).trans ?_
  first | (simp (disch := decide) only [hj_hsi, hj_hsj_ne, hj_hri, e1]; done) | rfl
theorem j_s_m_vector_136 {K136 : Int32 → Int32 → Int32 → Int32 → Int32 → Int32 → XH → Option (Int32 × XH)} {x1 : Int32} {x2 : Int32} {x3 : Int32} {x5 : Int32} {x6 : Int32} {x7 : Int32} {h : XH} {r : Int32 × XH} (hK136 : ∀ (q0 : Int32) (q1 : Int32) (q2 : Int32) (q3 : Int32) (q4 : Int32) (q5 : Int32) (qh : XH) (qr : Int32 × XH), K136 q0 q1 q2 q3 q4 q5 qh = some qr → hj qr.2 1316 = hj qh 1316) (hf : s_m_vector_136 K136 x1 x2 x3 x5 x6 x7 h = some r) : hj r.2 1316 = hj h 1316 := by
  unfold s_m_vector_136 at hf
  rcases xi_or hf with ⟨-, hf⟩ | ⟨-, hf⟩
  · refine (j_b_m_vector_215 hf).trans ?_
    first | (simp (disch := decide) only [hj_hsi, hj_hsj_ne, hj_hri]; done) | rfl
  · rcases xi_or hf with ⟨-, hf⟩ | ⟨-, hf⟩
    · refine (j_b_m_vector_215 hf).trans ?_
      first | (simp (disch := decide) only [hj_hsi, hj_hsj_ne, hj_hri]; done) | rfl
    · rcases xi_or hf with ⟨-, hf⟩ | ⟨-, hf⟩
      · rcases xi_or hf with ⟨-, hf⟩ | ⟨-, hf⟩
        · rcases xi_or hf with ⟨-, hf⟩ | ⟨-, hf⟩
          · rcases xi_or hf with ⟨-, hf⟩ | ⟨-, hf⟩
            · refine (j_b_m_vector_200 hK136 hf).trans ?_
              first | (simp (disch := decide) only [hj_hsi, hj_hsj_ne, hj_hri]; done) | rfl
            · refine (j_b_m_vector_200 hK136 hf).trans ?_
              first | (simp (disch := decide) only [hj_hsi, hj_hsj_ne, hj_hri]; done) | rfl
          · exact xn_or hf
        · obtain ⟨v1, e1, hf⟩ := xb_or hf
          replace e1 := j_f_m_areOfStruct e1
          refine (j_b_m_vector_203 hK136 hf).trans ?_
          first | (simp (disch := decide) only [hj_hsi, hj_hsj_ne, hj_hri, e1]; done) | rfl
      · rcases xi_or hf with ⟨-, hf⟩ | ⟨-, hf⟩
        · obtain ⟨v2, e2, hf⟩ := xb_or hf
          replace e2 := j_f_m_isValue e2
          refine (j_b_m_vector_203 hK136 hf).trans ?_
          first | (simp (disch := decide) only [hj_hsi, hj_hsj_ne, hj_hri, e2]; done) | rfl
        · exact xn_or hf
theorem j_b_m_vector_136   : ∀ {n : Nat} {q0 : Int32} {q1 : Int32} {q2 : Int32} {q3 : Int32} {q4 : Int32} {q5 : Int32} {h : XH} {r : Int32 × XH}, b_m_vector_136  n q0 q1 q2 q3 q4 q5 h = some r → hj r.2 1316 = hj h 1316 := by
  intro n
  induction n with
  | zero => intro _ _ _ _ _ _ _ _ hf; cases hf
  | succ n ih => intro _ _ _ _ _ _ _ _ hf; exact j_s_m_vector_136 (fun _ _ _ _ _ _ _ _ e => ih e) hf
theorem j_b_m_vector_131 {x1 : Int32} {x2 : Int32} {x3 : Int32} {x5 : Int32} {y0 : Int32} {h : XH} {r : Int32 × XH}  (hf : b_m_vector_131 x1 x2 x3 x5 y0 h = some r) : hj r.2 1316 = hj h 1316 := by
  unfold b_m_vector_131 at hf
  refine (j_b_m_vector_136 hf).trans ?_
  first | (simp (disch := decide) only [hj_hsi, hj_hsj_ne, hj_hri]; done) | rfl
theorem j_b_m_vector_117 {x1 : Int32} {x2 : Int32} {x3 : Int32} {y0 : Int32} {h : XH} {r : Int32 × XH}  (hf : b_m_vector_117 x1 x2 x3 y0 h = some r) : hj r.2 1316 = hj h 1316 := by
  unfold b_m_vector_117 at hf
  rcases xi_or hf with ⟨-, hf⟩ | ⟨-, hf⟩
  · rcases xi_or hf with ⟨-, hf⟩ | ⟨-, hf⟩
    · refine (j_b_m_vector_131 hf).trans ?_
      first | (simp (disch := decide) only [hj_hsi, hj_hsj_ne, hj_hri]; done) | rfl
    · refine (j_b_m_vector_131 hf).trans ?_
      first | (simp (disch := decide) only [hj_hsi, hj_hsj_ne, hj_hri]; done) | rfl
  · exact xn_or hf
theorem j_b_m_vector_88 {x1 : Int32} {x2 : Int32} {x3 : Int32} {y0 : Int32} {h : XH} {r : Int32 × XH}  (hf : b_m_vector_88 x1 x2 x3 y0 h = some r) : hj r.2 1316 = hj h 1316 := by
  unfold b_m_vector_88 at hf
  rcases xi_or hf with ⟨-, hf⟩ | ⟨-, hf⟩
  · rcases xi_or hf with ⟨-, hf⟩ | ⟨-, hf⟩
    · refine (j_b_m_vector_117 hf).trans ?_
      first | (simp (disch := decide) only [hj_hsi, hj_hsj_ne, hj_hri]; done) | rfl
    · rcases xi_or hf with ⟨-, hf⟩ | ⟨-, hf⟩
      · refine (j_b_m_vector_117 hf).trans ?_
        first | (simp (disch := decide) only [hj_hsi, hj_hsj_ne, hj_hri]; done) | rfl
      · exact xn_or hf
  · obtain rfl := Option.some.inj hf
    first | (simp (disch := decide) only [hj_hsi, hj_hsj_ne, hj_hri]; done) | rfl
theorem j_b_m_vector_48 {x1 : Int32} {x2 : Int32} {x3 : Int32} {h : XH} {r : Int32 × XH}  (hf : b_m_vector_48 x1 x2 x3 h = some r) : hj r.2 1316 = hj h 1316 := by
  unfold b_m_vector_48 at hf
  refine (j_b_m_vector_88 hf).trans ?_
  first | (simp (disch := decide) only [hj_hsi, hj_hsj_ne, hj_hri]; done) | rfl
theorem j_f_m_vector {a0 : Int32} {a1 : Int32} {h : XH} {r : Int32 × XH}  (hf : f_m_vector a0 a1 h = some r) : hj r.2 1316 = hj h 1316 := by
  unfold f_m_vector at hf
  rcases xi_or hf with ⟨-, hf⟩ | ⟨-, hf⟩
  · rcases xi_or hf with ⟨-, hf⟩ | ⟨-, hf⟩
    · rcases xi_or hf with ⟨-, hf⟩ | ⟨-, hf⟩
      · rcases xi_or hf with ⟨-, hf⟩ | ⟨-, hf⟩
        · rcases xi_or hf with ⟨-, hf⟩ | ⟨-, hf⟩
          · refine (j_b_m_vector_88 hf).trans ?_
            first | (simp (disch := decide) only [hj_hsi, hj_hsj_ne, hj_hri]; done) | rfl
          · refine (j_b_m_vector_88 hf).trans ?_
            first | (simp (disch := decide) only [hj_hsi, hj_hsj_ne, hj_hri]; done) | rfl
        · obtain ⟨v1, e1, hf⟩ := xb_or hf
          replace e1 := j_f_m_isTable e1
          refine (j_b_m_vector_88 hf).trans ?_
          first | (simp (disch := decide) only [hj_hsi, hj_hsj_ne, hj_hri, e1]; done) | rfl
      · obtain ⟨v2, e2, hf⟩ := xb_or hf
        replace e2 := j_f_m_isStruct e2
        refine (j_b_m_vector_88 hf).trans ?_
        first | (simp (disch := decide) only [hj_hsi, hj_hsj_ne, hj_hri, e2]; done) | rfl
    · rcases xi_or hf with ⟨-, hf⟩ | ⟨-, hf⟩
      · refine (j_b_m_vector_48 hf).trans ?_
        first | (simp (disch := decide) only [hj_hsi, hj_hsj_ne, hj_hri]; done) | rfl
      · rcases xi_or hf with ⟨-, hf⟩ | ⟨-, hf⟩
        · refine (j_b_m_vector_48 hf).trans ?_
          first | (simp (disch := decide) only [hj_hsi, hj_hsj_ne, hj_hri]; done) | rfl
        · refine (j_b_m_vector_88 hf).trans ?_
          first | (simp (disch := decide) only [hj_hsi, hj_hsj_ne, hj_hri]; done) | rfl
  · obtain rfl := Option.some.inj hf
    first | (simp (disch := decide) only [hj_hsi, hj_hsj_ne, hj_hri]; done) | rfl
theorem j_s_m_begin_73 {K73 : Int32 → XH → Option (Unit × XH)} {x2 : Int32} {h : XH} {r : Unit × XH} (hK73 : ∀ (q0 : Int32) (qh : XH) (qr : Unit × XH), K73 q0 qh = some qr → hj qr.2 1316 = hj qh 1316) (hf : s_m_begin_73 K73 x2 h = some r) : hj r.2 1316 = hj h 1316 := by
  unfold s_m_begin_73 at hf
  rcases xi_or hf with ⟨-, hf⟩ | ⟨-, hf⟩
  · obtain rfl := Option.some.inj hf
    first | (simp (disch := decide) only [hj_hsi, hj_hsj_ne, hj_hri]; done) | rfl
  · rcases xi_or hf with ⟨-, hf⟩ | ⟨-, hf⟩
    · refine (hK73 _ _ _ hf).trans ?_
      first | (simp (disch := decide) only [hj_hsi, hj_hsj_ne, hj_hri]; done) | rfl
    · exact xn_or hf
theorem j_b_m_begin_73   : ∀ {n : Nat} {q0 : Int32} {h : XH} {r : Unit × XH}, b_m_begin_73  n q0 h = some r → hj r.2 1316 = hj h 1316 := by
  intro n
  induction n with
  | zero => intro _ _ _ hf; cases hf
  | succ n ih => intro _ _ _ hf; exact j_s_m_begin_73 (fun _ _ _ e => ih e) hf
theorem j_s_m_begin_52 {K52 : Int32 → XH → Option (Unit × XH)} {x2 : Int32} {h : XH} {r : Unit × XH} (hK52 : ∀ (q0 : Int32) (qh : XH) (qr : Unit × XH), K52 q0 qh = some qr → hj qr.2 1316 = hj qh 1316) (hf : s_m_begin_52 K52 x2 h = some r) : hj r.2 1316 = hj h 1316 := by
  unfold s_m_begin_52 at hf
  rcases xi_or hf with ⟨-, hf⟩ | ⟨-, hf⟩
  · refine (j_b_m_begin_73 hf).trans ?_
    first | (simp (disch := decide) only [hj_hsi, hj_hsj_ne, hj_hri]; done) | rfl
  · rcases xi_or hf with ⟨-, hf⟩ | ⟨-, hf⟩
    · refine (hK52 _ _ _ hf).trans ?_
      first | (simp (disch := decide) only [hj_hsi, hj_hsj_ne, hj_hri]; done) | rfl
    · exact xn_or hf
theorem j_b_m_begin_52   : ∀ {n : Nat} {q0 : Int32} {h : XH} {r : Unit × XH}, b_m_begin_52  n q0 h = some r → hj r.2 1316 = hj h 1316 := by
  intro n
  induction n with
  | zero => intro _ _ _ hf; cases hf
  | succ n ih => intro _ _ _ hf; exact j_s_m_begin_52 (fun _ _ _ e => ih e) hf
theorem j_f_m_begin {a0 : Int32} {h : XH} {r : Unit × XH}  (hf : f_m_begin a0 h = some r) : hj r.2 1316 = hj h 1316 := by
  unfold f_m_begin at hf
  rcases xi_or hf with ⟨-, hf⟩ | ⟨-, hf⟩
  · obtain ⟨v1, e1, hf⟩ := xb_or hf
    replace e1 := j_f_m_isTable e1
    rcases xi_or hf with ⟨-, hf⟩ | ⟨-, hf⟩
    · refine (j_b_m_begin_52 hf).trans ?_
      first | (simp (disch := decide) only [hj_hsi, hj_hsj_ne, hj_hri, e1]; done) | rfl
    · obtain rfl := Option.some.inj hf
      first | (simp (disch := decide) only [hj_hsi, hj_hsj_ne, hj_hri, e1]; done) | rfl
  · obtain rfl := Option.some.inj hf
    first | (simp (disch := decide) only [hj_hsi, hj_hsj_ne, hj_hri]; done) | rfl
theorem j_b_m_fits_128 {x1 : Int32} {y0 : Int32} {h : XH} {r : Int32 × XH}  (hf : b_m_fits_128 x1 y0 h = some r) : hj r.2 1316 = hj h 1316 := by
  unfold b_m_fits_128 at hf
  rcases xi_or hf with ⟨-, hf⟩ | ⟨-, hf⟩
  · obtain rfl := Option.some.inj hf
    first | (simp (disch := decide) only [hj_hsi, hj_hsj_ne, hj_hri]; done) | rfl
  · rcases xi_or hf with ⟨-, hf⟩ | ⟨-, hf⟩
    · rcases xi_or hf with ⟨-, hf⟩ | ⟨-, hf⟩
      · obtain ⟨v1, e1, hf⟩ := xb_or hf
        replace e1 := j_f_m_isThing e1
        rcases xi_or hf with ⟨-, hf⟩ | ⟨-, hf⟩
        · obtain rfl := Option.some.inj hf
          first | (simp (disch := decide) only [hj_hsi, hj_hsj_ne, hj_hri, e1]; done) | rfl
        · obtain rfl := Option.some.inj hf
          first | (simp (disch := decide) only [hj_hsi, hj_hsj_ne, hj_hri, e1]; done) | rfl
      · exact xn_or hf
    · exact xn_or hf
theorem j_b_m_fits_127 {x1 : Int32} {h : XH} {r : Int32 × XH}  (hf : b_m_fits_127 x1 h = some r) : hj r.2 1316 = hj h 1316 := by
  unfold b_m_fits_127 at hf
  refine (j_b_m_fits_128 hf).trans ?_
  first | (simp (disch := decide) only [hj_hsi, hj_hsj_ne, hj_hri]; done) | rfl
theorem j_f_m_fits {a0 : Int32} {a1 : Int32} {h : XH} {r : Int32 × XH}  (hf : f_m_fits a0 a1 h = some r) : hj r.2 1316 = hj h 1316 := by
  unfold f_m_fits at hf
  rcases xi_or hf with ⟨-, hf⟩ | ⟨-, hf⟩
  · rcases xi_or hf with ⟨-, hf⟩ | ⟨-, hf⟩
    · rcases xi_or hf with ⟨-, hf⟩ | ⟨-, hf⟩
      · rcases xi_or hf with ⟨-, hf⟩ | ⟨-, hf⟩
        · rcases xi_or hf with ⟨-, hf⟩ | ⟨-, hf⟩
          · obtain rfl := Option.some.inj hf
            first | (simp (disch := decide) only [hj_hsi, hj_hsj_ne, hj_hri]; done) | rfl
          · obtain ⟨v1, e1, hf⟩ := xb_or hf
            replace e1 := j_f_m_isThing e1
            rcases xi_or hf with ⟨-, hf⟩ | ⟨-, hf⟩
            · obtain rfl := Option.some.inj hf
              first | (simp (disch := decide) only [hj_hsi, hj_hsj_ne, hj_hri, e1]; done) | rfl
            · obtain rfl := Option.some.inj hf
              first | (simp (disch := decide) only [hj_hsi, hj_hsj_ne, hj_hri, e1]; done) | rfl
        · rcases xi_or hf with ⟨-, hf⟩ | ⟨-, hf⟩
          · refine (j_b_m_fits_127 hf).trans ?_
            first | (simp (disch := decide) only [hj_hsi, hj_hsj_ne, hj_hri]; done) | rfl
          · rcases xi_or hf with ⟨-, hf⟩ | ⟨-, hf⟩
            · refine (j_b_m_fits_127 hf).trans ?_
              first | (simp (disch := decide) only [hj_hsi, hj_hsj_ne, hj_hri]; done) | rfl
            · rcases xi_or hf with ⟨-, hf⟩ | ⟨-, hf⟩
              · rcases xi_or hf with ⟨-, hf⟩ | ⟨-, hf⟩
                · refine (j_b_m_fits_127 hf).trans ?_
                  first | (simp (disch := decide) only [hj_hsi, hj_hsj_ne, hj_hri]; done) | rfl
                · refine (j_b_m_fits_128 hf).trans ?_
                  first | (simp (disch := decide) only [hj_hsi, hj_hsj_ne, hj_hri]; done) | rfl
              · exact xn_or hf
      · rcases xi_or hf with ⟨-, hf⟩ | ⟨-, hf⟩
        · rcases xi_or hf with ⟨-, hf⟩ | ⟨-, hf⟩
          · obtain rfl := Option.some.inj hf
            first | (simp (disch := decide) only [hj_hsi, hj_hsj_ne, hj_hri]; done) | rfl
          · obtain ⟨v2, e2, hf⟩ := xb_or hf
            replace e2 := j_f_m_areOfStruct e2
            rcases xi_or hf with ⟨-, hf⟩ | ⟨-, hf⟩
            · obtain rfl := Option.some.inj hf
              first | (simp (disch := decide) only [hj_hsi, hj_hsj_ne, hj_hri, e2]; done) | rfl
            · obtain rfl := Option.some.inj hf
              first | (simp (disch := decide) only [hj_hsi, hj_hsj_ne, hj_hri, e2]; done) | rfl
        · exact xn_or hf
    · rcases xi_or hf with ⟨-, hf⟩ | ⟨-, hf⟩
      · obtain rfl := Option.some.inj hf
        first | (simp (disch := decide) only [hj_hsi, hj_hsj_ne, hj_hri]; done) | rfl
      · obtain ⟨v3, e3, hf⟩ := xb_or hf
        replace e3 := j_f_m_isValue e3
        rcases xi_or hf with ⟨-, hf⟩ | ⟨-, hf⟩
        · obtain rfl := Option.some.inj hf
          first | (simp (disch := decide) only [hj_hsi, hj_hsj_ne, hj_hri, e3]; done) | rfl
        · obtain rfl := Option.some.inj hf
          first | (simp (disch := decide) only [hj_hsi, hj_hsj_ne, hj_hri, e3]; done) | rfl
  · exact xn_or hf
theorem j_b_m_set_356 {x8 : Int32} {h : XH} {r : Int32 × XH}  (hf : b_m_set_356 x8 h = some r) : hj r.2 1316 = hj h 1316 := by
  unfold b_m_set_356 at hf
  rcases xi_or hf with ⟨-, hf⟩ | ⟨-, hf⟩
  · obtain rfl := Option.some.inj hf
    first | (simp (disch := decide) only [hj_hsi, hj_hsj_ne, hj_hri]; done) | rfl
  · exact xn_or hf
theorem j_b_m_set_326 {x4 : Int32} {x8 : Int32} {h : XH} {r : Int32 × XH}  (hf : b_m_set_326 x4 x8 h = some r) : hj r.2 1316 = hj h 1316 := by
  unfold b_m_set_326 at hf
  rcases xi_or hf with ⟨-, hf⟩ | ⟨-, hf⟩
  · refine (j_b_m_set_356 hf).trans ?_
    first | (simp (disch := decide) only [hj_hsi, hj_hsj_ne, hj_hri]; done) | rfl
  · rcases xi_or hf with ⟨-, hf⟩ | ⟨-, hf⟩
    · obtain ⟨v1, e1, hf⟩ := xb_or hf
      replace e1 := j_f_m_ahead e1
      refine (j_b_m_set_356 hf).trans ?_
      first | (simp (disch := decide) only [hj_hsi, hj_hsj_ne, hj_hri, e1]; done) | rfl
    · exact xn_or hf
theorem j_b_m_set_321 {x4 : Int32} {x8 : Int32} {y2 : Int32} {h : XH} {r : Int32 × XH}  (hf : b_m_set_321 x4 x8 y2 h = some r) : hj r.2 1316 = hj h 1316 := by
  unfold b_m_set_321 at hf
  rcases xi_or hf with ⟨-, hf⟩ | ⟨-, hf⟩
  · obtain ⟨v1, e1, hf⟩ := xb_or hf
    replace e1 := j_f_m_reference e1
    refine (j_b_m_set_326 hf).trans ?_
    first | (simp (disch := decide) only [hj_hsi, hj_hsj_ne, hj_hri, e1]; done) | rfl
  · exact xn_or hf
theorem j_b_m_set_224 {x1 : Int32} {x3 : Int32} {x4 : Int32} {x5 : Int32} {x6 : Int32} {x7 : Int32} {y0 : Int32} {y1 : Int32} {h : XH} {r : Int32 × XH}  (hf : b_m_set_224 x1 x3 x4 x5 x6 x7 y0 y1 h = some r) : hj r.2 1316 = hj h 1316 := by
  unfold b_m_set_224 at hf
  rcases xi_or hf with ⟨-, hf⟩ | ⟨-, hf⟩
  · rcases xi_or hf with ⟨-, hf⟩ | ⟨-, hf⟩
    · obtain ⟨v1, e1, hf⟩ := xb_or hf
      replace e1 := j_f_m_aligned e1
      obtain ⟨v2, e2, hf⟩ := xb_or hf
      replace e2 := j_f_m_zeros e2
      rcases xi_or hf with ⟨-, hf⟩ | ⟨-, hf⟩
      · rcases xi_or hf with ⟨-, hf⟩ | ⟨-, hf⟩
        · rcases xi_or hf with ⟨-, hf⟩ | ⟨-, hf⟩
          · rcases xi_or hf with ⟨-, hf⟩ | ⟨-, hf⟩
            · refine (j_b_m_set_321 hf).trans ?_
              first | (simp (disch := decide) only [hj_hsi, hj_hsj_ne, hj_hri, e2, e1]; done) | rfl
            · refine (j_b_m_set_321 hf).trans ?_
              first | (simp (disch := decide) only [hj_hsi, hj_hsj_ne, hj_hri, e2, e1]; done) | rfl
          · obtain ⟨v3, e3, hf⟩ := xb_or hf
            replace e3 := j_f_m_putStruct e3
            refine (j_b_m_set_326 hf).trans ?_
            first | (simp (disch := decide) only [hj_hsi, hj_hsj_ne, hj_hri, e3, e2, e1]; done) | rfl
        · obtain ⟨v4, e4, hf⟩ := xb_or hf
          replace e4 := j_f_m_ahead e4
          refine (j_b_m_set_326 hf).trans ?_
          first | (simp (disch := decide) only [hj_hsi, hj_hsj_ne, hj_hri, e4, e2, e1]; done) | rfl
      · exact xn_or hf
    · exact xn_or hf
  · obtain rfl := Option.some.inj hf
    first | (simp (disch := decide) only [hj_hsi, hj_hsj_ne, hj_hri]; done) | rfl
theorem j_b_m_set_187 {x1 : Int32} {x3 : Int32} {x4 : Int32} {x5 : Int32} {y0 : Int32} {h : XH} {r : Int32 × XH}  (hf : b_m_set_187 x1 x3 x4 x5 y0 h = some r) : hj r.2 1316 = hj h 1316 := by
  unfold b_m_set_187 at hf
  obtain ⟨v1, e1, hf⟩ := xb_or hf
  replace e1 := j_f_m_fill e1
  rcases xi_or hf with ⟨-, hf⟩ | ⟨-, hf⟩
  · refine (j_b_m_set_224 hf).trans ?_
    first | (simp (disch := decide) only [hj_hsi, hj_hsj_ne, hj_hri, e1]; done) | rfl
  · refine (j_b_m_set_224 hf).trans ?_
    first | (simp (disch := decide) only [hj_hsi, hj_hsj_ne, hj_hri, e1]; done) | rfl
theorem j_b_m_set_154 {x1 : Int32} {x3 : Int32} {x4 : Int32} {y0 : Int32} {h : XH} {r : Int32 × XH}  (hf : b_m_set_154 x1 x3 x4 y0 h = some r) : hj r.2 1316 = hj h 1316 := by
  unfold b_m_set_154 at hf
  rcases xi_or hf with ⟨-, hf⟩ | ⟨-, hf⟩
  · rcases xi_or hf with ⟨-, hf⟩ | ⟨-, hf⟩
    · refine (j_b_m_set_187 hf).trans ?_
      first | (simp (disch := decide) only [hj_hsi, hj_hsj_ne, hj_hri]; done) | rfl
    · rcases xi_or hf with ⟨-, hf⟩ | ⟨-, hf⟩
      · rcases xi_or hf with ⟨-, hf⟩ | ⟨-, hf⟩
        · refine (j_b_m_set_187 hf).trans ?_
          first | (simp (disch := decide) only [hj_hsi, hj_hsj_ne, hj_hri]; done) | rfl
        · exact xn_or hf
      · exact xn_or hf
  · refine (j_b_m_set_187 hf).trans ?_
    first | (simp (disch := decide) only [hj_hsi, hj_hsj_ne, hj_hri]; done) | rfl
theorem j_b_m_set_116 {x1 : Int32} {x3 : Int32} {x4 : Int32} {h : XH} {r : Int32 × XH}  (hf : b_m_set_116 x1 x3 x4 h = some r) : hj r.2 1316 = hj h 1316 := by
  unfold b_m_set_116 at hf
  rcases xi_or hf with ⟨-, hf⟩ | ⟨-, hf⟩
  · rcases xi_or hf with ⟨-, hf⟩ | ⟨-, hf⟩
    · refine (j_b_m_set_154 hf).trans ?_
      first | (simp (disch := decide) only [hj_hsi, hj_hsj_ne, hj_hri]; done) | rfl
    · rcases xi_or hf with ⟨-, hf⟩ | ⟨-, hf⟩
      · rcases xi_or hf with ⟨-, hf⟩ | ⟨-, hf⟩
        · refine (j_b_m_set_154 hf).trans ?_
          first | (simp (disch := decide) only [hj_hsi, hj_hsj_ne, hj_hri]; done) | rfl
        · exact xn_or hf
      · exact xn_or hf
  · rcases xi_or hf with ⟨-, hf⟩ | ⟨-, hf⟩
    · obtain ⟨v1, e1, hf⟩ := xb_or hf
      replace e1 := j_f_m_bytesOf e1
      refine (j_b_m_set_154 hf).trans ?_
      first | (simp (disch := decide) only [hj_hsi, hj_hsj_ne, hj_hri, e1]; done) | rfl
    · exact xn_or hf
theorem j_b_m_set_71 {h : XH} {r : Int32 × XH}  (hf : b_m_set_71 h = some r) : hj r.2 1316 = hj h 1316 := by
  unfold b_m_set_71 at hf
  obtain rfl := Option.some.inj hf
  first | (simp (disch := decide) only [hj_hsi, hj_hsj_ne, hj_hri]; done) | rfl
theorem j_f_m_set {a0 : Int32} {h : XH} {r : Int32 × XH}  (hf : f_m_set a0 h = some r) : hj r.2 1316 = hj h 1316 := by
  unfold f_m_set at hf
  rcases xi_or hf with ⟨-, hf⟩ | ⟨-, hf⟩
  · obtain ⟨v1, e1, hf⟩ := xb_or hf
    replace e1 := j_f_m_fieldOf e1
    rcases xi_or hf with ⟨-, hf⟩ | ⟨-, hf⟩
    · rcases xi_or hf with ⟨-, hf⟩ | ⟨-, hf⟩
      · rcases xi_or hf with ⟨-, hf⟩ | ⟨-, hf⟩
        · refine (j_b_m_set_71 hf).trans ?_
          first | (simp (disch := decide) only [hj_hsi, hj_hsj_ne, hj_hri, e1]; done) | rfl
        · obtain ⟨v2, e2, hf⟩ := xb_or hf
          replace e2 := j_f_m_fits e2
          rcases xi_or hf with ⟨-, hf⟩ | ⟨-, hf⟩
          · rcases xi_or hf with ⟨-, hf⟩ | ⟨-, hf⟩
            · rcases xi_or hf with ⟨-, hf⟩ | ⟨-, hf⟩
              · refine (j_b_m_set_116 hf).trans ?_
                first | (simp (disch := decide) only [hj_hsi, hj_hsj_ne, hj_hri, e2, e1]; done) | rfl
              · rcases xi_or hf with ⟨-, hf⟩ | ⟨-, hf⟩
                · refine (j_b_m_set_116 hf).trans ?_
                  first | (simp (disch := decide) only [hj_hsi, hj_hsj_ne, hj_hri, e2, e1]; done) | rfl
                · rcases xi_or hf with ⟨-, hf⟩ | ⟨-, hf⟩
                  · obtain rfl := Option.some.inj hf
                    first | (simp (disch := decide) only [hj_hsi, hj_hsj_ne, hj_hri, e2, e1]; done) | rfl
                  · exact xn_or hf
            · exact xn_or hf
          · refine (j_b_m_set_71 hf).trans ?_
            first | (simp (disch := decide) only [hj_hsi, hj_hsj_ne, hj_hri, e2, e1]; done) | rfl
      · exact xn_or hf
    · obtain rfl := Option.some.inj hf
      first | (simp (disch := decide) only [hj_hsi, hj_hsj_ne, hj_hri, e1]; done) | rfl
  · obtain rfl := Option.some.inj hf
    first | (simp (disch := decide) only [hj_hsi, hj_hsj_ne, hj_hri]; done) | rfl
theorem j_b_m_lacks_44 {K2 : Int32 → XH → Option (Int32 × XH)} {x1 : Int32} {h : XH} {r : Int32 × XH} (hK2 : ∀ (q0 : Int32) (qh : XH) (qr : Int32 × XH), K2 q0 qh = some qr → hj qr.2 1316 = hj qh 1316) (hf : b_m_lacks_44 K2 x1 h = some r) : hj r.2 1316 = hj h 1316 := by
  unfold b_m_lacks_44 at hf
  refine (hK2 _ _ _ hf).trans ?_
  first | (simp (disch := decide) only [hj_hsi, hj_hsj_ne, hj_hri]; done) | rfl
theorem j_s_m_lacks_2 {K2 : Int32 → XH → Option (Int32 × XH)} {x1 : Int32} {h : XH} {r : Int32 × XH} (hK2 : ∀ (q0 : Int32) (qh : XH) (qr : Int32 × XH), K2 q0 qh = some qr → hj qr.2 1316 = hj qh 1316) (hf : s_m_lacks_2 K2 x1 h = some r) : hj r.2 1316 = hj h 1316 := by
  unfold s_m_lacks_2 at hf
  rcases xi_or hf with ⟨-, hf⟩ | ⟨-, hf⟩
  · rcases xi_or hf with ⟨-, hf⟩ | ⟨-, hf⟩
    · obtain rfl := Option.some.inj hf
      first | (simp (disch := decide) only [hj_hsi, hj_hsj_ne, hj_hri]; done) | rfl
    · rcases xi_or hf with ⟨-, hf⟩ | ⟨-, hf⟩
      · rcases xi_or hf with ⟨-, hf⟩ | ⟨-, hf⟩
        · refine (j_b_m_lacks_44 hK2 hf).trans ?_
          first | (simp (disch := decide) only [hj_hsi, hj_hsj_ne, hj_hri]; done) | rfl
        · rcases xi_or hf with ⟨-, hf⟩ | ⟨-, hf⟩
          · rcases xi_or hf with ⟨-, hf⟩ | ⟨-, hf⟩
            · refine (j_b_m_lacks_44 hK2 hf).trans ?_
              first | (simp (disch := decide) only [hj_hsi, hj_hsj_ne, hj_hri]; done) | rfl
            · obtain rfl := Option.some.inj hf
              first | (simp (disch := decide) only [hj_hsi, hj_hsj_ne, hj_hri]; done) | rfl
          · exact xn_or hf
      · exact xn_or hf
  · exact xn_or hf
theorem j_b_m_lacks_2   : ∀ {n : Nat} {q0 : Int32} {h : XH} {r : Int32 × XH}, b_m_lacks_2  n q0 h = some r → hj r.2 1316 = hj h 1316 := by
  intro n
  induction n with
  | zero => intro _ _ _ hf; cases hf
  | succ n ih => intro _ _ _ hf; exact j_s_m_lacks_2 (fun _ _ _ e => ih e) hf
theorem j_f_m_lacks {h : XH} {r : Int32 × XH}  (hf : f_m_lacks h = some r) : hj r.2 1316 = hj h 1316 := by
  unfold f_m_lacks at hf
  refine (j_b_m_lacks_2 hf).trans ?_
  first | (simp (disch := decide) only [hj_hsi, hj_hsj_ne, hj_hri]; done) | rfl
theorem j_b_m_known_77 {K2 : Int32 → Int32 → XH → Option (Int32 × XH)} {x1 : Int32} {x2 : Int32} {x3 : Int32} {h : XH} {r : Int32 × XH} (hK2 : ∀ (q0 : Int32) (q1 : Int32) (qh : XH) (qr : Int32 × XH), K2 q0 q1 qh = some qr → hj qr.2 1316 = hj qh 1316) (hf : b_m_known_77 K2 x1 x2 x3 h = some r) : hj r.2 1316 = hj h 1316 := by
  unfold b_m_known_77 at hf
  rcases xi_or hf with ⟨-, hf⟩ | ⟨-, hf⟩
  · refine (hK2 _ _ _ _ hf).trans ?_
    first | (simp (disch := decide) only [hj_hsi, hj_hsj_ne, hj_hri]; done) | rfl
  · rcases xi_or hf with ⟨-, hf⟩ | ⟨-, hf⟩
    · obtain rfl := Option.some.inj hf
      first | (simp (disch := decide) only [hj_hsi, hj_hsj_ne, hj_hri]; done) | rfl
    · exact xn_or hf
theorem j_b_m_known_70 {K2 : Int32 → Int32 → XH → Option (Int32 × XH)} {K29 : Int32 → Int32 → Int32 → Int32 → XH → Option (Int32 × XH)} {x1 : Int32} {x2 : Int32} {x4 : Int32} {y0 : Int32} {h : XH} {r : Int32 × XH} (hK2 : ∀ (q0 : Int32) (q1 : Int32) (qh : XH) (qr : Int32 × XH), K2 q0 q1 qh = some qr → hj qr.2 1316 = hj qh 1316) (hK29 : ∀ (q0 : Int32) (q1 : Int32) (q2 : Int32) (q3 : Int32) (qh : XH) (qr : Int32 × XH), K29 q0 q1 q2 q3 qh = some qr → hj qr.2 1316 = hj qh 1316) (hf : b_m_known_70 K2 K29 x1 x2 x4 y0 h = some r) : hj r.2 1316 = hj h 1316 := by
  unfold b_m_known_70 at hf
  refine (hK29 _ _ _ _ _ _ hf).trans ?_
  first | (simp (disch := decide) only [hj_hsi, hj_hsj_ne, hj_hri]; done) | rfl
theorem j_s_m_known_29 {K2 : Int32 → Int32 → XH → Option (Int32 × XH)} {K29 : Int32 → Int32 → Int32 → Int32 → XH → Option (Int32 × XH)} {x1 : Int32} {x2 : Int32} {x3 : Int32} {x4 : Int32} {h : XH} {r : Int32 × XH} (hK2 : ∀ (q0 : Int32) (q1 : Int32) (qh : XH) (qr : Int32 × XH), K2 q0 q1 qh = some qr → hj qr.2 1316 = hj qh 1316) (hK29 : ∀ (q0 : Int32) (q1 : Int32) (q2 : Int32) (q3 : Int32) (qh : XH) (qr : Int32 × XH), K29 q0 q1 q2 q3 qh = some qr → hj qr.2 1316 = hj qh 1316) (hf : s_m_known_29 K2 K29 x1 x2 x3 x4 h = some r) : hj r.2 1316 = hj h 1316 := by
  unfold s_m_known_29 at hf
  rcases xi_or hf with ⟨-, hf⟩ | ⟨-, hf⟩
  · refine (j_b_m_known_77 hK2 hf).trans ?_
    first | (simp (disch := decide) only [hj_hsi, hj_hsj_ne, hj_hri]; done) | rfl
  · rcases xi_or hf with ⟨-, hf⟩ | ⟨-, hf⟩
    · refine (j_b_m_known_77 hK2 hf).trans ?_
      first | (simp (disch := decide) only [hj_hsi, hj_hsj_ne, hj_hri]; done) | rfl
    · rcases xi_or hf with ⟨-, hf⟩ | ⟨-, hf⟩
      · rcases xi_or hf with ⟨-, hf⟩ | ⟨-, hf⟩
        · rcases xi_or hf with ⟨-, hf⟩ | ⟨-, hf⟩
          · rcases xi_or hf with ⟨-, hf⟩ | ⟨-, hf⟩
            · refine (j_b_m_known_70 hK2 hK29 hf).trans ?_
              first | (simp (disch := decide) only [hj_hsi, hj_hsj_ne, hj_hri]; done) | rfl
            · refine (j_b_m_known_70 hK2 hK29 hf).trans ?_
              first | (simp (disch := decide) only [hj_hsi, hj_hsj_ne, hj_hri]; done) | rfl
          · exact xn_or hf
        · exact xn_or hf
      · exact xn_or hf
theorem j_b_m_known_29 {K2 : Int32 → Int32 → XH → Option (Int32 × XH)} (hK2 : ∀ (q0 : Int32) (q1 : Int32) (qh : XH) (qr : Int32 × XH), K2 q0 q1 qh = some qr → hj qr.2 1316 = hj qh 1316) : ∀ {n : Nat} {q0 : Int32} {q1 : Int32} {q2 : Int32} {q3 : Int32} {h : XH} {r : Int32 × XH}, b_m_known_29 K2 n q0 q1 q2 q3 h = some r → hj r.2 1316 = hj h 1316 := by
  intro n
  induction n with
  | zero => intro _ _ _ _ _ _ hf; cases hf
  | succ n ih => intro _ _ _ _ _ _ hf; exact j_s_m_known_29 hK2 (fun _ _ _ _ _ _ e => ih e) hf
theorem j_b_m_known_25 {K2 : Int32 → Int32 → XH → Option (Int32 × XH)} {x1 : Int32} {x2 : Int32} {y0 : Int32} {h : XH} {r : Int32 × XH} (hK2 : ∀ (q0 : Int32) (q1 : Int32) (qh : XH) (qr : Int32 × XH), K2 q0 q1 qh = some qr → hj qr.2 1316 = hj qh 1316) (hf : b_m_known_25 K2 x1 x2 y0 h = some r) : hj r.2 1316 = hj h 1316 := by
  unfold b_m_known_25 at hf
  refine (j_b_m_known_29 hK2 hf).trans ?_
  first | (simp (disch := decide) only [hj_hsi, hj_hsj_ne, hj_hri]; done) | rfl
theorem j_s_m_known_2 {K2 : Int32 → Int32 → XH → Option (Int32 × XH)} {x1 : Int32} {x2 : Int32} {h : XH} {r : Int32 × XH} (hK2 : ∀ (q0 : Int32) (q1 : Int32) (qh : XH) (qr : Int32 × XH), K2 q0 q1 qh = some qr → hj qr.2 1316 = hj qh 1316) (hf : s_m_known_2 K2 x1 x2 h = some r) : hj r.2 1316 = hj h 1316 := by
  unfold s_m_known_2 at hf
  rcases xi_or hf with ⟨-, hf⟩ | ⟨-, hf⟩
  · obtain rfl := Option.some.inj hf
    first | (simp (disch := decide) only [hj_hsi, hj_hsj_ne, hj_hri]; done) | rfl
  · rcases xi_or hf with ⟨-, hf⟩ | ⟨-, hf⟩
    · rcases xi_or hf with ⟨-, hf⟩ | ⟨-, hf⟩
      · refine (j_b_m_known_25 hK2 hf).trans ?_
        first | (simp (disch := decide) only [hj_hsi, hj_hsj_ne, hj_hri]; done) | rfl
      · refine (j_b_m_known_25 hK2 hf).trans ?_
        first | (simp (disch := decide) only [hj_hsi, hj_hsj_ne, hj_hri]; done) | rfl
    · exact xn_or hf
theorem j_b_m_known_2   : ∀ {n : Nat} {q0 : Int32} {q1 : Int32} {h : XH} {r : Int32 × XH}, b_m_known_2  n q0 q1 h = some r → hj r.2 1316 = hj h 1316 := by
  intro n
  induction n with
  | zero => intro _ _ _ _ hf; cases hf
  | succ n ih => intro _ _ _ _ hf; exact j_s_m_known_2 (fun _ _ _ _ e => ih e) hf
theorem j_f_m_known {a0 : Int32} {h : XH} {r : Int32 × XH}  (hf : f_m_known a0 h = some r) : hj r.2 1316 = hj h 1316 := by
  unfold f_m_known at hf
  refine (j_b_m_known_2 hf).trans ?_
  first | (simp (disch := decide) only [hj_hsi, hj_hsj_ne, hj_hri]; done) | rfl
theorem j_f_m_two {a0 : Int32} {a1 : Int32} {h : XH} {r : Unit × XH}  (hf : f_m_two a0 a1 h = some r) : hj r.2 1316 = hj h 1316 := by
  unfold f_m_two at hf
  rcases xi_or hf with ⟨-, hf⟩ | ⟨-, hf⟩
  · rcases xi_or hf with ⟨-, hf⟩ | ⟨-, hf⟩
    · obtain rfl := Option.some.inj hf
      first | (simp (disch := decide) only [hj_hsi, hj_hsj_ne, hj_hri]; done) | rfl
    · exact xn_or hf
  · exact xn_or hf
theorem j_b_m_ready_312 {x6 : Int32} {h : XH} {r : Int32 × XH}  (hf : b_m_ready_312 x6 h = some r) : hj r.2 1316 = hj h 1316 := by
  unfold b_m_ready_312 at hf
  obtain rfl := Option.some.inj hf
  first | (simp (disch := decide) only [hj_hsi, hj_hsj_ne, hj_hri]; done) | rfl
theorem j_s_m_ready_255 {K255 : Int32 → Int32 → Int32 → XH → Option (Int32 × XH)} {x3 : Int32} {x6 : Int32} {x7 : Int32} {h : XH} {r : Int32 × XH} (hK255 : ∀ (q0 : Int32) (q1 : Int32) (q2 : Int32) (qh : XH) (qr : Int32 × XH), K255 q0 q1 q2 qh = some qr → hj qr.2 1316 = hj qh 1316) (hf : s_m_ready_255 K255 x3 x6 x7 h = some r) : hj r.2 1316 = hj h 1316 := by
  unfold s_m_ready_255 at hf
  rcases xi_or hf with ⟨-, hf⟩ | ⟨-, hf⟩
  · rcases xi_or hf with ⟨-, hf⟩ | ⟨-, hf⟩
    · refine (j_b_m_ready_312 hf).trans ?_
      first | (simp (disch := decide) only [hj_hsi, hj_hsj_ne, hj_hri]; done) | rfl
    · exact xn_or hf
  · rcases xi_or hf with ⟨-, hf⟩ | ⟨-, hf⟩
    · obtain ⟨v1, e1, hf⟩ := xb_or hf
      replace e1 := j_f_m_ahead e1
      refine (hK255 _ _ _ _ _ hf).trans ?_
      first | (simp (disch := decide) only [hj_hsi, hj_hsj_ne, hj_hri, e1]; done) | rfl
    · exact xn_or hf
theorem j_b_m_ready_255   : ∀ {n : Nat} {q0 : Int32} {q1 : Int32} {q2 : Int32} {h : XH} {r : Int32 × XH}, b_m_ready_255  n q0 q1 q2 h = some r → hj r.2 1316 = hj h 1316 := by
  intro n
  induction n with
  | zero => intro _ _ _ _ _ hf; cases hf
  | succ n ih => intro _ _ _ _ _ hf; exact j_s_m_ready_255 (fun _ _ _ _ _ e => ih e) hf
theorem j_b_m_ready_220 {x2 : Int32} {x3 : Int32} {x4 : Int32} {x5 : Int32} {y1 : Int32} {h : XH} {r : Int32 × XH}  (hf : b_m_ready_220 x2 x3 x4 x5 y1 h = some r) : hj r.2 1316 = hj h 1316 := by
  unfold b_m_ready_220 at hf
  obtain ⟨v1, e1, hf⟩ := xb_or hf
  replace e1 := j_f_m_ahead e1
  obtain ⟨v2, e2, hf⟩ := xb_or hf
  replace e2 := j_f_m_thing e2
  rcases xi_or hf with ⟨-, hf⟩ | ⟨-, hf⟩
  · refine (j_b_m_ready_312 hf).trans ?_
    first | (simp (disch := decide) only [hj_hsi, hj_hsj_ne, hj_hri, e2, e1]; done) | rfl
  · obtain ⟨v3, e3, hf⟩ := xb_or hf
    replace e3 := j_f_m_zeros e3
    refine (j_b_m_ready_255 hf).trans ?_
    first | (simp (disch := decide) only [hj_hsi, hj_hsj_ne, hj_hri, e3, e2, e1]; done) | rfl
theorem j_b_m_ready_191 {h : XH} {r : Int32 × XH}  (hf : b_m_ready_191 h = some r) : hj r.2 1316 = hj h 1316 := by
  unfold b_m_ready_191 at hf
  obtain rfl := Option.some.inj hf
  first | (simp (disch := decide) only [hj_hsi, hj_hsj_ne, hj_hri]; done) | rfl
theorem j_b_m_ready_185 {x1 : Int32} {x2 : Int32} {x3 : Int32} {x4 : Int32} {x5 : Int32} {y0 : Int32} {h : XH} {r : Int32 × XH}  (hf : b_m_ready_185 x1 x2 x3 x4 x5 y0 h = some r) : hj r.2 1316 = hj h 1316 := by
  unfold b_m_ready_185 at hf
  rcases xi_or hf with ⟨-, hf⟩ | ⟨-, hf⟩
  · obtain ⟨v1, e1, hf⟩ := xb_or hf
    replace e1 := j_f_m_zeros e1
    rcases xi_or hf with ⟨-, hf⟩ | ⟨-, hf⟩
    · refine (j_b_m_ready_220 hf).trans ?_
      first | (simp (disch := decide) only [hj_hsi, hj_hsj_ne, hj_hri, e1]; done) | rfl
    · refine (j_b_m_ready_220 hf).trans ?_
      first | (simp (disch := decide) only [hj_hsi, hj_hsj_ne, hj_hri, e1]; done) | rfl
  · refine (j_b_m_ready_191 hf).trans ?_
    first | (simp (disch := decide) only [hj_hsi, hj_hsj_ne, hj_hri]; done) | rfl
theorem j_b_m_ready_120 {K52 : Int32 → Int32 → Int32 → Int32 → XH → Option (Int32 × XH)} {x1 : Int32} {x2 : Int32} {x4 : Int32} {y0 : Int32} {h : XH} {r : Int32 × XH} (hK52 : ∀ (q0 : Int32) (q1 : Int32) (q2 : Int32) (q3 : Int32) (qh : XH) (qr : Int32 × XH), K52 q0 q1 q2 q3 qh = some qr → hj qr.2 1316 = hj qh 1316) (hf : b_m_ready_120 K52 x1 x2 x4 y0 h = some r) : hj r.2 1316 = hj h 1316 := by
  unfold b_m_ready_120 at hf
  refine (hK52 _ _ _ _ _ _ hf).trans ?_
  first | (simp (disch := decide) only [hj_hsi, hj_hsj_ne, hj_hri]; done) | rfl
theorem j_b_m_ready_96 {K52 : Int32 → Int32 → Int32 → Int32 → XH → Option (Int32 × XH)} {x1 : Int32} {x2 : Int32} {x3 : Int32} {x4 : Int32} {y1 : Int32} {y2 : Int32} {h : XH} {r : Int32 × XH} (hK52 : ∀ (q0 : Int32) (q1 : Int32) (q2 : Int32) (q3 : Int32) (qh : XH) (qr : Int32 × XH), K52 q0 q1 q2 q3 qh = some qr → hj qr.2 1316 = hj qh 1316) (hf : b_m_ready_96 K52 x1 x2 x3 x4 y1 y2 h = some r) : hj r.2 1316 = hj h 1316 := by
  unfold b_m_ready_96 at hf
  obtain ⟨v1, e1, hf⟩ := xb_or hf
  replace e1 := j_f_m_two e1
  rcases xi_or hf with ⟨-, hf⟩ | ⟨-, hf⟩
  · rcases xi_or hf with ⟨-, hf⟩ | ⟨-, hf⟩
    · refine (j_b_m_ready_120 hK52 hf).trans ?_
      first | (simp (disch := decide) only [hj_hsi, hj_hsj_ne, hj_hri, e1]; done) | rfl
    · refine (j_b_m_ready_120 hK52 hf).trans ?_
      first | (simp (disch := decide) only [hj_hsi, hj_hsj_ne, hj_hri, e1]; done) | rfl
  · exact xn_or hf
theorem j_s_m_ready_52 {K52 : Int32 → Int32 → Int32 → Int32 → XH → Option (Int32 × XH)} {x1 : Int32} {x2 : Int32} {x3 : Int32} {x4 : Int32} {h : XH} {r : Int32 × XH} (hK52 : ∀ (q0 : Int32) (q1 : Int32) (q2 : Int32) (q3 : Int32) (qh : XH) (qr : Int32 × XH), K52 q0 q1 q2 q3 qh = some qr → hj qr.2 1316 = hj qh 1316) (hf : s_m_ready_52 K52 x1 x2 x3 x4 h = some r) : hj r.2 1316 = hj h 1316 := by
  unfold s_m_ready_52 at hf
  rcases xi_or hf with ⟨-, hf⟩ | ⟨-, hf⟩
  · rcases xi_or hf with ⟨-, hf⟩ | ⟨-, hf⟩
    · obtain ⟨v1, e1, hf⟩ := xb_or hf
      replace e1 := j_f_m_two e1
      obtain ⟨v2, e2, hf⟩ := xb_or hf
      replace e2 := j_f_m_two e2
      obtain ⟨v3, e3, hf⟩ := xb_or hf
      replace e3 := j_f_m_known e3
      obtain ⟨v4, e4, hf⟩ := xb_or hf
      replace e4 := j_f_m_fill e4
      rcases xi_or hf with ⟨-, hf⟩ | ⟨-, hf⟩
      · refine (j_b_m_ready_191 hf).trans ?_
        first | (simp (disch := decide) only [hj_hsi, hj_hsj_ne, hj_hri, e4, e3, e2, e1]; done) | rfl
      · rcases xi_or hf with ⟨-, hf⟩ | ⟨-, hf⟩
        · refine (j_b_m_ready_185 hf).trans ?_
          first | (simp (disch := decide) only [hj_hsi, hj_hsj_ne, hj_hri, e4, e3, e2, e1]; done) | rfl
        · refine (j_b_m_ready_185 hf).trans ?_
          first | (simp (disch := decide) only [hj_hsi, hj_hsj_ne, hj_hri, e4, e3, e2, e1]; done) | rfl
    · rcases xi_or hf with ⟨-, hf⟩ | ⟨-, hf⟩
      · rcases xi_or hf with ⟨-, hf⟩ | ⟨-, hf⟩
        · refine (j_b_m_ready_96 hK52 hf).trans ?_
          first | (simp (disch := decide) only [hj_hsi, hj_hsj_ne, hj_hri]; done) | rfl
        · refine (j_b_m_ready_96 hK52 hf).trans ?_
          first | (simp (disch := decide) only [hj_hsi, hj_hsj_ne, hj_hri]; done) | rfl
      · exact xn_or hf
  · exact xn_or hf
theorem j_b_m_ready_52   : ∀ {n : Nat} {q0 : Int32} {q1 : Int32} {q2 : Int32} {q3 : Int32} {h : XH} {r : Int32 × XH}, b_m_ready_52  n q0 q1 q2 q3 h = some r → hj r.2 1316 = hj h 1316 := by
  intro n
  induction n with
  | zero => intro _ _ _ _ _ _ hf; cases hf
  | succ n ih => intro _ _ _ _ _ _ hf; exact j_s_m_ready_52 (fun _ _ _ _ _ _ e => ih e) hf
theorem j_b_m_ready_20 {h : XH} {r : Int32 × XH}  (hf : b_m_ready_20 h = some r) : hj r.2 1316 = hj h 1316 := by
  unfold b_m_ready_20 at hf
  obtain rfl := Option.some.inj hf
  first | (simp (disch := decide) only [hj_hsi, hj_hsj_ne, hj_hri]; done) | rfl
theorem j_f_m_ready {h : XH} {r : Int32 × XH}  (hf : f_m_ready h = some r) : hj r.2 1316 = hj h 1316 := by
  unfold f_m_ready at hf
  rcases xi_or hf with ⟨-, hf⟩ | ⟨-, hf⟩
  · refine (j_b_m_ready_20 hf).trans ?_
    first | (simp (disch := decide) only [hj_hsi, hj_hsj_ne, hj_hri]; done) | rfl
  · obtain ⟨v1, e1, hf⟩ := xb_or hf
    replace e1 := j_f_m_lacks e1
    rcases xi_or hf with ⟨-, hf⟩ | ⟨-, hf⟩
    · obtain ⟨v2, e2, hf⟩ := xb_or hf
      replace e2 := j_f_m_fill e2
      refine (j_b_m_ready_52 hf).trans ?_
      first | (simp (disch := decide) only [hj_hsi, hj_hsj_ne, hj_hri, e2, e1]; done) | rfl
    · refine (j_b_m_ready_20 hf).trans ?_
      first | (simp (disch := decide) only [hj_hsi, hj_hsj_ne, hj_hri, e1]; done) | rfl
theorem j_s_m_finish_104 {K104 : Int32 → XH → Option (Int32 × XH)} {x3 : Int32} {h : XH} {r : Int32 × XH} (hK104 : ∀ (q0 : Int32) (qh : XH) (qr : Int32 × XH), K104 q0 qh = some qr → hj qr.2 1316 = hj qh 1316) (hf : s_m_finish_104 K104 x3 h = some r) : hj r.2 1316 = hj h 1316 := by
  unfold s_m_finish_104 at hf
  rcases xi_or hf with ⟨-, hf⟩ | ⟨-, hf⟩
  · obtain ⟨v1, e1, hf⟩ := xb_or hf
    replace e1 := j_f_m_empty e1
    obtain rfl := Option.some.inj hf
    first | (simp (disch := decide) only [hj_hsi, hj_hsj_ne, hj_hri, e1]; done) | rfl
  · rcases xi_or hf with ⟨-, hf⟩ | ⟨-, hf⟩
    · rcases xi_or hf with ⟨-, hf⟩ | ⟨-, hf⟩
      · refine (hK104 _ _ _ hf).trans ?_
        first | (simp (disch := decide) only [hj_hsi, hj_hsj_ne, hj_hri]; done) | rfl
      · exact xn_or hf
    · exact xn_or hf
theorem j_b_m_finish_104   : ∀ {n : Nat} {q0 : Int32} {h : XH} {r : Int32 × XH}, b_m_finish_104  n q0 h = some r → hj r.2 1316 = hj h 1316 := by
  intro n
  induction n with
  | zero => intro _ _ _ hf; cases hf
  | succ n ih => intro _ _ _ hf; exact j_s_m_finish_104 (fun _ _ _ e => ih e) hf
theorem j_b_m_finish_42 {h : XH} {r : Int32 × XH}  (hf : b_m_finish_42 h = some r) : hj r.2 1316 = hj h 1316 := by
  unfold b_m_finish_42 at hf
  obtain rfl := Option.some.inj hf
  first | (simp (disch := decide) only [hj_hsi, hj_hsj_ne, hj_hri]; done) | rfl
theorem j_f_m_finish {a0 : Int32} {h : XH} {r : Int32 × XH}  (hf : f_m_finish a0 h = some r) : hj r.2 1316 = hj h 1316 := by
  unfold f_m_finish at hf
  rcases xi_or hf with ⟨-, hf⟩ | ⟨-, hf⟩
  · rcases xi_or hf with ⟨-, hf⟩ | ⟨-, hf⟩
    · refine (j_b_m_finish_42 hf).trans ?_
      first | (simp (disch := decide) only [hj_hsi, hj_hsj_ne, hj_hri]; done) | rfl
    · obtain ⟨v1, e1, hf⟩ := xb_or hf
      replace e1 := j_f_m_isThing e1
      rcases xi_or hf with ⟨-, hf⟩ | ⟨-, hf⟩
      · obtain ⟨v2, e2, hf⟩ := xb_or hf
        replace e2 := j_f_m_fill e2
        rcases xi_or hf with ⟨-, hf⟩ | ⟨-, hf⟩
        · obtain ⟨v3, e3, hf⟩ := xb_or hf
          replace e3 := j_f_m_zeros e3
          obtain ⟨v4, e4, hf⟩ := xb_or hf
          replace e4 := j_f_m_reference e4
          refine (j_b_m_finish_104 hf).trans ?_
          first | (simp (disch := decide) only [hj_hsi, hj_hsj_ne, hj_hri, e4, e3, e2, e1]; done) | rfl
        · obtain rfl := Option.some.inj hf
          first | (simp (disch := decide) only [hj_hsi, hj_hsj_ne, hj_hri, e2, e1]; done) | rfl
      · refine (j_b_m_finish_42 hf).trans ?_
        first | (simp (disch := decide) only [hj_hsi, hj_hsj_ne, hj_hri, e1]; done) | rfl
  · obtain rfl := Option.some.inj hf
    first | (simp (disch := decide) only [hj_hsi, hj_hsj_ne, hj_hri]; done) | rfl
theorem j_f_m_wrong {a0 : Int32} {a1 : Int32} {h : XH} {r : Unit × XH}  (hf : f_m_wrong a0 a1 h = some r) : hj r.2 1316 = hj h 1316 := by
  unfold f_m_wrong at hf
  rcases xi_or hf with ⟨-, hf⟩ | ⟨-, hf⟩
  · obtain rfl := Option.some.inj hf
    first | (simp (disch := decide) only [hj_hsi, hj_hsj_ne, hj_hri]; done) | rfl
  · obtain rfl := Option.some.inj hf
    first | (simp (disch := decide) only [hj_hsi, hj_hsj_ne, hj_hri]; done) | rfl
theorem j_s_m_number_7 {K7 : Int32 → Int64 → Int32 → XH → Option (Int64 × XH)} {x1 : Int32} {x3 : Int64} {x5 : Int32} {h : XH} {r : Int64 × XH} (hK7 : ∀ (q0 : Int32) (q1 : Int64) (q2 : Int32) (qh : XH) (qr : Int64 × XH), K7 q0 q1 q2 qh = some qr → hj qr.2 1316 = hj qh 1316) (hf : s_m_number_7 K7 x1 x3 x5 h = some r) : hj r.2 1316 = hj h 1316 := by
  unfold s_m_number_7 at hf
  rcases xi_or hf with ⟨-, hf⟩ | ⟨-, hf⟩
  · obtain rfl := Option.some.inj hf
    first | (simp (disch := decide) only [hj_hsi, hj_hsj_ne, hj_hri]; done) | rfl
  · rcases xi_or hf with ⟨-, hf⟩ | ⟨-, hf⟩
    · refine (hK7 _ _ _ _ _ hf).trans ?_
      first | (simp (disch := decide) only [hj_hsi, hj_hsj_ne, hj_hri]; done) | rfl
    · exact xn_or hf
theorem j_b_m_number_7   : ∀ {n : Nat} {q0 : Int32} {q1 : Int64} {q2 : Int32} {h : XH} {r : Int64 × XH}, b_m_number_7  n q0 q1 q2 h = some r → hj r.2 1316 = hj h 1316 := by
  intro n
  induction n with
  | zero => intro _ _ _ _ _ hf; cases hf
  | succ n ih => intro _ _ _ _ _ hf; exact j_s_m_number_7 (fun _ _ _ _ _ e => ih e) hf
theorem j_f_m_number {a0 : Int32} {a1 : Int32} {h : XH} {r : Int64 × XH}  (hf : f_m_number a0 a1 h = some r) : hj r.2 1316 = hj h 1316 := by
  unfold f_m_number at hf
  refine (j_b_m_number_7 hf).trans ?_
  first | (simp (disch := decide) only [hj_hsi, hj_hsj_ne, hj_hri]; done) | rfl
theorem j_f_m_far {a0 : Int32} {a1 : Int32} {h : XH} {r : Int32 × XH}  (hf : f_m_far a0 a1 h = some r) : hj r.2 1316 = hj h 1316 := by
  unfold f_m_far at hf
  obtain ⟨v1, e1, hf⟩ := xb_or hf
  replace e1 := j_f_m_number e1
  rcases xi_or hf with ⟨-, hf⟩ | ⟨-, hf⟩
  · obtain ⟨v2, e2, hf⟩ := xb_or hf
    replace e2 := j_f_m_number e2
    obtain rfl := Option.some.inj hf
    first | (simp (disch := decide) only [hj_hsi, hj_hsj_ne, hj_hri, e2, e1]; done) | rfl
  · obtain rfl := Option.some.inj hf
    first | (simp (disch := decide) only [hj_hsi, hj_hsj_ne, hj_hri, e1]; done) | rfl
theorem j_b_m_judgeValue_98 {K19 : Int32 → Int32 → Int32 → Int32 → Int32 → XH → Option (Unit × XH)} {x1 : Int32} {x2 : Int32} {x3 : Int32} {x4 : Int32} {x5 : Int32} {h : XH} {r : Unit × XH} (hK19 : ∀ (q0 : Int32) (q1 : Int32) (q2 : Int32) (q3 : Int32) (q4 : Int32) (qh : XH) (qr : Unit × XH), K19 q0 q1 q2 q3 q4 qh = some qr → hj qr.2 1316 = hj qh 1316) (hf : b_m_judgeValue_98 K19 x1 x2 x3 x4 x5 h = some r) : hj r.2 1316 = hj h 1316 := by
  unfold b_m_judgeValue_98 at hf
  refine (hK19 _ _ _ _ _ _ _ hf).trans ?_
  first | (simp (disch := decide) only [hj_hsi, hj_hsj_ne, hj_hri]; done) | rfl
theorem j_b_m_judgeValue_71 {K19 : Int32 → Int32 → Int32 → Int32 → Int32 → XH → Option (Unit × XH)} {x1 : Int32} {x2 : Int32} {x3 : Int32} {x4 : Int32} {x5 : Int32} {x6 : Int32} {y0 : Int32} {y1 : Int32} {h : XH} {r : Unit × XH} (hK19 : ∀ (q0 : Int32) (q1 : Int32) (q2 : Int32) (q3 : Int32) (q4 : Int32) (qh : XH) (qr : Unit × XH), K19 q0 q1 q2 q3 q4 qh = some qr → hj qr.2 1316 = hj qh 1316) (hf : b_m_judgeValue_71 K19 x1 x2 x3 x4 x5 x6 y0 y1 h = some r) : hj r.2 1316 = hj h 1316 := by
  unfold b_m_judgeValue_71 at hf
  rcases xi_or hf with ⟨-, hf⟩ | ⟨-, hf⟩
  · refine (j_b_m_judgeValue_98 hK19 hf).trans ?_
    first | (simp (disch := decide) only [hj_hsi, hj_hsj_ne, hj_hri]; done) | rfl
  · rcases xi_or hf with ⟨-, hf⟩ | ⟨-, hf⟩
    · rcases xi_or hf with ⟨-, hf⟩ | ⟨-, hf⟩
      · refine (j_b_m_judgeValue_98 hK19 hf).trans ?_
        first | (simp (disch := decide) only [hj_hsi, hj_hsj_ne, hj_hri]; done) | rfl
      · obtain ⟨v1, e1, hf⟩ := xb_or hf
        replace e1 := j_f_m_wrong e1
        refine (j_b_m_judgeValue_98 hK19 hf).trans ?_
        first | (simp (disch := decide) only [hj_hsi, hj_hsj_ne, hj_hri, e1]; done) | rfl
    · exact xn_or hf
theorem j_b_m_judgeValue_47 {K19 : Int32 → Int32 → Int32 → Int32 → Int32 → XH → Option (Unit × XH)} {x1 : Int32} {x2 : Int32} {x3 : Int32} {x4 : Int32} {x5 : Int32} {y0 : Int32} {h : XH} {r : Unit × XH} (hK19 : ∀ (q0 : Int32) (q1 : Int32) (q2 : Int32) (q3 : Int32) (q4 : Int32) (qh : XH) (qr : Unit × XH), K19 q0 q1 q2 q3 q4 qh = some qr → hj qr.2 1316 = hj qh 1316) (hf : b_m_judgeValue_47 K19 x1 x2 x3 x4 x5 y0 h = some r) : hj r.2 1316 = hj h 1316 := by
  unfold b_m_judgeValue_47 at hf
  rcases xi_or hf with ⟨-, hf⟩ | ⟨-, hf⟩
  · rcases xi_or hf with ⟨-, hf⟩ | ⟨-, hf⟩
    · refine (j_b_m_judgeValue_71 hK19 hf).trans ?_
      first | (simp (disch := decide) only [hj_hsi, hj_hsj_ne, hj_hri]; done) | rfl
    · exact xn_or hf
  · refine (j_b_m_judgeValue_71 hK19 hf).trans ?_
    first | (simp (disch := decide) only [hj_hsi, hj_hsj_ne, hj_hri]; done) | rfl
theorem j_s_m_judgeValue_19 {K19 : Int32 → Int32 → Int32 → Int32 → Int32 → XH → Option (Unit × XH)} {x1 : Int32} {x2 : Int32} {x3 : Int32} {x4 : Int32} {x5 : Int32} {h : XH} {r : Unit × XH} (hK19 : ∀ (q0 : Int32) (q1 : Int32) (q2 : Int32) (q3 : Int32) (q4 : Int32) (qh : XH) (qr : Unit × XH), K19 q0 q1 q2 q3 q4 qh = some qr → hj qr.2 1316 = hj qh 1316) (hf : s_m_judgeValue_19 K19 x1 x2 x3 x4 x5 h = some r) : hj r.2 1316 = hj h 1316 := by
  unfold s_m_judgeValue_19 at hf
  rcases xi_or hf with ⟨-, hf⟩ | ⟨-, hf⟩
  · obtain rfl := Option.some.inj hf
    first | (simp (disch := decide) only [hj_hsi, hj_hsj_ne, hj_hri]; done) | rfl
  · rcases xi_or hf with ⟨-, hf⟩ | ⟨-, hf⟩
    · rcases xi_or hf with ⟨-, hf⟩ | ⟨-, hf⟩
      · refine (j_b_m_judgeValue_47 hK19 hf).trans ?_
        first | (simp (disch := decide) only [hj_hsi, hj_hsj_ne, hj_hri]; done) | rfl
      · exact xn_or hf
    · refine (j_b_m_judgeValue_47 hK19 hf).trans ?_
      first | (simp (disch := decide) only [hj_hsi, hj_hsj_ne, hj_hri]; done) | rfl
theorem j_b_m_judgeValue_19   : ∀ {n : Nat} {q0 : Int32} {q1 : Int32} {q2 : Int32} {q3 : Int32} {q4 : Int32} {h : XH} {r : Unit × XH}, b_m_judgeValue_19  n q0 q1 q2 q3 q4 h = some r → hj r.2 1316 = hj h 1316 := by
  intro n
  induction n with
  | zero => intro _ _ _ _ _ _ _ hf; cases hf
  | succ n ih => intro _ _ _ _ _ _ _ hf; exact j_s_m_judgeValue_19 (fun _ _ _ _ _ _ _ e => ih e) hf
theorem j_b_m_judgeValue_14 {x1 : Int32} {x2 : Int32} {x3 : Int32} {y0 : Int32} {h : XH} {r : Unit × XH}  (hf : b_m_judgeValue_14 x1 x2 x3 y0 h = some r) : hj r.2 1316 = hj h 1316 := by
  unfold b_m_judgeValue_14 at hf
  refine (j_b_m_judgeValue_19 hf).trans ?_
  first | (simp (disch := decide) only [hj_hsi, hj_hsj_ne, hj_hri]; done) | rfl
theorem j_f_m_judgeValue {a0 : Int32} {a1 : Int32} {a2 : Int32} {h : XH} {r : Unit × XH}  (hf : f_m_judgeValue a0 a1 a2 h = some r) : hj r.2 1316 = hj h 1316 := by
  unfold f_m_judgeValue at hf
  rcases xi_or hf with ⟨-, hf⟩ | ⟨-, hf⟩
  · rcases xi_or hf with ⟨-, hf⟩ | ⟨-, hf⟩
    · refine (j_b_m_judgeValue_14 hf).trans ?_
      first | (simp (disch := decide) only [hj_hsi, hj_hsj_ne, hj_hri]; done) | rfl
    · exact xn_or hf
  · refine (j_b_m_judgeValue_14 hf).trans ?_
    first | (simp (disch := decide) only [hj_hsi, hj_hsj_ne, hj_hri]; done) | rfl
theorem j_b_m_stood_68 {x1 : Int32} {x7 : Int32} {h : XH} {r : Int32 × XH}  (hf : b_m_stood_68 x1 x7 h = some r) : hj r.2 1316 = hj h 1316 := by
  unfold b_m_stood_68 at hf
  obtain rfl := Option.some.inj hf
  first | (simp (disch := decide) only [hj_hsi, hj_hsj_ne, hj_hri]; done) | rfl
theorem j_b_m_stood_40 {x1 : Int32} {x6 : Int32} {x7 : Int32} {h : XH} {r : Int32 × XH}  (hf : b_m_stood_40 x1 x6 x7 h = some r) : hj r.2 1316 = hj h 1316 := by
  unfold b_m_stood_40 at hf
  obtain ⟨v1, e1, hf⟩ := xb_or hf
  replace e1 := j_f_m_wrong e1
  refine (j_b_m_stood_68 hf).trans ?_
  first | (simp (disch := decide) only [hj_hsi, hj_hsj_ne, hj_hri, e1]; done) | rfl
theorem j_f_m_stood {a0 : Int32} {a1 : Int32} {a2 : Int32} {a3 : Int32} {a4 : Int32} {h : XH} {r : Int32 × XH}  (hf : f_m_stood a0 a1 a2 a3 a4 h = some r) : hj r.2 1316 = hj h 1316 := by
  unfold f_m_stood at hf
  obtain ⟨v1, e1, hf⟩ := xb_or hf
  replace e1 := j_f_m_far e1
  rcases xi_or hf with ⟨-, hf⟩ | ⟨-, hf⟩
  · refine (j_b_m_stood_40 hf).trans ?_
    first | (simp (disch := decide) only [hj_hsi, hj_hsj_ne, hj_hri, e1]; done) | rfl
  · obtain ⟨v2, e2, hf⟩ := xb_or hf
    replace e2 := j_f_m_number e2
    rcases xi_or hf with ⟨-, hf⟩ | ⟨-, hf⟩
    · rcases xi_or hf with ⟨-, hf⟩ | ⟨-, hf⟩
      · rcases xi_or hf with ⟨-, hf⟩ | ⟨-, hf⟩
        · refine (j_b_m_stood_68 hf).trans ?_
          first | (simp (disch := decide) only [hj_hsi, hj_hsj_ne, hj_hri, e2, e1]; done) | rfl
        · obtain ⟨v3, e3, hf⟩ := xb_or hf
          replace e3 := j_f_m_wrong e3
          refine (j_b_m_stood_68 hf).trans ?_
          first | (simp (disch := decide) only [hj_hsi, hj_hsj_ne, hj_hri, e3, e2, e1]; done) | rfl
      · exact xn_or hf
    · refine (j_b_m_stood_40 hf).trans ?_
      first | (simp (disch := decide) only [hj_hsi, hj_hsj_ne, hj_hri, e2, e1]; done) | rfl
