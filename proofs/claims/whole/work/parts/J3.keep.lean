/-! No method of the model touches the law's own cell (more) -/
theorem j_b_m_led_58 {x1 : Int32} {x2 : Int64} {h : XH} {r : Int32 × XH}  (hf : b_m_led_58 x1 x2 h = some r) : hj r.2 1316 = hj h 1316 := by
  unfold b_m_led_58 at hf
  rcases xi_or hf with ⟨-, hf⟩ | ⟨-, hf⟩
  · obtain rfl := Option.some.inj hf
    first | (simp (disch := decide) only [hj_hsi, hj_hsj_ne, hj_hri]; done) | rfl
  · obtain rfl := Option.some.inj hf
    first | (simp (disch := decide) only [hj_hsi, hj_hsj_ne, hj_hri]; done) | rfl
theorem j_b_m_led_30 {x1 : Int32} {x2 : Int64} {h : XH} {r : Int32 × XH}  (hf : b_m_led_30 x1 x2 h = some r) : hj r.2 1316 = hj h 1316 := by
  unfold b_m_led_30 at hf
  obtain ⟨v1, e1, hf⟩ := xb_or hf
  replace e1 := j_f_m_wrong e1
  refine (j_b_m_led_58 hf).trans ?_
  first | (simp (disch := decide) only [hj_hsi, hj_hsj_ne, hj_hri, e1]; done) | rfl
theorem j_f_m_led {a0 : Int32} {h : XH} {r : Int32 × XH}  (hf : f_m_led a0 h = some r) : hj r.2 1316 = hj h 1316 := by
  unfold f_m_led at hf
  obtain ⟨v1, e1, hf⟩ := xb_or hf
  replace e1 := j_f_m_number e1
  rcases xi_or hf with ⟨-, hf⟩ | ⟨-, hf⟩
  · refine (j_b_m_led_30 hf).trans ?_
    first | (simp (disch := decide) only [hj_hsi, hj_hsj_ne, hj_hri, e1]; done) | rfl
  · rcases xi_or hf with ⟨-, hf⟩ | ⟨-, hf⟩
    · rcases xi_or hf with ⟨-, hf⟩ | ⟨-, hf⟩
      · refine (j_b_m_led_58 hf).trans ?_
        first | (simp (disch := decide) only [hj_hsi, hj_hsj_ne, hj_hri, e1]; done) | rfl
      · obtain ⟨v2, e2, hf⟩ := xb_or hf
        replace e2 := j_f_m_wrong e2
        refine (j_b_m_led_58 hf).trans ?_
        first | (simp (disch := decide) only [hj_hsi, hj_hsj_ne, hj_hri, e2, e1]; done) | rfl
    · refine (j_b_m_led_30 hf).trans ?_
      first | (simp (disch := decide) only [hj_hsi, hj_hsj_ne, hj_hri, e1]; done) | rfl
theorem j_f_m_toText {a0 : Int32} {h : XH} {r : Unit × XH}  (hf : f_m_toText a0 h = some r) : hj r.2 1316 = hj h 1316 := by
  unfold f_m_toText at hf
  obtain ⟨v1, e1, hf⟩ := xb_or hf
  replace e1 := j_f_m_led e1
  rcases xi_or hf with ⟨-, hf⟩ | ⟨-, hf⟩
  · obtain ⟨v2, e2, hf⟩ := xb_or hf
    replace e2 := j_f_m_number e2
    rcases xi_or hf with ⟨-, hf⟩ | ⟨-, hf⟩
    · rcases xi_or hf with ⟨-, hf⟩ | ⟨-, hf⟩
      · rcases xi_or hf with ⟨-, hf⟩ | ⟨-, hf⟩
        · obtain rfl := Option.some.inj hf
          first | (simp (disch := decide) only [hj_hsi, hj_hsj_ne, hj_hri, e2, e1]; done) | rfl
        · obtain ⟨v3, e3, hf⟩ := xb_or hf
          replace e3 := j_f_m_wrong e3
          obtain rfl := Option.some.inj hf
          first | (simp (disch := decide) only [hj_hsi, hj_hsj_ne, hj_hri, e3, e2, e1]; done) | rfl
      · exact xn_or hf
    · obtain ⟨v4, e4, hf⟩ := xb_or hf
      replace e4 := j_f_m_wrong e4
      obtain rfl := Option.some.inj hf
      first | (simp (disch := decide) only [hj_hsi, hj_hsj_ne, hj_hri, e4, e2, e1]; done) | rfl
  · obtain rfl := Option.some.inj hf
    first | (simp (disch := decide) only [hj_hsi, hj_hsj_ne, hj_hri, e1]; done) | rfl
theorem j_b_m_toVector_205 {KT : Int32 → Int32 → Int32 → XH → Option (Unit × XH)} {K132 : Int32 → Int32 → Int32 → Int32 → Int32 → Int64 → Int32 → XH → Option (Unit × XH)} {x2 : Int32} {x3 : Int32} {x4 : Int32} {x5 : Int32} {x6 : Int32} {x8 : Int64} {x10 : Int32} {h : XH} {r : Unit × XH} (hKT : ∀ (q0 : Int32) (q1 : Int32) (q2 : Int32) (qh : XH) (qr : Unit × XH), KT q0 q1 q2 qh = some qr → hj qr.2 1316 = hj qh 1316) (hK132 : ∀ (q0 : Int32) (q1 : Int32) (q2 : Int32) (q3 : Int32) (q4 : Int32) (q5 : Int64) (q6 : Int32) (qh : XH) (qr : Unit × XH), K132 q0 q1 q2 q3 q4 q5 q6 qh = some qr → hj qr.2 1316 = hj qh 1316) (hf : b_m_toVector_205 KT K132 x2 x3 x4 x5 x6 x8 x10 h = some r) : hj r.2 1316 = hj h 1316 := by
  unfold b_m_toVector_205 at hf
  refine (hK132 _ _ _ _ _ _ _ _ _ hf).trans ?_
  first | (simp (disch := decide) only [hj_hsi, hj_hsj_ne, hj_hri]; done) | rfl
theorem j_b_m_toVector_169 {KT : Int32 → Int32 → Int32 → XH → Option (Unit × XH)} {K132 : Int32 → Int32 → Int32 → Int32 → Int32 → Int64 → Int32 → XH → Option (Unit × XH)} {x2 : Int32} {x3 : Int32} {x4 : Int32} {x5 : Int32} {x6 : Int32} {x8 : Int64} {x10 : Int32} {x11 : Int32} {h : XH} {r : Unit × XH} (hKT : ∀ (q0 : Int32) (q1 : Int32) (q2 : Int32) (qh : XH) (qr : Unit × XH), KT q0 q1 q2 qh = some qr → hj qr.2 1316 = hj qh 1316) (hK132 : ∀ (q0 : Int32) (q1 : Int32) (q2 : Int32) (q3 : Int32) (q4 : Int32) (q5 : Int64) (q6 : Int32) (qh : XH) (qr : Unit × XH), K132 q0 q1 q2 q3 q4 q5 q6 qh = some qr → hj qr.2 1316 = hj qh 1316) (hf : b_m_toVector_169 KT K132 x2 x3 x4 x5 x6 x8 x10 x11 h = some r) : hj r.2 1316 = hj h 1316 := by
  unfold b_m_toVector_169 at hf
  obtain ⟨v1, e1, hf⟩ := xb_or hf
  replace e1 := j_f_m_judgeValue e1
  refine (j_b_m_toVector_205 hKT hK132 hf).trans ?_
  first | (simp (disch := decide) only [hj_hsi, hj_hsj_ne, hj_hri, e1]; done) | rfl
theorem j_s_m_toVector_132 {KT : Int32 → Int32 → Int32 → XH → Option (Unit × XH)} {K132 : Int32 → Int32 → Int32 → Int32 → Int32 → Int64 → Int32 → XH → Option (Unit × XH)} {x2 : Int32} {x3 : Int32} {x4 : Int32} {x5 : Int32} {x6 : Int32} {x8 : Int64} {x10 : Int32} {h : XH} {r : Unit × XH} (hKT : ∀ (q0 : Int32) (q1 : Int32) (q2 : Int32) (qh : XH) (qr : Unit × XH), KT q0 q1 q2 qh = some qr → hj qr.2 1316 = hj qh 1316) (hK132 : ∀ (q0 : Int32) (q1 : Int32) (q2 : Int32) (q3 : Int32) (q4 : Int32) (q5 : Int64) (q6 : Int32) (qh : XH) (qr : Unit × XH), K132 q0 q1 q2 q3 q4 q5 q6 qh = some qr → hj qr.2 1316 = hj qh 1316) (hf : s_m_toVector_132 KT K132 x2 x3 x4 x5 x6 x8 x10 h = some r) : hj r.2 1316 = hj h 1316 := by
  unfold s_m_toVector_132 at hf
  rcases xi_or hf with ⟨-, hf⟩ | ⟨-, hf⟩
  · obtain rfl := Option.some.inj hf
    first | (simp (disch := decide) only [hj_hsi, hj_hsj_ne, hj_hri]; done) | rfl
  · rcases xi_or hf with ⟨-, hf⟩ | ⟨-, hf⟩
    · obtain rfl := Option.some.inj hf
      first | (simp (disch := decide) only [hj_hsi, hj_hsj_ne, hj_hri]; done) | rfl
    · rcases xi_or hf with ⟨-, hf⟩ | ⟨-, hf⟩
      · refine (j_b_m_toVector_169 hKT hK132 hf).trans ?_
        first | (simp (disch := decide) only [hj_hsi, hj_hsj_ne, hj_hri]; done) | rfl
      · rcases xi_or hf with ⟨-, hf⟩ | ⟨-, hf⟩
        · rcases xi_or hf with ⟨-, hf⟩ | ⟨-, hf⟩
          · obtain ⟨v1, e1, hf⟩ := xb_or hf
            replace e1 := hKT _ _ _ _ _ e1
            refine (j_b_m_toVector_205 hKT hK132 hf).trans ?_
            first | (simp (disch := decide) only [hj_hsi, hj_hsj_ne, hj_hri, e1]; done) | rfl
          · obtain ⟨v2, e2, hf⟩ := xb_or hf
            replace e2 := j_f_m_toText e2
            refine (j_b_m_toVector_205 hKT hK132 hf).trans ?_
            first | (simp (disch := decide) only [hj_hsi, hj_hsj_ne, hj_hri, e2]; done) | rfl
        · refine (j_b_m_toVector_169 hKT hK132 hf).trans ?_
          first | (simp (disch := decide) only [hj_hsi, hj_hsj_ne, hj_hri]; done) | rfl
theorem j_b_m_toVector_132 {KT : Int32 → Int32 → Int32 → XH → Option (Unit × XH)} (hKT : ∀ (q0 : Int32) (q1 : Int32) (q2 : Int32) (qh : XH) (qr : Unit × XH), KT q0 q1 q2 qh = some qr → hj qr.2 1316 = hj qh 1316) : ∀ {n : Nat} {q0 : Int32} {q1 : Int32} {q2 : Int32} {q3 : Int32} {q4 : Int32} {q5 : Int64} {q6 : Int32} {h : XH} {r : Unit × XH}, b_m_toVector_132 KT n q0 q1 q2 q3 q4 q5 q6 h = some r → hj r.2 1316 = hj h 1316 := by
  intro n
  induction n with
  | zero => intro _ _ _ _ _ _ _ _ _ hf; cases hf
  | succ n ih => intro _ _ _ _ _ _ _ _ _ hf; exact j_s_m_toVector_132 hKT (fun _ _ _ _ _ _ _ _ _ e => ih e) hf
theorem j_b_m_toVector_129 {KT : Int32 → Int32 → Int32 → XH → Option (Unit × XH)} {x2 : Int32} {x3 : Int32} {x4 : Int32} {x5 : Int32} {x6 : Int32} {x8 : Int64} {h : XH} {r : Unit × XH} (hKT : ∀ (q0 : Int32) (q1 : Int32) (q2 : Int32) (qh : XH) (qr : Unit × XH), KT q0 q1 q2 qh = some qr → hj qr.2 1316 = hj qh 1316) (hf : b_m_toVector_129 KT x2 x3 x4 x5 x6 x8 h = some r) : hj r.2 1316 = hj h 1316 := by
  unfold b_m_toVector_129 at hf
  refine (j_b_m_toVector_132 hKT hf).trans ?_
  first | (simp (disch := decide) only [hj_hsi, hj_hsj_ne, hj_hri]; done) | rfl
theorem j_b_m_toVector_67 {KT : Int32 → Int32 → Int32 → XH → Option (Unit × XH)} {x2 : Int32} {x3 : Int32} {x4 : Int32} {x5 : Int32} {x6 : Int32} {y0 : Int32} {h : XH} {r : Unit × XH} (hKT : ∀ (q0 : Int32) (q1 : Int32) (q2 : Int32) (qh : XH) (qr : Unit × XH), KT q0 q1 q2 qh = some qr → hj qr.2 1316 = hj qh 1316) (hf : b_m_toVector_67 KT x2 x3 x4 x5 x6 y0 h = some r) : hj r.2 1316 = hj h 1316 := by
  unfold b_m_toVector_67 at hf
  obtain ⟨v1, e1, hf⟩ := xb_or hf
  replace e1 := j_f_m_number e1
  rcases xi_or hf with ⟨-, hf⟩ | ⟨-, hf⟩
  · rcases xi_or hf with ⟨-, hf⟩ | ⟨-, hf⟩
    · rcases xi_or hf with ⟨-, hf⟩ | ⟨-, hf⟩
      · refine (j_b_m_toVector_129 hKT hf).trans ?_
        first | (simp (disch := decide) only [hj_hsi, hj_hsj_ne, hj_hri, e1]; done) | rfl
      · obtain ⟨v2, e2, hf⟩ := xb_or hf
        replace e2 := j_f_m_wrong e2
        refine (j_b_m_toVector_129 hKT hf).trans ?_
        first | (simp (disch := decide) only [hj_hsi, hj_hsj_ne, hj_hri, e2, e1]; done) | rfl
    · obtain ⟨v3, e3, hf⟩ := xb_or hf
      replace e3 := j_f_m_wrong e3
      refine (j_b_m_toVector_129 hKT hf).trans ?_
      first | (simp (disch := decide) only [hj_hsi, hj_hsj_ne, hj_hri, e3, e1]; done) | rfl
  · exact xn_or hf
theorem j_b_m_toVector_41 {KT : Int32 → Int32 → Int32 → XH → Option (Unit × XH)} {x2 : Int32} {x3 : Int32} {x4 : Int32} {x5 : Int32} {y0 : Int32} {h : XH} {r : Unit × XH} (hKT : ∀ (q0 : Int32) (q1 : Int32) (q2 : Int32) (qh : XH) (qr : Unit × XH), KT q0 q1 q2 qh = some qr → hj qr.2 1316 = hj qh 1316) (hf : b_m_toVector_41 KT x2 x3 x4 x5 y0 h = some r) : hj r.2 1316 = hj h 1316 := by
  unfold b_m_toVector_41 at hf
  rcases xi_or hf with ⟨-, hf⟩ | ⟨-, hf⟩
  · rcases xi_or hf with ⟨-, hf⟩ | ⟨-, hf⟩
    · refine (j_b_m_toVector_67 hKT hf).trans ?_
      first | (simp (disch := decide) only [hj_hsi, hj_hsj_ne, hj_hri]; done) | rfl
    · rcases xi_or hf with ⟨-, hf⟩ | ⟨-, hf⟩
      · refine (j_b_m_toVector_67 hKT hf).trans ?_
        first | (simp (disch := decide) only [hj_hsi, hj_hsj_ne, hj_hri]; done) | rfl
      · exact xn_or hf
  · refine (j_b_m_toVector_67 hKT hf).trans ?_
    first | (simp (disch := decide) only [hj_hsi, hj_hsj_ne, hj_hri]; done) | rfl
theorem j_f_m_toVector {KT : Int32 → Int32 → Int32 → XH → Option (Unit × XH)} {a0 : Int32} {a1 : Int32} {a2 : Int32} {a3 : Int32} {h : XH} {r : Unit × XH} (hKT : ∀ (q0 : Int32) (q1 : Int32) (q2 : Int32) (qh : XH) (qr : Unit × XH), KT q0 q1 q2 qh = some qr → hj qr.2 1316 = hj qh 1316) (hf : f_m_toVector KT a0 a1 a2 a3 h = some r) : hj r.2 1316 = hj h 1316 := by
  unfold f_m_toVector at hf
  obtain ⟨v1, e1, hf⟩ := xb_or hf
  replace e1 := j_f_m_led e1
  rcases xi_or hf with ⟨-, hf⟩ | ⟨-, hf⟩
  · rcases xi_or hf with ⟨-, hf⟩ | ⟨-, hf⟩
    · rcases xi_or hf with ⟨-, hf⟩ | ⟨-, hf⟩
      · refine (j_b_m_toVector_41 hKT hf).trans ?_
        first | (simp (disch := decide) only [hj_hsi, hj_hsj_ne, hj_hri, e1]; done) | rfl
      · rcases xi_or hf with ⟨-, hf⟩ | ⟨-, hf⟩
        · refine (j_b_m_toVector_41 hKT hf).trans ?_
          first | (simp (disch := decide) only [hj_hsi, hj_hsj_ne, hj_hri, e1]; done) | rfl
        · exact xn_or hf
    · obtain ⟨v2, e2, hf⟩ := xb_or hf
      replace e2 := j_f_m_bytesOf e2
      refine (j_b_m_toVector_41 hKT hf).trans ?_
      first | (simp (disch := decide) only [hj_hsi, hj_hsj_ne, hj_hri, e2, e1]; done) | rfl
  · obtain rfl := Option.some.inj hf
    first | (simp (disch := decide) only [hj_hsi, hj_hsj_ne, hj_hri, e1]; done) | rfl
theorem j_b_m_judgeField_150 {KT : Int32 → Int32 → Int32 → XH → Option (Unit × XH)} {x3 : Int32} {x5 : Int32} {x8 : Int32} {h : XH} {r : Unit × XH} (hKT : ∀ (q0 : Int32) (q1 : Int32) (q2 : Int32) (qh : XH) (qr : Unit × XH), KT q0 q1 q2 qh = some qr → hj qr.2 1316 = hj qh 1316) (hf : b_m_judgeField_150 KT x3 x5 x8 h = some r) : hj r.2 1316 = hj h 1316 := by
  unfold b_m_judgeField_150 at hf
  rcases xi_or hf with ⟨-, hf⟩ | ⟨-, hf⟩
  · obtain ⟨v1, e1, hf⟩ := xb_or hf
    replace e1 := j_f_m_judgeValue e1
    obtain rfl := Option.some.inj hf
    first | (simp (disch := decide) only [hj_hsi, hj_hsj_ne, hj_hri, e1]; done) | rfl
  · exact xn_or hf
theorem j_b_m_judgeField_111 {KT : Int32 → Int32 → Int32 → XH → Option (Unit × XH)} {x1 : Int32} {x2 : Int32} {x3 : Int32} {x4 : Int32} {x5 : Int32} {x6 : Int32} {y0 : Int32} {h : XH} {r : Unit × XH} (hKT : ∀ (q0 : Int32) (q1 : Int32) (q2 : Int32) (qh : XH) (qr : Unit × XH), KT q0 q1 q2 qh = some qr → hj qr.2 1316 = hj qh 1316) (hf : b_m_judgeField_111 KT x1 x2 x3 x4 x5 x6 y0 h = some r) : hj r.2 1316 = hj h 1316 := by
  unfold b_m_judgeField_111 at hf
  rcases xi_or hf with ⟨-, hf⟩ | ⟨-, hf⟩
  · obtain ⟨v1, e1, hf⟩ := xb_or hf
    replace e1 := j_f_m_stood e1
    rcases xi_or hf with ⟨-, hf⟩ | ⟨-, hf⟩
    · rcases xi_or hf with ⟨-, hf⟩ | ⟨-, hf⟩
      · refine (j_b_m_judgeField_150 hKT hf).trans ?_
        first | (simp (disch := decide) only [hj_hsi, hj_hsj_ne, hj_hri, e1]; done) | rfl
      · rcases xi_or hf with ⟨-, hf⟩ | ⟨-, hf⟩
        · rcases xi_or hf with ⟨-, hf⟩ | ⟨-, hf⟩
          · rcases xi_or hf with ⟨-, hf⟩ | ⟨-, hf⟩
            · rcases xi_or hf with ⟨-, hf⟩ | ⟨-, hf⟩
              · obtain ⟨v2, e2, hf⟩ := xb_or hf
                replace e2 := j_f_m_toVector hKT e2
                obtain rfl := Option.some.inj hf
                first | (simp (disch := decide) only [hj_hsi, hj_hsj_ne, hj_hri, e2, e1]; done) | rfl
              · exact xn_or hf
            · rcases xi_or hf with ⟨-, hf⟩ | ⟨-, hf⟩
              · obtain ⟨v3, e3, hf⟩ := xb_or hf
                replace e3 := hKT _ _ _ _ _ e3
                obtain rfl := Option.some.inj hf
                first | (simp (disch := decide) only [hj_hsi, hj_hsj_ne, hj_hri, e3, e1]; done) | rfl
              · exact xn_or hf
          · obtain ⟨v4, e4, hf⟩ := xb_or hf
            replace e4 := j_f_m_toText e4
            obtain rfl := Option.some.inj hf
            first | (simp (disch := decide) only [hj_hsi, hj_hsj_ne, hj_hri, e4, e1]; done) | rfl
        · refine (j_b_m_judgeField_150 hKT hf).trans ?_
          first | (simp (disch := decide) only [hj_hsi, hj_hsj_ne, hj_hri, e1]; done) | rfl
    · obtain rfl := Option.some.inj hf
      first | (simp (disch := decide) only [hj_hsi, hj_hsj_ne, hj_hri, e1]; done) | rfl
  · exact xn_or hf
theorem j_b_m_judgeField_78 {KT : Int32 → Int32 → Int32 → XH → Option (Unit × XH)} {x1 : Int32} {x2 : Int32} {x3 : Int32} {x4 : Int32} {x5 : Int32} {y0 : Int32} {h : XH} {r : Unit × XH} (hKT : ∀ (q0 : Int32) (q1 : Int32) (q2 : Int32) (qh : XH) (qr : Unit × XH), KT q0 q1 q2 qh = some qr → hj qr.2 1316 = hj qh 1316) (hf : b_m_judgeField_78 KT x1 x2 x3 x4 x5 y0 h = some r) : hj r.2 1316 = hj h 1316 := by
  unfold b_m_judgeField_78 at hf
  rcases xi_or hf with ⟨-, hf⟩ | ⟨-, hf⟩
  · rcases xi_or hf with ⟨-, hf⟩ | ⟨-, hf⟩
    · refine (j_b_m_judgeField_111 hKT hf).trans ?_
      first | (simp (disch := decide) only [hj_hsi, hj_hsj_ne, hj_hri]; done) | rfl
    · rcases xi_or hf with ⟨-, hf⟩ | ⟨-, hf⟩
      · rcases xi_or hf with ⟨-, hf⟩ | ⟨-, hf⟩
        · refine (j_b_m_judgeField_111 hKT hf).trans ?_
          first | (simp (disch := decide) only [hj_hsi, hj_hsj_ne, hj_hri]; done) | rfl
        · exact xn_or hf
      · exact xn_or hf
  · refine (j_b_m_judgeField_111 hKT hf).trans ?_
    first | (simp (disch := decide) only [hj_hsi, hj_hsj_ne, hj_hri]; done) | rfl
theorem j_f_m_judgeField {KT : Int32 → Int32 → Int32 → XH → Option (Unit × XH)} {a0 : Int32} {a1 : Int32} {a2 : Int32} {a3 : Int32} {h : XH} {r : Unit × XH} (hKT : ∀ (q0 : Int32) (q1 : Int32) (q2 : Int32) (qh : XH) (qr : Unit × XH), KT q0 q1 q2 qh = some qr → hj qr.2 1316 = hj qh 1316) (hf : f_m_judgeField KT a0 a1 a2 a3 h = some r) : hj r.2 1316 = hj h 1316 := by
  unfold f_m_judgeField at hf
  rcases xi_or hf with ⟨-, hf⟩ | ⟨-, hf⟩
  · obtain ⟨v1, e1, hf⟩ := xb_or hf
    replace e1 := j_f_m_far e1
    rcases xi_or hf with ⟨-, hf⟩ | ⟨-, hf⟩
    · rcases xi_or hf with ⟨-, hf⟩ | ⟨-, hf⟩
      · rcases xi_or hf with ⟨-, hf⟩ | ⟨-, hf⟩
        · rcases xi_or hf with ⟨-, hf⟩ | ⟨-, hf⟩
          · refine (j_b_m_judgeField_78 hKT hf).trans ?_
            first | (simp (disch := decide) only [hj_hsi, hj_hsj_ne, hj_hri, e1]; done) | rfl
          · rcases xi_or hf with ⟨-, hf⟩ | ⟨-, hf⟩
            · refine (j_b_m_judgeField_78 hKT hf).trans ?_
              first | (simp (disch := decide) only [hj_hsi, hj_hsj_ne, hj_hri, e1]; done) | rfl
            · exact xn_or hf
        · obtain ⟨v2, e2, hf⟩ := xb_or hf
          replace e2 := j_f_m_bytesOf e2
          refine (j_b_m_judgeField_78 hKT hf).trans ?_
          first | (simp (disch := decide) only [hj_hsi, hj_hsj_ne, hj_hri, e2, e1]; done) | rfl
      · exact xn_or hf
    · rcases xi_or hf with ⟨-, hf⟩ | ⟨-, hf⟩
      · rcases xi_or hf with ⟨-, hf⟩ | ⟨-, hf⟩
        · obtain rfl := Option.some.inj hf
          first | (simp (disch := decide) only [hj_hsi, hj_hsj_ne, hj_hri, e1]; done) | rfl
        · obtain ⟨v3, e3, hf⟩ := xb_or hf
          replace e3 := j_f_m_wrong e3
          obtain rfl := Option.some.inj hf
          first | (simp (disch := decide) only [hj_hsi, hj_hsj_ne, hj_hri, e3, e1]; done) | rfl
      · exact xn_or hf
  · exact xn_or hf
theorem j_b_m_judgeUnion_92 {KT : Int32 → Int32 → Int32 → XH → Option (Unit × XH)} {x1 : Int32} {x2 : Int32} {x3 : Int32} {x4 : Int32} {x5 : Int32} {x6 : Int32} {y0 : Int32} {h : XH} {r : Unit × XH} (hKT : ∀ (q0 : Int32) (q1 : Int32) (q2 : Int32) (qh : XH) (qr : Unit × XH), KT q0 q1 q2 qh = some qr → hj qr.2 1316 = hj qh 1316) (hf : b_m_judgeUnion_92 KT x1 x2 x3 x4 x5 x6 y0 h = some r) : hj r.2 1316 = hj h 1316 := by
  unfold b_m_judgeUnion_92 at hf
  rcases xi_or hf with ⟨-, hf⟩ | ⟨-, hf⟩
  · rcases xi_or hf with ⟨-, hf⟩ | ⟨-, hf⟩
    · obtain ⟨v1, e1, hf⟩ := xb_or hf
      replace e1 := j_f_m_stood e1
      rcases xi_or hf with ⟨-, hf⟩ | ⟨-, hf⟩
      · obtain rfl := Option.some.inj hf
        first | (simp (disch := decide) only [hj_hsi, hj_hsj_ne, hj_hri, e1]; done) | rfl
      · rcases xi_or hf with ⟨-, hf⟩ | ⟨-, hf⟩
        · rcases xi_or hf with ⟨-, hf⟩ | ⟨-, hf⟩
          · obtain ⟨v2, e2, hf⟩ := xb_or hf
            replace e2 := hKT _ _ _ _ _ e2
            obtain rfl := Option.some.inj hf
            first | (simp (disch := decide) only [hj_hsi, hj_hsj_ne, hj_hri, e2, e1]; done) | rfl
          · exact xn_or hf
        · exact xn_or hf
    · obtain ⟨v3, e3, hf⟩ := xb_or hf
      replace e3 := j_f_m_wrong e3
      obtain rfl := Option.some.inj hf
      first | (simp (disch := decide) only [hj_hsi, hj_hsj_ne, hj_hri, e3]; done) | rfl
  · rcases xi_or hf with ⟨-, hf⟩ | ⟨-, hf⟩
    · rcases xi_or hf with ⟨-, hf⟩ | ⟨-, hf⟩
      · rcases xi_or hf with ⟨-, hf⟩ | ⟨-, hf⟩
        · obtain rfl := Option.some.inj hf
          first | (simp (disch := decide) only [hj_hsi, hj_hsj_ne, hj_hri]; done) | rfl
        · obtain ⟨v4, e4, hf⟩ := xb_or hf
          replace e4 := j_f_m_wrong e4
          obtain rfl := Option.some.inj hf
          first | (simp (disch := decide) only [hj_hsi, hj_hsj_ne, hj_hri, e4]; done) | rfl
      · exact xn_or hf
    · obtain ⟨v5, e5, hf⟩ := xb_or hf
      replace e5 := j_f_m_wrong e5
      obtain rfl := Option.some.inj hf
      first | (simp (disch := decide) only [hj_hsi, hj_hsj_ne, hj_hri, e5]; done) | rfl
theorem j_b_m_judgeUnion_75 {KT : Int32 → Int32 → Int32 → XH → Option (Unit × XH)} {x1 : Int32} {x2 : Int32} {x3 : Int32} {x4 : Int32} {x5 : Int32} {x6 : Int32} {h : XH} {r : Unit × XH} (hKT : ∀ (q0 : Int32) (q1 : Int32) (q2 : Int32) (qh : XH) (qr : Unit × XH), KT q0 q1 q2 qh = some qr → hj qr.2 1316 = hj qh 1316) (hf : b_m_judgeUnion_75 KT x1 x2 x3 x4 x5 x6 h = some r) : hj r.2 1316 = hj h 1316 := by
  unfold b_m_judgeUnion_75 at hf
  obtain ⟨v1, e1, hf⟩ := xb_or hf
  replace e1 := j_f_m_far e1
  rcases xi_or hf with ⟨-, hf⟩ | ⟨-, hf⟩
  · refine (j_b_m_judgeUnion_92 hKT hf).trans ?_
    first | (simp (disch := decide) only [hj_hsi, hj_hsj_ne, hj_hri, e1]; done) | rfl
  · refine (j_b_m_judgeUnion_92 hKT hf).trans ?_
    first | (simp (disch := decide) only [hj_hsi, hj_hsj_ne, hj_hri, e1]; done) | rfl
theorem j_f_m_judgeUnion {KT : Int32 → Int32 → Int32 → XH → Option (Unit × XH)} {a0 : Int32} {a1 : Int32} {a2 : Int32} {a3 : Int32} {h : XH} {r : Unit × XH} (hKT : ∀ (q0 : Int32) (q1 : Int32) (q2 : Int32) (qh : XH) (qr : Unit × XH), KT q0 q1 q2 qh = some qr → hj qr.2 1316 = hj qh 1316) (hf : f_m_judgeUnion KT a0 a1 a2 a3 h = some r) : hj r.2 1316 = hj h 1316 := by
  unfold f_m_judgeUnion at hf
  rcases xi_or hf with ⟨-, hf⟩ | ⟨-, hf⟩
  · obtain ⟨v1, e1, hf⟩ := xb_or hf
    replace e1 := j_f_m_far e1
    rcases xi_or hf with ⟨-, hf⟩ | ⟨-, hf⟩
    · refine (j_b_m_judgeUnion_75 hKT hf).trans ?_
      first | (simp (disch := decide) only [hj_hsi, hj_hsj_ne, hj_hri, e1]; done) | rfl
    · obtain ⟨v2, e2, hf⟩ := xb_or hf
      replace e2 := j_f_m_stood e2
      rcases xi_or hf with ⟨-, hf⟩ | ⟨-, hf⟩
      · rcases xi_or hf with ⟨-, hf⟩ | ⟨-, hf⟩
        · rcases xi_or hf with ⟨-, hf⟩ | ⟨-, hf⟩
          · rcases xi_or hf with ⟨-, hf⟩ | ⟨-, hf⟩
            · rcases xi_or hf with ⟨-, hf⟩ | ⟨-, hf⟩
              · refine (j_b_m_judgeUnion_75 hKT hf).trans ?_
                first | (simp (disch := decide) only [hj_hsi, hj_hsj_ne, hj_hri, e2, e1]; done) | rfl
              · obtain ⟨v3, e3, hf⟩ := xb_or hf
                replace e3 := j_f_m_wrong e3
                obtain rfl := Option.some.inj hf
                first | (simp (disch := decide) only [hj_hsi, hj_hsj_ne, hj_hri, e3, e2, e1]; done) | rfl
            · exact xn_or hf
          · exact xn_or hf
        · exact xn_or hf
      · obtain rfl := Option.some.inj hf
        first | (simp (disch := decide) only [hj_hsi, hj_hsj_ne, hj_hri, e2, e1]; done) | rfl
  · exact xn_or hf
theorem j_b_m_toTable_268 {KT : Int32 → Int32 → Int32 → XH → Option (Unit × XH)} {K209 : Int32 → Int32 → Int32 → Int32 → Int32 → XH → Option (Unit × XH)} {x2 : Int32} {x3 : Int32} {x4 : Int32} {x7 : Int32} {x10 : Int32} {h : XH} {r : Unit × XH} (hKT : ∀ (q0 : Int32) (q1 : Int32) (q2 : Int32) (qh : XH) (qr : Unit × XH), KT q0 q1 q2 qh = some qr → hj qr.2 1316 = hj qh 1316) (hK209 : ∀ (q0 : Int32) (q1 : Int32) (q2 : Int32) (q3 : Int32) (q4 : Int32) (qh : XH) (qr : Unit × XH), K209 q0 q1 q2 q3 q4 qh = some qr → hj qr.2 1316 = hj qh 1316) (hf : b_m_toTable_268 KT K209 x2 x3 x4 x7 x10 h = some r) : hj r.2 1316 = hj h 1316 := by
  unfold b_m_toTable_268 at hf
  refine (hK209 _ _ _ _ _ _ _ hf).trans ?_
  first | (simp (disch := decide) only [hj_hsi, hj_hsj_ne, hj_hri]; done) | rfl
theorem j_s_m_toTable_209 {KT : Int32 → Int32 → Int32 → XH → Option (Unit × XH)} {K209 : Int32 → Int32 → Int32 → Int32 → Int32 → XH → Option (Unit × XH)} {x2 : Int32} {x3 : Int32} {x4 : Int32} {x7 : Int32} {x10 : Int32} {h : XH} {r : Unit × XH} (hKT : ∀ (q0 : Int32) (q1 : Int32) (q2 : Int32) (qh : XH) (qr : Unit × XH), KT q0 q1 q2 qh = some qr → hj qr.2 1316 = hj qh 1316) (hK209 : ∀ (q0 : Int32) (q1 : Int32) (q2 : Int32) (q3 : Int32) (q4 : Int32) (qh : XH) (qr : Unit × XH), K209 q0 q1 q2 q3 q4 qh = some qr → hj qr.2 1316 = hj qh 1316) (hf : s_m_toTable_209 KT K209 x2 x3 x4 x7 x10 h = some r) : hj r.2 1316 = hj h 1316 := by
  unfold s_m_toTable_209 at hf
  rcases xi_or hf with ⟨-, hf⟩ | ⟨-, hf⟩
  · rcases xi_or hf with ⟨-, hf⟩ | ⟨-, hf⟩
    · obtain rfl := Option.some.inj hf
      first | (simp (disch := decide) only [hj_hsi, hj_hsj_ne, hj_hri]; done) | rfl
    · rcases xi_or hf with ⟨-, hf⟩ | ⟨-, hf⟩
      · obtain rfl := Option.some.inj hf
        first | (simp (disch := decide) only [hj_hsi, hj_hsj_ne, hj_hri]; done) | rfl
      · rcases xi_or hf with ⟨-, hf⟩ | ⟨-, hf⟩
        · rcases xi_or hf with ⟨-, hf⟩ | ⟨-, hf⟩
          · obtain ⟨v1, e1, hf⟩ := xb_or hf
            replace e1 := j_f_m_judgeField hKT e1
            refine (j_b_m_toTable_268 hKT hK209 hf).trans ?_
            first | (simp (disch := decide) only [hj_hsi, hj_hsj_ne, hj_hri, e1]; done) | rfl
          · obtain ⟨v2, e2, hf⟩ := xb_or hf
            replace e2 := j_f_m_judgeUnion hKT e2
            refine (j_b_m_toTable_268 hKT hK209 hf).trans ?_
            first | (simp (disch := decide) only [hj_hsi, hj_hsj_ne, hj_hri, e2]; done) | rfl
        · exact xn_or hf
  · exact xn_or hf
theorem j_b_m_toTable_209 {KT : Int32 → Int32 → Int32 → XH → Option (Unit × XH)} (hKT : ∀ (q0 : Int32) (q1 : Int32) (q2 : Int32) (qh : XH) (qr : Unit × XH), KT q0 q1 q2 qh = some qr → hj qr.2 1316 = hj qh 1316) : ∀ {n : Nat} {q0 : Int32} {q1 : Int32} {q2 : Int32} {q3 : Int32} {q4 : Int32} {h : XH} {r : Unit × XH}, b_m_toTable_209 KT n q0 q1 q2 q3 q4 h = some r → hj r.2 1316 = hj h 1316 := by
  intro n
  induction n with
  | zero => intro _ _ _ _ _ _ _ hf; cases hf
  | succ n ih => intro _ _ _ _ _ _ _ hf; exact j_s_m_toTable_209 hKT (fun _ _ _ _ _ _ _ e => ih e) hf
theorem j_b_m_toTable_203 {KT : Int32 → Int32 → Int32 → XH → Option (Unit × XH)} {x2 : Int32} {x3 : Int32} {x4 : Int32} {x7 : Int32} {h : XH} {r : Unit × XH} (hKT : ∀ (q0 : Int32) (q1 : Int32) (q2 : Int32) (qh : XH) (qr : Unit × XH), KT q0 q1 q2 qh = some qr → hj qr.2 1316 = hj qh 1316) (hf : b_m_toTable_203 KT x2 x3 x4 x7 h = some r) : hj r.2 1316 = hj h 1316 := by
  unfold b_m_toTable_203 at hf
  refine (j_b_m_toTable_209 hKT hf).trans ?_
  first | (simp (disch := decide) only [hj_hsi, hj_hsj_ne, hj_hri]; done) | rfl
theorem j_b_m_toTable_193 {KT : Int32 → Int32 → Int32 → XH → Option (Unit × XH)} {x2 : Int32} {x3 : Int32} {x4 : Int32} {x7 : Int32} {h : XH} {r : Unit × XH} (hKT : ∀ (q0 : Int32) (q1 : Int32) (q2 : Int32) (qh : XH) (qr : Unit × XH), KT q0 q1 q2 qh = some qr → hj qr.2 1316 = hj qh 1316) (hf : b_m_toTable_193 KT x2 x3 x4 x7 h = some r) : hj r.2 1316 = hj h 1316 := by
  unfold b_m_toTable_193 at hf
  obtain ⟨v1, e1, hf⟩ := xb_or hf
  replace e1 := j_f_m_wrong e1
  refine (j_b_m_toTable_203 hKT hf).trans ?_
  first | (simp (disch := decide) only [hj_hsi, hj_hsj_ne, hj_hri, e1]; done) | rfl
theorem j_b_m_toTable_164 {KT : Int32 → Int32 → Int32 → XH → Option (Unit × XH)} {x2 : Int32} {x3 : Int32} {x4 : Int32} {x7 : Int32} {h : XH} {r : Unit × XH} (hKT : ∀ (q0 : Int32) (q1 : Int32) (q2 : Int32) (qh : XH) (qr : Unit × XH), KT q0 q1 q2 qh = some qr → hj qr.2 1316 = hj qh 1316) (hf : b_m_toTable_164 KT x2 x3 x4 x7 h = some r) : hj r.2 1316 = hj h 1316 := by
  unfold b_m_toTable_164 at hf
  obtain ⟨v1, e1, hf⟩ := xb_or hf
  replace e1 := j_f_m_wrong e1
  refine (j_b_m_toTable_203 hKT hf).trans ?_
  first | (simp (disch := decide) only [hj_hsi, hj_hsj_ne, hj_hri, e1]; done) | rfl
theorem j_b_m_toTable_103 {KT : Int32 → Int32 → Int32 → XH → Option (Unit × XH)} {x4 : Int32} {h : XH} {r : Unit × XH} (hKT : ∀ (q0 : Int32) (q1 : Int32) (q2 : Int32) (qh : XH) (qr : Unit × XH), KT q0 q1 q2 qh = some qr → hj qr.2 1316 = hj qh 1316) (hf : b_m_toTable_103 KT x4 h = some r) : hj r.2 1316 = hj h 1316 := by
  unfold b_m_toTable_103 at hf
  obtain ⟨v1, e1, hf⟩ := xb_or hf
  replace e1 := j_f_m_wrong e1
  obtain rfl := Option.some.inj hf
  first | (simp (disch := decide) only [hj_hsi, hj_hsj_ne, hj_hri, e1]; done) | rfl
theorem j_g_m_toTable {KT : Int32 → Int32 → Int32 → XH → Option (Unit × XH)} {a0 : Int32} {a1 : Int32} {a2 : Int32} {h : XH} {r : Unit × XH} (hKT : ∀ (q0 : Int32) (q1 : Int32) (q2 : Int32) (qh : XH) (qr : Unit × XH), KT q0 q1 q2 qh = some qr → hj qr.2 1316 = hj qh 1316) (hf : g_m_toTable KT a0 a1 a2 h = some r) : hj r.2 1316 = hj h 1316 := by
  unfold g_m_toTable at hf
  obtain ⟨v1, e1, hf⟩ := xb_or hf
  replace e1 := j_f_m_led e1
  rcases xi_or hf with ⟨-, hf⟩ | ⟨-, hf⟩
  · rcases xi_or hf with ⟨-, hf⟩ | ⟨-, hf⟩
    · rcases xi_or hf with ⟨-, hf⟩ | ⟨-, hf⟩
      · obtain ⟨v2, e2, hf⟩ := xb_or hf
        replace e2 := j_f_m_number e2
        rcases xi_or hf with ⟨-, hf⟩ | ⟨-, hf⟩
        · refine (j_b_m_toTable_103 hKT hf).trans ?_
          first | (simp (disch := decide) only [hj_hsi, hj_hsj_ne, hj_hri, e2, e1]; done) | rfl
        · rcases xi_or hf with ⟨-, hf⟩ | ⟨-, hf⟩
          · refine (j_b_m_toTable_103 hKT hf).trans ?_
            first | (simp (disch := decide) only [hj_hsi, hj_hsj_ne, hj_hri, e2, e1]; done) | rfl
          · rcases xi_or hf with ⟨-, hf⟩ | ⟨-, hf⟩
            · obtain ⟨v3, e3, hf⟩ := xb_or hf
              replace e3 := j_f_m_number e3
              obtain ⟨v4, e4, hf⟩ := xb_or hf
              replace e4 := j_f_m_number e4
              rcases xi_or hf with ⟨-, hf⟩ | ⟨-, hf⟩
              · refine (j_b_m_toTable_164 hKT hf).trans ?_
                first | (simp (disch := decide) only [hj_hsi, hj_hsj_ne, hj_hri, e4, e3, e2, e1]; done) | rfl
              · rcases xi_or hf with ⟨-, hf⟩ | ⟨-, hf⟩
                · refine (j_b_m_toTable_164 hKT hf).trans ?_
                  first | (simp (disch := decide) only [hj_hsi, hj_hsj_ne, hj_hri, e4, e3, e2, e1]; done) | rfl
                · rcases xi_or hf with ⟨-, hf⟩ | ⟨-, hf⟩
                  · rcases xi_or hf with ⟨-, hf⟩ | ⟨-, hf⟩
                    · refine (j_b_m_toTable_193 hKT hf).trans ?_
                      first | (simp (disch := decide) only [hj_hsi, hj_hsj_ne, hj_hri, e4, e3, e2, e1]; done) | rfl
                    · rcases xi_or hf with ⟨-, hf⟩ | ⟨-, hf⟩
                      · refine (j_b_m_toTable_203 hKT hf).trans ?_
                        first | (simp (disch := decide) only [hj_hsi, hj_hsj_ne, hj_hri, e4, e3, e2, e1]; done) | rfl
                      · refine (j_b_m_toTable_193 hKT hf).trans ?_
                        first | (simp (disch := decide) only [hj_hsi, hj_hsj_ne, hj_hri, e4, e3, e2, e1]; done) | rfl
                  · refine (j_b_m_toTable_164 hKT hf).trans ?_
                    first | (simp (disch := decide) only [hj_hsi, hj_hsj_ne, hj_hri, e4, e3, e2, e1]; done) | rfl
            · refine (j_b_m_toTable_103 hKT hf).trans ?_
              first | (simp (disch := decide) only [hj_hsi, hj_hsj_ne, hj_hri, e2, e1]; done) | rfl
      · obtain ⟨v5, e5, hf⟩ := xb_or hf
        replace e5 := j_f_m_wrong e5
        obtain rfl := Option.some.inj hf
        first | (simp (disch := decide) only [hj_hsi, hj_hsj_ne, hj_hri, e5, e1]; done) | rfl
    · obtain ⟨v6, e6, hf⟩ := xb_or hf
      replace e6 := j_f_m_wrong e6
      obtain rfl := Option.some.inj hf
      first | (simp (disch := decide) only [hj_hsi, hj_hsj_ne, hj_hri, e6, e1]; done) | rfl
  · obtain rfl := Option.some.inj hf
    first | (simp (disch := decide) only [hj_hsi, hj_hsj_ne, hj_hri, e1]; done) | rfl
theorem j_f_m_toTable   : ∀ {n : Nat} {q0 : Int32} {q1 : Int32} {q2 : Int32} {h : XH} {r : Unit × XH}, f_m_toTable  n q0 q1 q2 h = some r → hj r.2 1316 = hj h 1316 := by
  intro n
  induction n with
  | zero => intro _ _ _ _ _ hf; cases hf
  | succ n ih => intro _ _ _ _ _ hf; exact j_g_m_toTable (fun _ _ _ _ _ e => ih e) hf
theorem j_b_m_judge_42 {h : XH} {r : Int32 × XH}  (hf : b_m_judge_42 h = some r) : hj r.2 1316 = hj h 1316 := by
  unfold b_m_judge_42 at hf
  rcases xi_or hf with ⟨-, hf⟩ | ⟨-, hf⟩
  · obtain rfl := Option.some.inj hf
    first | (simp (disch := decide) only [hj_hsi, hj_hsj_ne, hj_hri]; done) | rfl
  · obtain rfl := Option.some.inj hf
    first | (simp (disch := decide) only [hj_hsi, hj_hsj_ne, hj_hri]; done) | rfl
theorem j_f_m_judge {h : XH} {r : Int32 × XH}  (hf : f_m_judge h = some r) : hj r.2 1316 = hj h 1316 := by
  unfold f_m_judge at hf
  rcases xi_or hf with ⟨-, hf⟩ | ⟨-, hf⟩
  · obtain ⟨v1, e1, hf⟩ := xb_or hf
    replace e1 := j_f_m_toTable e1
    refine (j_b_m_judge_42 hf).trans ?_
    first | (simp (disch := decide) only [hj_hsi, hj_hsj_ne, hj_hri, e1]; done) | rfl
  · obtain ⟨v2, e2, hf⟩ := xb_or hf
    replace e2 := j_f_m_wrong e2
    refine (j_b_m_judge_42 hf).trans ?_
    first | (simp (disch := decide) only [hj_hsi, hj_hsj_ne, hj_hri, e2]; done) | rfl
theorem j_f_m_enter {a0 : Int32} {a1 : Int32} {a2 : Int32} {a3 : Int32} {h : XH} {r : Unit × XH}  (hf : f_m_enter a0 a1 a2 a3 h = some r) : hj r.2 1316 = hj h 1316 := by
  unfold f_m_enter at hf
  rcases xi_or hf with ⟨-, hf⟩ | ⟨-, hf⟩
  · obtain rfl := Option.some.inj hf
    first | (simp (disch := decide) only [hj_hsi, hj_hsj_ne, hj_hri]; done) | rfl
  · exact xn_or hf
theorem j_f_m_atRoot {h : XH} {r : Unit × XH}  (hf : f_m_atRoot h = some r) : hj r.2 1316 = hj h 1316 := by
  unfold f_m_atRoot at hf
  obtain ⟨v1, e1, hf⟩ := xb_or hf
  replace e1 := j_f_m_number e1
  obtain ⟨v2, e2, hf⟩ := xb_or hf
  replace e2 := j_f_m_enter e2
  obtain rfl := Option.some.inj hf
  first | (simp (disch := decide) only [hj_hsi, hj_hsj_ne, hj_hri, e2, e1]; done) | rfl
theorem j_s_m_back_10 {K10 : Int32 → XH → Option (Unit × XH)} {x1 : Int32} {h : XH} {r : Unit × XH} (hK10 : ∀ (q0 : Int32) (qh : XH) (qr : Unit × XH), K10 q0 qh = some qr → hj qr.2 1316 = hj qh 1316) (hf : s_m_back_10 K10 x1 h = some r) : hj r.2 1316 = hj h 1316 := by
  unfold s_m_back_10 at hf
  rcases xi_or hf with ⟨-, hf⟩ | ⟨-, hf⟩
  · obtain rfl := Option.some.inj hf
    first | (simp (disch := decide) only [hj_hsi, hj_hsj_ne, hj_hri]; done) | rfl
  · rcases xi_or hf with ⟨-, hf⟩ | ⟨-, hf⟩
    · refine (hK10 _ _ _ hf).trans ?_
      first | (simp (disch := decide) only [hj_hsi, hj_hsj_ne, hj_hri]; done) | rfl
    · exact xn_or hf
theorem j_b_m_back_10   : ∀ {n : Nat} {q0 : Int32} {h : XH} {r : Unit × XH}, b_m_back_10  n q0 h = some r → hj r.2 1316 = hj h 1316 := by
  intro n
  induction n with
  | zero => intro _ _ _ hf; cases hf
  | succ n ih => intro _ _ _ hf; exact j_s_m_back_10 (fun _ _ _ e => ih e) hf
theorem j_f_m_back {h : XH} {r : Unit × XH}  (hf : f_m_back h = some r) : hj r.2 1316 = hj h 1316 := by
  unfold f_m_back at hf
  refine (j_b_m_back_10 hf).trans ?_
  first | (simp (disch := decide) only [hj_hsi, hj_hsj_ne, hj_hri]; done) | rfl
theorem j_s_m_load_148 {K148 : Int32 → XH → Option (Int32 × XH)} {x4 : Int32} {h : XH} {r : Int32 × XH} (hK148 : ∀ (q0 : Int32) (qh : XH) (qr : Int32 × XH), K148 q0 qh = some qr → hj qr.2 1316 = hj qh 1316) (hf : s_m_load_148 K148 x4 h = some r) : hj r.2 1316 = hj h 1316 := by
  unfold s_m_load_148 at hf
  rcases xi_or hf with ⟨-, hf⟩ | ⟨-, hf⟩
  · obtain ⟨v1, e1, hf⟩ := xb_or hf
    replace e1 := j_f_m_atRoot e1
    obtain rfl := Option.some.inj hf
    first | (simp (disch := decide) only [hj_hsi, hj_hsj_ne, hj_hri, e1]; done) | rfl
  · rcases xi_or hf with ⟨-, hf⟩ | ⟨-, hf⟩
    · refine (hK148 _ _ _ hf).trans ?_
      first | (simp (disch := decide) only [hj_hsi, hj_hsj_ne, hj_hri]; done) | rfl
    · exact xn_or hf
theorem j_b_m_load_148   : ∀ {n : Nat} {q0 : Int32} {h : XH} {r : Int32 × XH}, b_m_load_148  n q0 h = some r → hj r.2 1316 = hj h 1316 := by
  intro n
  induction n with
  | zero => intro _ _ _ hf; cases hf
  | succ n ih => intro _ _ _ hf; exact j_s_m_load_148 (fun _ _ _ e => ih e) hf
theorem j_b_m_load_99 {K67 : Int32 → Int32 → XH → Option (Int32 × XH)} {x1 : Int32} {x3 : Int32} {y1 : Int32} {y2 : Int32} {h : XH} {r : Int32 × XH} (hK67 : ∀ (q0 : Int32) (q1 : Int32) (qh : XH) (qr : Int32 × XH), K67 q0 q1 qh = some qr → hj qr.2 1316 = hj qh 1316) (hf : b_m_load_99 K67 x1 x3 y1 y2 h = some r) : hj r.2 1316 = hj h 1316 := by
  unfold b_m_load_99 at hf
  rcases xi_or hf with ⟨-, hf⟩ | ⟨-, hf⟩
  · refine (hK67 _ _ _ _ hf).trans ?_
    first | (simp (disch := decide) only [hj_hsi, hj_hsj_ne, hj_hri]; done) | rfl
  · exact xn_or hf
theorem j_s_m_load_67 {K67 : Int32 → Int32 → XH → Option (Int32 × XH)} {x1 : Int32} {x3 : Int32} {h : XH} {r : Int32 × XH} (hK67 : ∀ (q0 : Int32) (q1 : Int32) (qh : XH) (qr : Int32 × XH), K67 q0 q1 qh = some qr → hj qr.2 1316 = hj qh 1316) (hf : s_m_load_67 K67 x1 x3 h = some r) : hj r.2 1316 = hj h 1316 := by
  unfold s_m_load_67 at hf
  rcases xi_or hf with ⟨-, hf⟩ | ⟨-, hf⟩
  · obtain ⟨v1, e1, hf⟩ := xb_or hf
    replace e1 := j_f_m_judge e1
    rcases xi_or hf with ⟨-, hf⟩ | ⟨-, hf⟩
    · refine (j_b_m_load_148 hf).trans ?_
      first | (simp (disch := decide) only [hj_hsi, hj_hsj_ne, hj_hri, e1]; done) | rfl
    · obtain ⟨v2, e2, hf⟩ := xb_or hf
      replace e2 := j_f_m_back e2
      obtain rfl := Option.some.inj hf
      first | (simp (disch := decide) only [hj_hsi, hj_hsj_ne, hj_hri, e2, e1]; done) | rfl
  · rcases xi_or hf with ⟨-, hf⟩ | ⟨-, hf⟩
    · rcases xi_or hf with ⟨-, hf⟩ | ⟨-, hf⟩
      · refine (j_b_m_load_99 hK67 hf).trans ?_
        first | (simp (disch := decide) only [hj_hsi, hj_hsj_ne, hj_hri]; done) | rfl
      · exact xn_or hf
    · rcases xi_or hf with ⟨-, hf⟩ | ⟨-, hf⟩
      · refine (j_b_m_load_99 hK67 hf).trans ?_
        first | (simp (disch := decide) only [hj_hsi, hj_hsj_ne, hj_hri]; done) | rfl
      · exact xn_or hf
theorem j_b_m_load_67   : ∀ {n : Nat} {q0 : Int32} {q1 : Int32} {h : XH} {r : Int32 × XH}, b_m_load_67  n q0 q1 h = some r → hj r.2 1316 = hj h 1316 := by
  intro n
  induction n with
  | zero => intro _ _ _ _ hf; cases hf
  | succ n ih => intro _ _ _ _ hf; exact j_s_m_load_67 (fun _ _ _ _ e => ih e) hf
theorem j_b_m_load_46 {x1 : Int32} {x2 : Int32} {h : XH} {r : Int32 × XH}  (hf : b_m_load_46 x1 x2 h = some r) : hj r.2 1316 = hj h 1316 := by
  unfold b_m_load_46 at hf
  rcases xi_or hf with ⟨-, hf⟩ | ⟨-, hf⟩
  · refine (j_b_m_load_67 hf).trans ?_
    first | (simp (disch := decide) only [hj_hsi, hj_hsj_ne, hj_hri]; done) | rfl
  · obtain rfl := Option.some.inj hf
    first | (simp (disch := decide) only [hj_hsi, hj_hsj_ne, hj_hri]; done) | rfl
theorem j_b_m_load_36 {x1 : Int32} {y0 : Int32} {h : XH} {r : Int32 × XH}  (hf : b_m_load_36 x1 y0 h = some r) : hj r.2 1316 = hj h 1316 := by
  unfold b_m_load_36 at hf
  rcases xi_or hf with ⟨-, hf⟩ | ⟨-, hf⟩
  · refine (j_b_m_load_46 hf).trans ?_
    first | (simp (disch := decide) only [hj_hsi, hj_hsj_ne, hj_hri]; done) | rfl
  · refine (j_b_m_load_46 hf).trans ?_
    first | (simp (disch := decide) only [hj_hsi, hj_hsj_ne, hj_hri]; done) | rfl
theorem j_b_m_load_21 {x1 : Int32} {h : XH} {r : Int32 × XH}  (hf : b_m_load_21 x1 h = some r) : hj r.2 1316 = hj h 1316 := by
  unfold b_m_load_21 at hf
  rcases xi_or hf with ⟨-, hf⟩ | ⟨-, hf⟩
  · refine (j_b_m_load_36 hf).trans ?_
    first | (simp (disch := decide) only [hj_hsi, hj_hsj_ne, hj_hri]; done) | rfl
  · refine (j_b_m_load_36 hf).trans ?_
    first | (simp (disch := decide) only [hj_hsi, hj_hsj_ne, hj_hri]; done) | rfl
theorem j_f_m_load {a0 : Int32} {h : XH} {r : Int32 × XH}  (hf : f_m_load a0 h = some r) : hj r.2 1316 = hj h 1316 := by
  unfold f_m_load at hf
  rcases xi_or hf with ⟨-, hf⟩ | ⟨-, hf⟩
  · refine (j_b_m_load_21 hf).trans ?_
    first | (simp (disch := decide) only [hj_hsi, hj_hsj_ne, hj_hri]; done) | rfl
  · rcases xi_or hf with ⟨-, hf⟩ | ⟨-, hf⟩
    · refine (j_b_m_load_21 hf).trans ?_
      first | (simp (disch := decide) only [hj_hsi, hj_hsj_ne, hj_hri]; done) | rfl
    · obtain rfl := Option.some.inj hf
      first | (simp (disch := decide) only [hj_hsi, hj_hsj_ne, hj_hri]; done) | rfl
theorem j_f_m_sort {h : XH} {r : Int32 × XH}  (hf : f_m_sort h = some r) : hj r.2 1316 = hj h 1316 := by
  unfold f_m_sort at hf
  rcases xi_or hf with ⟨-, hf⟩ | ⟨-, hf⟩
  · obtain rfl := Option.some.inj hf
    first | (simp (disch := decide) only [hj_hsi, hj_hsj_ne, hj_hri]; done) | rfl
  · exact xn_or hf
theorem j_f_m_of {h : XH} {r : Int32 × XH}  (hf : f_m_of h = some r) : hj r.2 1316 = hj h 1316 := by
  unfold f_m_of at hf
  rcases xi_or hf with ⟨-, hf⟩ | ⟨-, hf⟩
  · obtain rfl := Option.some.inj hf
    first | (simp (disch := decide) only [hj_hsi, hj_hsj_ne, hj_hri]; done) | rfl
  · exact xn_or hf
theorem j_f_m_place {h : XH} {r : Int32 × XH}  (hf : f_m_place h = some r) : hj r.2 1316 = hj h 1316 := by
  unfold f_m_place at hf
  rcases xi_or hf with ⟨-, hf⟩ | ⟨-, hf⟩
  · obtain rfl := Option.some.inj hf
    first | (simp (disch := decide) only [hj_hsi, hj_hsj_ne, hj_hri]; done) | rfl
  · exact xn_or hf
theorem j_f_m_parts {h : XH} {r : Int32 × XH}  (hf : f_m_parts h = some r) : hj r.2 1316 = hj h 1316 := by
  unfold f_m_parts at hf
  obtain ⟨v1, e1, hf⟩ := xb_or hf
  replace e1 := j_f_m_sort e1
  rcases xi_or hf with ⟨-, hf⟩ | ⟨-, hf⟩
  · obtain ⟨v2, e2, hf⟩ := xb_or hf
    replace e2 := j_f_m_of e2
    rcases xi_or hf with ⟨-, hf⟩ | ⟨-, hf⟩
    · obtain rfl := Option.some.inj hf
      first | (simp (disch := decide) only [hj_hsi, hj_hsj_ne, hj_hri, e2, e1]; done) | rfl
    · exact xn_or hf
  · rcases xi_or hf with ⟨-, hf⟩ | ⟨-, hf⟩
    · obtain ⟨v3, e3, hf⟩ := xb_or hf
      replace e3 := j_f_m_of e3
      rcases xi_or hf with ⟨-, hf⟩ | ⟨-, hf⟩
      · obtain rfl := Option.some.inj hf
        first | (simp (disch := decide) only [hj_hsi, hj_hsj_ne, hj_hri, e3, e1]; done) | rfl
      · exact xn_or hf
    · obtain ⟨v4, e4, hf⟩ := xb_or hf
      replace e4 := j_f_m_place e4
      obtain ⟨v5, e5, hf⟩ := xb_or hf
      replace e5 := j_f_m_number e5
      obtain rfl := Option.some.inj hf
      first | (simp (disch := decide) only [hj_hsi, hj_hsj_ne, hj_hri, e5, e4, e1]; done) | rfl
theorem j_f_m_isPart {a0 : Int32} {h : XH} {r : Int32 × XH}  (hf : f_m_isPart a0 h = some r) : hj r.2 1316 = hj h 1316 := by
  unfold f_m_isPart at hf
  rcases xi_or hf with ⟨-, hf⟩ | ⟨-, hf⟩
  · obtain rfl := Option.some.inj hf
    first | (simp (disch := decide) only [hj_hsi, hj_hsj_ne, hj_hri]; done) | rfl
  · rcases xi_or hf with ⟨-, hf⟩ | ⟨-, hf⟩
    · obtain rfl := Option.some.inj hf
      first | (simp (disch := decide) only [hj_hsi, hj_hsj_ne, hj_hri]; done) | rfl
    · obtain ⟨v1, e1, hf⟩ := xb_or hf
      replace e1 := j_f_m_parts e1
      rcases xi_or hf with ⟨-, hf⟩ | ⟨-, hf⟩
      · obtain rfl := Option.some.inj hf
        first | (simp (disch := decide) only [hj_hsi, hj_hsj_ne, hj_hri, e1]; done) | rfl
      · obtain rfl := Option.some.inj hf
        first | (simp (disch := decide) only [hj_hsi, hj_hsj_ne, hj_hri, e1]; done) | rfl
theorem j_f_m_list {a0 : Int32} {h : XH} {r : Int32 × XH}  (hf : f_m_list a0 h = some r) : hj r.2 1316 = hj h 1316 := by
  unfold f_m_list at hf
  obtain ⟨v1, e1, hf⟩ := xb_or hf
  replace e1 := j_f_m_number e1
  obtain rfl := Option.some.inj hf
  first | (simp (disch := decide) only [hj_hsi, hj_hsj_ne, hj_hri, e1]; done) | rfl
theorem j_f_m_stored {a0 : Int32} {h : XH} {r : Int32 × XH}  (hf : f_m_stored a0 h = some r) : hj r.2 1316 = hj h 1316 := by
  unfold f_m_stored at hf
  obtain ⟨v1, e1, hf⟩ := xb_or hf
  replace e1 := j_f_m_place e1
  obtain ⟨v2, e2, hf⟩ := xb_or hf
  replace e2 := j_f_m_list e2
  obtain ⟨v3, e3, hf⟩ := xb_or hf
  replace e3 := j_f_m_far e3
  rcases xi_or hf with ⟨-, hf⟩ | ⟨-, hf⟩
  · obtain rfl := Option.some.inj hf
    first | (simp (disch := decide) only [hj_hsi, hj_hsj_ne, hj_hri, e3, e2, e1]; done) | rfl
  · obtain rfl := Option.some.inj hf
    first | (simp (disch := decide) only [hj_hsi, hj_hsj_ne, hj_hri, e3, e2, e1]; done) | rfl
theorem j_f_m_row {a0 : Int32} {h : XH} {r : Int32 × XH}  (hf : f_m_row a0 h = some r) : hj r.2 1316 = hj h 1316 := by
  unfold f_m_row at hf
  obtain ⟨v1, e1, hf⟩ := xb_or hf
  replace e1 := j_f_m_sort e1
  rcases xi_or hf with ⟨-, hf⟩ | ⟨-, hf⟩
  · obtain ⟨v2, e2, hf⟩ := xb_or hf
    replace e2 := j_f_m_of e2
    obtain rfl := Option.some.inj hf
    first | (simp (disch := decide) only [hj_hsi, hj_hsj_ne, hj_hri, e2, e1]; done) | rfl
  · obtain ⟨v3, e3, hf⟩ := xb_or hf
    replace e3 := j_f_m_of e3
    obtain rfl := Option.some.inj hf
    first | (simp (disch := decide) only [hj_hsi, hj_hsj_ne, hj_hri, e3, e1]; done) | rfl
theorem j_f_m_partSort {a0 : Int32} {h : XH} {r : Int32 × XH}  (hf : f_m_partSort a0 h = some r) : hj r.2 1316 = hj h 1316 := by
  unfold f_m_partSort at hf
  obtain ⟨v1, e1, hf⟩ := xb_or hf
  replace e1 := j_f_m_sort e1
  rcases xi_or hf with ⟨-, hf⟩ | ⟨-, hf⟩
  · obtain ⟨v2, e2, hf⟩ := xb_or hf
    replace e2 := j_f_m_row e2
    rcases xi_or hf with ⟨-, hf⟩ | ⟨-, hf⟩
    · obtain rfl := Option.some.inj hf
      first | (simp (disch := decide) only [hj_hsi, hj_hsj_ne, hj_hri, e2, e1]; done) | rfl
    · exact xn_or hf
  · rcases xi_or hf with ⟨-, hf⟩ | ⟨-, hf⟩
    · obtain ⟨v3, e3, hf⟩ := xb_or hf
      replace e3 := j_f_m_row e3
      rcases xi_or hf with ⟨-, hf⟩ | ⟨-, hf⟩
      · obtain rfl := Option.some.inj hf
        first | (simp (disch := decide) only [hj_hsi, hj_hsj_ne, hj_hri, e3, e1]; done) | rfl
      · exact xn_or hf
    · rcases xi_or hf with ⟨-, hf⟩ | ⟨-, hf⟩
      · obtain rfl := Option.some.inj hf
        first | (simp (disch := decide) only [hj_hsi, hj_hsj_ne, hj_hri, e1]; done) | rfl
      · rcases xi_or hf with ⟨-, hf⟩ | ⟨-, hf⟩
        · rcases xi_or hf with ⟨-, hf⟩ | ⟨-, hf⟩
          · obtain rfl := Option.some.inj hf
            first | (simp (disch := decide) only [hj_hsi, hj_hsj_ne, hj_hri, e1]; done) | rfl
          · exact xn_or hf
        · obtain rfl := Option.some.inj hf
          first | (simp (disch := decide) only [hj_hsi, hj_hsj_ne, hj_hri, e1]; done) | rfl
theorem j_f_m_partOf {a0 : Int32} {h : XH} {r : Int32 × XH}  (hf : f_m_partOf a0 h = some r) : hj r.2 1316 = hj h 1316 := by
  unfold f_m_partOf at hf
  obtain ⟨v1, e1, hf⟩ := xb_or hf
  replace e1 := j_f_m_sort e1
  rcases xi_or hf with ⟨-, hf⟩ | ⟨-, hf⟩
  · obtain ⟨v2, e2, hf⟩ := xb_or hf
    replace e2 := j_f_m_row e2
    rcases xi_or hf with ⟨-, hf⟩ | ⟨-, hf⟩
    · obtain rfl := Option.some.inj hf
      first | (simp (disch := decide) only [hj_hsi, hj_hsj_ne, hj_hri, e2, e1]; done) | rfl
    · exact xn_or hf
  · rcases xi_or hf with ⟨-, hf⟩ | ⟨-, hf⟩
    · obtain ⟨v3, e3, hf⟩ := xb_or hf
      replace e3 := j_f_m_row e3
      rcases xi_or hf with ⟨-, hf⟩ | ⟨-, hf⟩
      · obtain rfl := Option.some.inj hf
        first | (simp (disch := decide) only [hj_hsi, hj_hsj_ne, hj_hri, e3, e1]; done) | rfl
      · exact xn_or hf
    · rcases xi_or hf with ⟨-, hf⟩ | ⟨-, hf⟩
      · obtain rfl := Option.some.inj hf
        first | (simp (disch := decide) only [hj_hsi, hj_hsj_ne, hj_hri, e1]; done) | rfl
      · rcases xi_or hf with ⟨-, hf⟩ | ⟨-, hf⟩
        · obtain ⟨v4, e4, hf⟩ := xb_or hf
          replace e4 := j_f_m_of e4
          obtain rfl := Option.some.inj hf
          first | (simp (disch := decide) only [hj_hsi, hj_hsj_ne, hj_hri, e4, e1]; done) | rfl
        · obtain rfl := Option.some.inj hf
          first | (simp (disch := decide) only [hj_hsi, hj_hsj_ne, hj_hri, e1]; done) | rfl
theorem j_b_m_partAt_123 {x1 : Int32} {h : XH} {r : Int32 × XH}  (hf : b_m_partAt_123 x1 h = some r) : hj r.2 1316 = hj h 1316 := by
  unfold b_m_partAt_123 at hf
  obtain ⟨v1, e1, hf⟩ := xb_or hf
  replace e1 := j_f_m_place e1
  obtain rfl := Option.some.inj hf
  first | (simp (disch := decide) only [hj_hsi, hj_hsj_ne, hj_hri, e1]; done) | rfl
theorem j_b_m_partAt_111 {x1 : Int32} {y0 : Int32} {h : XH} {r : Int32 × XH}  (hf : b_m_partAt_111 x1 y0 h = some r) : hj r.2 1316 = hj h 1316 := by
  unfold b_m_partAt_111 at hf
  obtain ⟨v1, e1, hf⟩ := xb_or hf
  replace e1 := j_f_m_place e1
  obtain rfl := Option.some.inj hf
  first | (simp (disch := decide) only [hj_hsi, hj_hsj_ne, hj_hri, e1]; done) | rfl
theorem j_f_m_partAt {a0 : Int32} {h : XH} {r : Int32 × XH}  (hf : f_m_partAt a0 h = some r) : hj r.2 1316 = hj h 1316 := by
  unfold f_m_partAt at hf
  obtain ⟨v1, e1, hf⟩ := xb_or hf
  replace e1 := j_f_m_sort e1
  rcases xi_or hf with ⟨-, hf⟩ | ⟨-, hf⟩
  · obtain ⟨v2, e2, hf⟩ := xb_or hf
    replace e2 := j_f_m_place e2
    obtain ⟨v3, e3, hf⟩ := xb_or hf
    replace e3 := j_f_m_row e3
    rcases xi_or hf with ⟨-, hf⟩ | ⟨-, hf⟩
    · obtain rfl := Option.some.inj hf
      first | (simp (disch := decide) only [hj_hsi, hj_hsj_ne, hj_hri, e3, e2, e1]; done) | rfl
    · exact xn_or hf
  · rcases xi_or hf with ⟨-, hf⟩ | ⟨-, hf⟩
    · obtain ⟨v4, e4, hf⟩ := xb_or hf
      replace e4 := j_f_m_row e4
      rcases xi_or hf with ⟨-, hf⟩ | ⟨-, hf⟩
      · obtain ⟨v5, e5, hf⟩ := xb_or hf
        replace e5 := j_f_m_stored e5
        obtain rfl := Option.some.inj hf
        first | (simp (disch := decide) only [hj_hsi, hj_hsj_ne, hj_hri, e5, e4, e1]; done) | rfl
      · exact xn_or hf
    · rcases xi_or hf with ⟨-, hf⟩ | ⟨-, hf⟩
      · refine (j_b_m_partAt_123 hf).trans ?_
        first | (simp (disch := decide) only [hj_hsi, hj_hsj_ne, hj_hri, e1]; done) | rfl
      · rcases xi_or hf with ⟨-, hf⟩ | ⟨-, hf⟩
        · rcases xi_or hf with ⟨-, hf⟩ | ⟨-, hf⟩
          · rcases xi_or hf with ⟨-, hf⟩ | ⟨-, hf⟩
            · rcases xi_or hf with ⟨-, hf⟩ | ⟨-, hf⟩
              · refine (j_b_m_partAt_111 hf).trans ?_
                first | (simp (disch := decide) only [hj_hsi, hj_hsj_ne, hj_hri, e1]; done) | rfl
              · obtain ⟨v6, e6, hf⟩ := xb_or hf
                replace e6 := j_f_m_of e6
                rcases xi_or hf with ⟨-, hf⟩ | ⟨-, hf⟩
                · refine (j_b_m_partAt_111 hf).trans ?_
                  first | (simp (disch := decide) only [hj_hsi, hj_hsj_ne, hj_hri, e6, e1]; done) | rfl
                · exact xn_or hf
            · obtain ⟨v7, e7, hf⟩ := xb_or hf
              replace e7 := j_f_m_of e7
              obtain ⟨v8, e8, hf⟩ := xb_or hf
              replace e8 := j_f_m_bytesOf e8
              refine (j_b_m_partAt_111 hf).trans ?_
              first | (simp (disch := decide) only [hj_hsi, hj_hsj_ne, hj_hri, e8, e7, e1]; done) | rfl
          · exact xn_or hf
        · refine (j_b_m_partAt_123 hf).trans ?_
          first | (simp (disch := decide) only [hj_hsi, hj_hsj_ne, hj_hri, e1]; done) | rfl
theorem j_f_m_which {a0 : Int32} {h : XH} {r : Int32 × XH}  (hf : f_m_which a0 h = some r) : hj r.2 1316 = hj h 1316 := by
  unfold f_m_which at hf
  obtain ⟨v1, e1, hf⟩ := xb_or hf
  replace e1 := j_f_m_partAt e1
  rcases xi_or hf with ⟨-, hf⟩ | ⟨-, hf⟩
  · rcases xi_or hf with ⟨-, hf⟩ | ⟨-, hf⟩
    · obtain rfl := Option.some.inj hf
      first | (simp (disch := decide) only [hj_hsi, hj_hsj_ne, hj_hri, e1]; done) | rfl
    · exact xn_or hf
  · obtain rfl := Option.some.inj hf
    first | (simp (disch := decide) only [hj_hsi, hj_hsj_ne, hj_hri, e1]; done) | rfl
theorem j_f_m_value {a0 : Int32} {a1 : Int32} {h : XH} {r : Int64 × XH}  (hf : f_m_value a0 a1 h = some r) : hj r.2 1316 = hj h 1316 := by
  unfold f_m_value at hf
  obtain ⟨v1, e1, hf⟩ := xb_or hf
  replace e1 := j_f_m_bytesOf e1
  obtain ⟨v2, e2, hf⟩ := xb_or hf
  replace e2 := j_f_m_number e2
  rcases xi_or hf with ⟨-, hf⟩ | ⟨-, hf⟩
  · obtain rfl := Option.some.inj hf
    first | (simp (disch := decide) only [hj_hsi, hj_hsj_ne, hj_hri, e2, e1]; done) | rfl
  · rcases xi_or hf with ⟨-, hf⟩ | ⟨-, hf⟩
    · obtain rfl := Option.some.inj hf
      first | (simp (disch := decide) only [hj_hsi, hj_hsj_ne, hj_hri, e2, e1]; done) | rfl
    · rcases xi_or hf with ⟨-, hf⟩ | ⟨-, hf⟩
      · obtain rfl := Option.some.inj hf
        first | (simp (disch := decide) only [hj_hsi, hj_hsj_ne, hj_hri, e2, e1]; done) | rfl
      · rcases xi_or hf with ⟨-, hf⟩ | ⟨-, hf⟩
        · obtain rfl := Option.some.inj hf
          first | (simp (disch := decide) only [hj_hsi, hj_hsj_ne, hj_hri, e2, e1]; done) | rfl
        · rcases xi_or hf with ⟨-, hf⟩ | ⟨-, hf⟩
          · obtain rfl := Option.some.inj hf
            first | (simp (disch := decide) only [hj_hsi, hj_hsj_ne, hj_hri, e2, e1]; done) | rfl
          · rcases xi_or hf with ⟨-, hf⟩ | ⟨-, hf⟩
            · obtain rfl := Option.some.inj hf
              first | (simp (disch := decide) only [hj_hsi, hj_hsj_ne, hj_hri, e2, e1]; done) | rfl
            · rcases xi_or hf with ⟨-, hf⟩ | ⟨-, hf⟩
              · obtain rfl := Option.some.inj hf
                first | (simp (disch := decide) only [hj_hsi, hj_hsj_ne, hj_hri, e2, e1]; done) | rfl
              · rcases xi_or hf with ⟨-, hf⟩ | ⟨-, hf⟩
                · obtain rfl := Option.some.inj hf
                  first | (simp (disch := decide) only [hj_hsi, hj_hsj_ne, hj_hri, e2, e1]; done) | rfl
                · rcases xi_or hf with ⟨-, hf⟩ | ⟨-, hf⟩
                  · obtain rfl := Option.some.inj hf
                    first | (simp (disch := decide) only [hj_hsi, hj_hsj_ne, hj_hri, e2, e1]; done) | rfl
                  · obtain rfl := Option.some.inj hf
                    first | (simp (disch := decide) only [hj_hsi, hj_hsj_ne, hj_hri, e2, e1]; done) | rfl
theorem j_b_m_read_39 {x1 : Int32} {x2 : Int32} {h : XH} {r : Int64 × XH}  (hf : b_m_read_39 x1 x2 h = some r) : hj r.2 1316 = hj h 1316 := by
  unfold b_m_read_39 at hf
  rcases xi_or hf with ⟨-, hf⟩ | ⟨-, hf⟩
  · obtain ⟨v1, e1, hf⟩ := xb_or hf
    replace e1 := j_f_m_partAt e1
    rcases xi_or hf with ⟨-, hf⟩ | ⟨-, hf⟩
    · obtain ⟨v2, e2, hf⟩ := xb_or hf
      replace e2 := j_f_m_partOf e2
      obtain ⟨v3, e3, hf⟩ := xb_or hf
      replace e3 := j_f_m_value e3
      obtain rfl := Option.some.inj hf
      first | (simp (disch := decide) only [hj_hsi, hj_hsj_ne, hj_hri, e3, e2, e1]; done) | rfl
    · obtain ⟨v4, e4, hf⟩ := xb_or hf
      replace e4 := j_f_m_row e4
      rcases xi_or hf with ⟨-, hf⟩ | ⟨-, hf⟩
      · obtain rfl := Option.some.inj hf
        first | (simp (disch := decide) only [hj_hsi, hj_hsj_ne, hj_hri, e4, e1]; done) | rfl
      · exact xn_or hf
  · obtain ⟨v5, e5, hf⟩ := xb_or hf
    replace e5 := j_f_m_which e5
    obtain rfl := Option.some.inj hf
    first | (simp (disch := decide) only [hj_hsi, hj_hsj_ne, hj_hri, e5]; done) | rfl
theorem j_b_m_read_22 {x1 : Int32} {y0 : Int32} {h : XH} {r : Int64 × XH}  (hf : b_m_read_22 x1 y0 h = some r) : hj r.2 1316 = hj h 1316 := by
  unfold b_m_read_22 at hf
  rcases xi_or hf with ⟨-, hf⟩ | ⟨-, hf⟩
  · refine (j_b_m_read_39 hf).trans ?_
    first | (simp (disch := decide) only [hj_hsi, hj_hsj_ne, hj_hri]; done) | rfl
  · rcases xi_or hf with ⟨-, hf⟩ | ⟨-, hf⟩
    · refine (j_b_m_read_39 hf).trans ?_
      first | (simp (disch := decide) only [hj_hsi, hj_hsj_ne, hj_hri]; done) | rfl
    · obtain rfl := Option.some.inj hf
      first | (simp (disch := decide) only [hj_hsi, hj_hsj_ne, hj_hri]; done) | rfl
theorem j_f_m_read {a0 : Int32} {h : XH} {r : Int64 × XH}  (hf : f_m_read a0 h = some r) : hj r.2 1316 = hj h 1316 := by
  unfold f_m_read at hf
  obtain ⟨v1, e1, hf⟩ := xb_or hf
  replace e1 := j_f_m_isPart e1
  rcases xi_or hf with ⟨-, hf⟩ | ⟨-, hf⟩
  · refine (j_b_m_read_22 hf).trans ?_
    first | (simp (disch := decide) only [hj_hsi, hj_hsj_ne, hj_hri, e1]; done) | rfl
  · obtain ⟨v2, e2, hf⟩ := xb_or hf
    replace e2 := j_f_m_partSort e2
    refine (j_b_m_read_22 hf).trans ?_
    first | (simp (disch := decide) only [hj_hsi, hj_hsj_ne, hj_hri, e2, e1]; done) | rfl
