/-! No method of the model touches the law's own cell (more) -/
theorem j_b_m_structBody_35   : ∀ {n : Nat} {q0 : Int32} {q1 : Int32} {h : XH} {r : Unit × XH}, b_m_structBody_35  n q0 q1 h = some r → hj r.2 1316 = hj h 1316 := by
  intro n
  induction n with
  | zero => intro _ _ _ _ hf; cases hf
  | succ n ih => intro _ _ _ _ hf; exact j_s_m_structBody_35 (fun _ _ _ _ e => ih e) hf
theorem j_f_m_structBody {h : XH} {r : Unit × XH}  (hf : f_m_structBody h = some r) : hj r.2 1316 = hj h 1316 := by
  unfold f_m_structBody at hf
  rcases xi_or hf with ⟨-, hf⟩ | ⟨-, hf⟩
  · refine (j_b_m_structBody_35 hf).trans ?_
    first | (simp (disch := decide) only [hj_hsi, hj_hsj_ne, hj_hri]; done) | rfl
  · exact xn_or hf
theorem j_b_m_isValue_122 {h : XH} {r : Int32 × XH}  (hf : b_m_isValue_122 h = some r) : hj r.2 1316 = hj h 1316 := by
  unfold b_m_isValue_122 at hf
  obtain rfl := Option.some.inj hf
  first | (simp (disch := decide) only [hj_hsi, hj_hsj_ne, hj_hri]; done) | rfl
theorem j_b_m_isValue_90 {x1 : Int64} {x3 : Int32} {y0 : Int32} {h : XH} {r : Int32 × XH}  (hf : b_m_isValue_90 x1 x3 y0 h = some r) : hj r.2 1316 = hj h 1316 := by
  unfold b_m_isValue_90 at hf
  rcases xi_or hf with ⟨-, hf⟩ | ⟨-, hf⟩
  · rcases xi_or hf with ⟨-, hf⟩ | ⟨-, hf⟩
    · obtain rfl := Option.some.inj hf
      first | (simp (disch := decide) only [hj_hsi, hj_hsj_ne, hj_hri]; done) | rfl
    · rcases xi_or hf with ⟨-, hf⟩ | ⟨-, hf⟩
      · obtain rfl := Option.some.inj hf
        first | (simp (disch := decide) only [hj_hsi, hj_hsj_ne, hj_hri]; done) | rfl
      · obtain rfl := Option.some.inj hf
        first | (simp (disch := decide) only [hj_hsi, hj_hsj_ne, hj_hri]; done) | rfl
  · rcases xi_or hf with ⟨-, hf⟩ | ⟨-, hf⟩
    · refine (j_b_m_isValue_122 hf).trans ?_
      first | (simp (disch := decide) only [hj_hsi, hj_hsj_ne, hj_hri]; done) | rfl
    · rcases xi_or hf with ⟨-, hf⟩ | ⟨-, hf⟩
      · refine (j_b_m_isValue_122 hf).trans ?_
        first | (simp (disch := decide) only [hj_hsi, hj_hsj_ne, hj_hri]; done) | rfl
      · obtain rfl := Option.some.inj hf
        first | (simp (disch := decide) only [hj_hsi, hj_hsj_ne, hj_hri]; done) | rfl
theorem j_b_m_isValue_85 {x1 : Int64} {x3 : Int32} {h : XH} {r : Int32 × XH}  (hf : b_m_isValue_85 x1 x3 h = some r) : hj r.2 1316 = hj h 1316 := by
  unfold b_m_isValue_85 at hf
  refine (j_b_m_isValue_90 hf).trans ?_
  first | (simp (disch := decide) only [hj_hsi, hj_hsj_ne, hj_hri]; done) | rfl
theorem j_b_m_isValue_16 {h : XH} {r : Int32 × XH}  (hf : b_m_isValue_16 h = some r) : hj r.2 1316 = hj h 1316 := by
  unfold b_m_isValue_16 at hf
  obtain rfl := Option.some.inj hf
  first | (simp (disch := decide) only [hj_hsi, hj_hsj_ne, hj_hri]; done) | rfl
theorem j_f_m_isValue {a0 : Int32} {a1 : Int64} {h : XH} {r : Int32 × XH}  (hf : f_m_isValue a0 a1 h = some r) : hj r.2 1316 = hj h 1316 := by
  unfold f_m_isValue at hf
  rcases xi_or hf with ⟨-, hf⟩ | ⟨-, hf⟩
  · rcases xi_or hf with ⟨-, hf⟩ | ⟨-, hf⟩
    · obtain rfl := Option.some.inj hf
      first | (simp (disch := decide) only [hj_hsi, hj_hsj_ne, hj_hri]; done) | rfl
    · rcases xi_or hf with ⟨-, hf⟩ | ⟨-, hf⟩
      · obtain rfl := Option.some.inj hf
        first | (simp (disch := decide) only [hj_hsi, hj_hsj_ne, hj_hri]; done) | rfl
      · rcases xi_or hf with ⟨-, hf⟩ | ⟨-, hf⟩
        · rcases xi_or hf with ⟨-, hf⟩ | ⟨-, hf⟩
          · obtain ⟨v1, e1, hf⟩ := xb_or hf
            replace e1 := j_f_m_bytesOf e1
            rcases xi_or hf with ⟨-, hf⟩ | ⟨-, hf⟩
            · refine (j_b_m_isValue_85 hf).trans ?_
              first | (simp (disch := decide) only [hj_hsi, hj_hsj_ne, hj_hri, e1]; done) | rfl
            · rcases xi_or hf with ⟨-, hf⟩ | ⟨-, hf⟩
              · refine (j_b_m_isValue_85 hf).trans ?_
                first | (simp (disch := decide) only [hj_hsi, hj_hsj_ne, hj_hri, e1]; done) | rfl
              · rcases xi_or hf with ⟨-, hf⟩ | ⟨-, hf⟩
                · refine (j_b_m_isValue_90 hf).trans ?_
                  first | (simp (disch := decide) only [hj_hsi, hj_hsj_ne, hj_hri, e1]; done) | rfl
                · refine (j_b_m_isValue_85 hf).trans ?_
                  first | (simp (disch := decide) only [hj_hsi, hj_hsj_ne, hj_hri, e1]; done) | rfl
          · rcases xi_or hf with ⟨-, hf⟩ | ⟨-, hf⟩
            · obtain rfl := Option.some.inj hf
              first | (simp (disch := decide) only [hj_hsi, hj_hsj_ne, hj_hri]; done) | rfl
            · obtain rfl := Option.some.inj hf
              first | (simp (disch := decide) only [hj_hsi, hj_hsj_ne, hj_hri]; done) | rfl
        · obtain rfl := Option.some.inj hf
          first | (simp (disch := decide) only [hj_hsi, hj_hsj_ne, hj_hri]; done) | rfl
  · rcases xi_or hf with ⟨-, hf⟩ | ⟨-, hf⟩
    · refine (j_b_m_isValue_16 hf).trans ?_
      first | (simp (disch := decide) only [hj_hsi, hj_hsj_ne, hj_hri]; done) | rfl
    · rcases xi_or hf with ⟨-, hf⟩ | ⟨-, hf⟩
      · obtain rfl := Option.some.inj hf
        first | (simp (disch := decide) only [hj_hsi, hj_hsj_ne, hj_hri]; done) | rfl
      · refine (j_b_m_isValue_16 hf).trans ?_
        first | (simp (disch := decide) only [hj_hsi, hj_hsj_ne, hj_hri]; done) | rfl
theorem j_b_m_defaults_220 {x1 : Int32} {x3 : Int64} {h : XH} {r : Unit × XH}  (hf : b_m_defaults_220 x1 x3 h = some r) : hj r.2 1316 = hj h 1316 := by
  unfold b_m_defaults_220 at hf
  rcases xi_or hf with ⟨-, hf⟩ | ⟨-, hf⟩
  · obtain ⟨v1, e1, hf⟩ := xb_or hf
    replace e1 := j_f_m_take e1
    obtain rfl := Option.some.inj hf
    first | (simp (disch := decide) only [hj_hsi, hj_hsj_ne, hj_hri, e1]; done) | rfl
  · exact xn_or hf
theorem j_b_m_defaults_213 {h : XH} {r : Unit × XH}  (hf : b_m_defaults_213 h = some r) : hj r.2 1316 = hj h 1316 := by
  unfold b_m_defaults_213 at hf
  obtain ⟨v1, e1, hf⟩ := xb_or hf
  replace e1 := j_f_m_flaw e1
  obtain rfl := Option.some.inj hf
  first | (simp (disch := decide) only [hj_hsi, hj_hsj_ne, hj_hri, e1]; done) | rfl
theorem j_b_m_defaults_182 {x1 : Int32} {y0 : Int64} {h : XH} {r : Unit × XH}  (hf : b_m_defaults_182 x1 y0 h = some r) : hj r.2 1316 = hj h 1316 := by
  unfold b_m_defaults_182 at hf
  rcases xi_or hf with ⟨-, hf⟩ | ⟨-, hf⟩
  · obtain ⟨v1, e1, hf⟩ := xb_or hf
    replace e1 := j_f_m_isValue e1
    rcases xi_or hf with ⟨-, hf⟩ | ⟨-, hf⟩
    · refine (j_b_m_defaults_213 hf).trans ?_
      first | (simp (disch := decide) only [hj_hsi, hj_hsj_ne, hj_hri, e1]; done) | rfl
    · rcases xi_or hf with ⟨-, hf⟩ | ⟨-, hf⟩
      · rcases xi_or hf with ⟨-, hf⟩ | ⟨-, hf⟩
        · refine (j_b_m_defaults_220 hf).trans ?_
          first | (simp (disch := decide) only [hj_hsi, hj_hsj_ne, hj_hri, e1]; done) | rfl
        · rcases xi_or hf with ⟨-, hf⟩ | ⟨-, hf⟩
          · refine (j_b_m_defaults_220 hf).trans ?_
            first | (simp (disch := decide) only [hj_hsi, hj_hsj_ne, hj_hri, e1]; done) | rfl
          · refine (j_b_m_defaults_213 hf).trans ?_
            first | (simp (disch := decide) only [hj_hsi, hj_hsj_ne, hj_hri, e1]; done) | rfl
      · exact xn_or hf
  · exact xn_or hf
theorem j_s_m_defaults_133 {K133 : Int32 → Int32 → Int64 → Int32 → XH → Option (Unit × XH)} {x1 : Int32} {x2 : Int32} {x3 : Int64} {x5 : Int32} {h : XH} {r : Unit × XH} (hK133 : ∀ (q0 : Int32) (q1 : Int32) (q2 : Int64) (q3 : Int32) (qh : XH) (qr : Unit × XH), K133 q0 q1 q2 q3 qh = some qr → hj qr.2 1316 = hj qh 1316) (hf : s_m_defaults_133 K133 x1 x2 x3 x5 h = some r) : hj r.2 1316 = hj h 1316 := by
  unfold s_m_defaults_133 at hf
  rcases xi_or hf with ⟨-, hf⟩ | ⟨-, hf⟩
  · rcases xi_or hf with ⟨-, hf⟩ | ⟨-, hf⟩
    · rcases xi_or hf with ⟨-, hf⟩ | ⟨-, hf⟩
      · refine (j_b_m_defaults_182 hf).trans ?_
        first | (simp (disch := decide) only [hj_hsi, hj_hsj_ne, hj_hri]; done) | rfl
      · refine (j_b_m_defaults_182 hf).trans ?_
        first | (simp (disch := decide) only [hj_hsi, hj_hsj_ne, hj_hri]; done) | rfl
    · rcases xi_or hf with ⟨-, hf⟩ | ⟨-, hf⟩
      · refine (hK133 _ _ _ _ _ _ hf).trans ?_
        first | (simp (disch := decide) only [hj_hsi, hj_hsj_ne, hj_hri]; done) | rfl
      · exact xn_or hf
  · exact xn_or hf
theorem j_b_m_defaults_133   : ∀ {n : Nat} {q0 : Int32} {q1 : Int32} {q2 : Int64} {q3 : Int32} {h : XH} {r : Unit × XH}, b_m_defaults_133  n q0 q1 q2 q3 h = some r → hj r.2 1316 = hj h 1316 := by
  intro n
  induction n with
  | zero => intro _ _ _ _ _ _ hf; cases hf
  | succ n ih => intro _ _ _ _ _ _ hf; exact j_s_m_defaults_133 (fun _ _ _ _ _ _ e => ih e) hf
theorem j_b_m_defaults_130 {x1 : Int32} {x2 : Int32} {x3 : Int64} {y0 : Int32} {y1 : Int32} {h : XH} {r : Unit × XH}  (hf : b_m_defaults_130 x1 x2 x3 y0 y1 h = some r) : hj r.2 1316 = hj h 1316 := by
  unfold b_m_defaults_130 at hf
  refine (j_b_m_defaults_133 hf).trans ?_
  first | (simp (disch := decide) only [hj_hsi, hj_hsj_ne, hj_hri]; done) | rfl
theorem j_b_m_defaults_109 {x1 : Int32} {y0 : Int32} {h : XH} {r : Unit × XH}  (hf : b_m_defaults_109 x1 y0 h = some r) : hj r.2 1316 = hj h 1316 := by
  unfold b_m_defaults_109 at hf
  rcases xi_or hf with ⟨-, hf⟩ | ⟨-, hf⟩
  · rcases xi_or hf with ⟨-, hf⟩ | ⟨-, hf⟩
    · refine (j_b_m_defaults_130 hf).trans ?_
      first | (simp (disch := decide) only [hj_hsi, hj_hsj_ne, hj_hri]; done) | rfl
    · refine (j_b_m_defaults_130 hf).trans ?_
      first | (simp (disch := decide) only [hj_hsi, hj_hsj_ne, hj_hri]; done) | rfl
  · exact xn_or hf
theorem j_b_m_defaults_56 {h : XH} {r : Unit × XH}  (hf : b_m_defaults_56 h = some r) : hj r.2 1316 = hj h 1316 := by
  unfold b_m_defaults_56 at hf
  obtain ⟨v1, e1, hf⟩ := xb_or hf
  replace e1 := j_f_m_flaw e1
  obtain rfl := Option.some.inj hf
  first | (simp (disch := decide) only [hj_hsi, hj_hsj_ne, hj_hri, e1]; done) | rfl
theorem j_f_m_defaults {a0 : Int32} {h : XH} {r : Unit × XH}  (hf : f_m_defaults a0 h = some r) : hj r.2 1316 = hj h 1316 := by
  unfold f_m_defaults at hf
  rcases xi_or hf with ⟨-, hf⟩ | ⟨-, hf⟩
  · rcases xi_or hf with ⟨-, hf⟩ | ⟨-, hf⟩
    · obtain ⟨v1, e1, hf⟩ := xb_or hf
      replace e1 := j_f_m_isSign e1
      rcases xi_or hf with ⟨-, hf⟩ | ⟨-, hf⟩
      · rcases xi_or hf with ⟨-, hf⟩ | ⟨-, hf⟩
        · rcases xi_or hf with ⟨-, hf⟩ | ⟨-, hf⟩
          · refine (j_b_m_defaults_56 hf).trans ?_
            first | (simp (disch := decide) only [hj_hsi, hj_hsj_ne, hj_hri, e1]; done) | rfl
          · rcases xi_or hf with ⟨-, hf⟩ | ⟨-, hf⟩
            · refine (j_b_m_defaults_56 hf).trans ?_
              first | (simp (disch := decide) only [hj_hsi, hj_hsj_ne, hj_hri, e1]; done) | rfl
            · rcases xi_or hf with ⟨-, hf⟩ | ⟨-, hf⟩
              · obtain ⟨v2, e2, hf⟩ := xb_or hf
                replace e2 := j_f_m_take e2
                rcases xi_or hf with ⟨-, hf⟩ | ⟨-, hf⟩
                · rcases xi_or hf with ⟨-, hf⟩ | ⟨-, hf⟩
                  · rcases xi_or hf with ⟨-, hf⟩ | ⟨-, hf⟩
                    · rcases xi_or hf with ⟨-, hf⟩ | ⟨-, hf⟩
                      · refine (j_b_m_defaults_109 hf).trans ?_
                        first | (simp (disch := decide) only [hj_hsi, hj_hsj_ne, hj_hri, e2, e1]; done) | rfl
                      · refine (j_b_m_defaults_109 hf).trans ?_
                        first | (simp (disch := decide) only [hj_hsi, hj_hsj_ne, hj_hri, e2, e1]; done) | rfl
                    · exact xn_or hf
                  · obtain ⟨v3, e3, hf⟩ := xb_or hf
                    replace e3 := j_f_m_misfit e3
                    obtain rfl := Option.some.inj hf
                    first | (simp (disch := decide) only [hj_hsi, hj_hsj_ne, hj_hri, e3, e2, e1]; done) | rfl
                · exact xn_or hf
              · refine (j_b_m_defaults_56 hf).trans ?_
                first | (simp (disch := decide) only [hj_hsi, hj_hsj_ne, hj_hri, e1]; done) | rfl
        · exact xn_or hf
      · obtain rfl := Option.some.inj hf
        first | (simp (disch := decide) only [hj_hsi, hj_hsj_ne, hj_hri, e1]; done) | rfl
    · exact xn_or hf
  · obtain rfl := Option.some.inj hf
    first | (simp (disch := decide) only [hj_hsi, hj_hsj_ne, hj_hri]; done) | rfl
theorem j_f_m_needed {a0 : Int32} {h : XH} {r : Unit × XH}  (hf : f_m_needed a0 h = some r) : hj r.2 1316 = hj h 1316 := by
  unfold f_m_needed at hf
  rcases xi_or hf with ⟨-, hf⟩ | ⟨-, hf⟩
  · rcases xi_or hf with ⟨-, hf⟩ | ⟨-, hf⟩
    · obtain ⟨v1, e1, hf⟩ := xb_or hf
      replace e1 := j_f_m_isSign e1
      rcases xi_or hf with ⟨-, hf⟩ | ⟨-, hf⟩
      · rcases xi_or hf with ⟨-, hf⟩ | ⟨-, hf⟩
        · rcases xi_or hf with ⟨-, hf⟩ | ⟨-, hf⟩
          · obtain ⟨v2, e2, hf⟩ := xb_or hf
            replace e2 := j_f_m_take e2
            obtain ⟨v3, e3, hf⟩ := xb_or hf
            replace e3 := j_f_m_isWord e3
            rcases xi_or hf with ⟨-, hf⟩ | ⟨-, hf⟩
            · rcases xi_or hf with ⟨-, hf⟩ | ⟨-, hf⟩
              · obtain ⟨v4, e4, hf⟩ := xb_or hf
                replace e4 := j_f_m_take e4
                obtain ⟨v5, e5, hf⟩ := xb_or hf
                replace e5 := j_f_m_sign e5
                obtain rfl := Option.some.inj hf
                first | (simp (disch := decide) only [hj_hsi, hj_hsj_ne, hj_hri, e5, e4, e3, e2, e1]; done) | rfl
              · exact xn_or hf
            · obtain ⟨v6, e6, hf⟩ := xb_or hf
              replace e6 := j_f_m_misfit e6
              obtain rfl := Option.some.inj hf
              first | (simp (disch := decide) only [hj_hsi, hj_hsj_ne, hj_hri, e6, e3, e2, e1]; done) | rfl
          · obtain ⟨v7, e7, hf⟩ := xb_or hf
            replace e7 := j_f_m_flaw e7
            obtain rfl := Option.some.inj hf
            first | (simp (disch := decide) only [hj_hsi, hj_hsj_ne, hj_hri, e7, e1]; done) | rfl
        · exact xn_or hf
      · obtain rfl := Option.some.inj hf
        first | (simp (disch := decide) only [hj_hsi, hj_hsj_ne, hj_hri, e1]; done) | rfl
    · exact xn_or hf
  · obtain rfl := Option.some.inj hf
    first | (simp (disch := decide) only [hj_hsi, hj_hsj_ne, hj_hri]; done) | rfl
theorem j_b_m_tableType_148 {x2 : Int32} {h : XH} {r : Unit × XH}  (hf : b_m_tableType_148 x2 h = some r) : hj r.2 1316 = hj h 1316 := by
  unfold b_m_tableType_148 at hf
  obtain ⟨v1, e1, hf⟩ := xb_or hf
  replace e1 := j_f_m_take e1
  rcases xi_or hf with ⟨-, hf⟩ | ⟨-, hf⟩
  · obtain rfl := Option.some.inj hf
    first | (simp (disch := decide) only [hj_hsi, hj_hsj_ne, hj_hri, e1]; done) | rfl
  · obtain ⟨v2, e2, hf⟩ := xb_or hf
    replace e2 := j_f_m_sign e2
    obtain rfl := Option.some.inj hf
    first | (simp (disch := decide) only [hj_hsi, hj_hsj_ne, hj_hri, e2, e1]; done) | rfl
theorem j_b_m_tableType_136 {x1 : Int32} {x2 : Int32} {x3 : Int32} {y1 : Int32} {y2 : Int32} {h : XH} {r : Unit × XH}  (hf : b_m_tableType_136 x1 x2 x3 y1 y2 h = some r) : hj r.2 1316 = hj h 1316 := by
  unfold b_m_tableType_136 at hf
  rcases xi_or hf with ⟨-, hf⟩ | ⟨-, hf⟩
  · rcases xi_or hf with ⟨-, hf⟩ | ⟨-, hf⟩
    · refine (j_b_m_tableType_148 hf).trans ?_
      first | (simp (disch := decide) only [hj_hsi, hj_hsj_ne, hj_hri]; done) | rfl
    · rcases xi_or hf with ⟨-, hf⟩ | ⟨-, hf⟩
      · refine (j_b_m_tableType_148 hf).trans ?_
        first | (simp (disch := decide) only [hj_hsi, hj_hsj_ne, hj_hri]; done) | rfl
      · exact xn_or hf
  · exact xn_or hf
theorem j_b_m_tableType_122 {x1 : Int32} {x2 : Int32} {x3 : Int32} {h : XH} {r : Unit × XH}  (hf : b_m_tableType_122 x1 x2 x3 h = some r) : hj r.2 1316 = hj h 1316 := by
  unfold b_m_tableType_122 at hf
  rcases xi_or hf with ⟨-, hf⟩ | ⟨-, hf⟩
  · refine (j_b_m_tableType_136 hf).trans ?_
    first | (simp (disch := decide) only [hj_hsi, hj_hsj_ne, hj_hri]; done) | rfl
  · refine (j_b_m_tableType_136 hf).trans ?_
    first | (simp (disch := decide) only [hj_hsi, hj_hsj_ne, hj_hri]; done) | rfl
theorem j_b_m_tableType_118 {x1 : Int32} {x2 : Int32} {x3 : Int32} {y1 : Int32} {y2 : Int32} {h : XH} {r : Unit × XH}  (hf : b_m_tableType_118 x1 x2 x3 y1 y2 h = some r) : hj r.2 1316 = hj h 1316 := by
  unfold b_m_tableType_118 at hf
  obtain ⟨v1, e1, hf⟩ := xb_or hf
  replace e1 := j_f_m_ask e1
  refine (j_b_m_tableType_122 hf).trans ?_
  first | (simp (disch := decide) only [hj_hsi, hj_hsj_ne, hj_hri, e1]; done) | rfl
theorem j_b_m_tableType_99 {x1 : Int32} {x2 : Int32} {x3 : Int32} {h : XH} {r : Unit × XH}  (hf : b_m_tableType_99 x1 x2 x3 h = some r) : hj r.2 1316 = hj h 1316 := by
  unfold b_m_tableType_99 at hf
  rcases xi_or hf with ⟨-, hf⟩ | ⟨-, hf⟩
  · refine (j_b_m_tableType_122 hf).trans ?_
    first | (simp (disch := decide) only [hj_hsi, hj_hsj_ne, hj_hri]; done) | rfl
  · rcases xi_or hf with ⟨-, hf⟩ | ⟨-, hf⟩
    · refine (j_b_m_tableType_118 hf).trans ?_
      first | (simp (disch := decide) only [hj_hsi, hj_hsj_ne, hj_hri]; done) | rfl
    · refine (j_b_m_tableType_118 hf).trans ?_
      first | (simp (disch := decide) only [hj_hsi, hj_hsj_ne, hj_hri]; done) | rfl
theorem j_b_m_tableType_80 {x1 : Int32} {x2 : Int32} {x3 : Int32} {h : XH} {r : Unit × XH}  (hf : b_m_tableType_80 x1 x2 x3 h = some r) : hj r.2 1316 = hj h 1316 := by
  unfold b_m_tableType_80 at hf
  rcases xi_or hf with ⟨-, hf⟩ | ⟨-, hf⟩
  · refine (j_b_m_tableType_99 hf).trans ?_
    first | (simp (disch := decide) only [hj_hsi, hj_hsj_ne, hj_hri]; done) | rfl
  · rcases xi_or hf with ⟨-, hf⟩ | ⟨-, hf⟩
    · rcases xi_or hf with ⟨-, hf⟩ | ⟨-, hf⟩
      · refine (j_b_m_tableType_99 hf).trans ?_
        first | (simp (disch := decide) only [hj_hsi, hj_hsj_ne, hj_hri]; done) | rfl
      · exact xn_or hf
    · exact xn_or hf
theorem j_b_m_tableType_62 {x1 : Int32} {x2 : Int32} {y0 : Int32} {h : XH} {r : Unit × XH}  (hf : b_m_tableType_62 x1 x2 y0 h = some r) : hj r.2 1316 = hj h 1316 := by
  unfold b_m_tableType_62 at hf
  rcases xi_or hf with ⟨-, hf⟩ | ⟨-, hf⟩
  · refine (j_b_m_tableType_80 hf).trans ?_
    first | (simp (disch := decide) only [hj_hsi, hj_hsj_ne, hj_hri]; done) | rfl
  · obtain ⟨v1, e1, hf⟩ := xb_or hf
    replace e1 := j_f_m_isName e1
    rcases xi_or hf with ⟨-, hf⟩ | ⟨-, hf⟩
    · refine (j_b_m_tableType_80 hf).trans ?_
      first | (simp (disch := decide) only [hj_hsi, hj_hsj_ne, hj_hri, e1]; done) | rfl
    · obtain ⟨v2, e2, hf⟩ := xb_or hf
      replace e2 := j_f_m_misfit e2
      obtain rfl := Option.some.inj hf
      first | (simp (disch := decide) only [hj_hsi, hj_hsj_ne, hj_hri, e2, e1]; done) | rfl
theorem j_b_m_tableType_37 {x1 : Int32} {x2 : Int32} {h : XH} {r : Unit × XH}  (hf : b_m_tableType_37 x1 x2 h = some r) : hj r.2 1316 = hj h 1316 := by
  unfold b_m_tableType_37 at hf
  obtain ⟨v1, e1, hf⟩ := xb_or hf
  replace e1 := j_f_m_isScalar e1
  rcases xi_or hf with ⟨-, hf⟩ | ⟨-, hf⟩
  · obtain ⟨v2, e2, hf⟩ := xb_or hf
    replace e2 := j_f_m_isWord e2
    rcases xi_or hf with ⟨-, hf⟩ | ⟨-, hf⟩
    · refine (j_b_m_tableType_62 hf).trans ?_
      first | (simp (disch := decide) only [hj_hsi, hj_hsj_ne, hj_hri, e2, e1]; done) | rfl
    · refine (j_b_m_tableType_62 hf).trans ?_
      first | (simp (disch := decide) only [hj_hsi, hj_hsj_ne, hj_hri, e2, e1]; done) | rfl
  · refine (j_b_m_tableType_62 hf).trans ?_
    first | (simp (disch := decide) only [hj_hsi, hj_hsj_ne, hj_hri, e1]; done) | rfl
theorem j_f_m_tableType {a0 : Int32} {h : XH} {r : Unit × XH}  (hf : f_m_tableType a0 h = some r) : hj r.2 1316 = hj h 1316 := by
  unfold f_m_tableType at hf
  rcases xi_or hf with ⟨-, hf⟩ | ⟨-, hf⟩
  · rcases xi_or hf with ⟨-, hf⟩ | ⟨-, hf⟩
    · obtain ⟨v1, e1, hf⟩ := xb_or hf
      replace e1 := j_f_m_isSign e1
      rcases xi_or hf with ⟨-, hf⟩ | ⟨-, hf⟩
      · refine (j_b_m_tableType_37 hf).trans ?_
        first | (simp (disch := decide) only [hj_hsi, hj_hsj_ne, hj_hri, e1]; done) | rfl
      · obtain ⟨v2, e2, hf⟩ := xb_or hf
        replace e2 := j_f_m_take e2
        refine (j_b_m_tableType_37 hf).trans ?_
        first | (simp (disch := decide) only [hj_hsi, hj_hsj_ne, hj_hri, e2, e1]; done) | rfl
    · exact xn_or hf
  · obtain rfl := Option.some.inj hf
    first | (simp (disch := decide) only [hj_hsi, hj_hsj_ne, hj_hri]; done) | rfl
theorem j_b_m_tableBody_123 {h : XH} {r : Unit × XH}  (hf : b_m_tableBody_123 h = some r) : hj r.2 1316 = hj h 1316 := by
  unfold b_m_tableBody_123 at hf
  obtain ⟨v1, e1, hf⟩ := xb_or hf
  replace e1 := j_f_m_sign e1
  obtain rfl := Option.some.inj hf
  first | (simp (disch := decide) only [hj_hsi, hj_hsj_ne, hj_hri, e1]; done) | rfl
theorem j_b_m_tableBody_120 {K12 : Int32 → XH → Option (Unit × XH)} {x1 : Int32} {h : XH} {r : Unit × XH} (hK12 : ∀ (q0 : Int32) (qh : XH) (qr : Unit × XH), K12 q0 qh = some qr → hj qr.2 1316 = hj qh 1316) (hf : b_m_tableBody_120 K12 x1 h = some r) : hj r.2 1316 = hj h 1316 := by
  unfold b_m_tableBody_120 at hf
  refine (hK12 _ _ _ hf).trans ?_
  first | (simp (disch := decide) only [hj_hsi, hj_hsj_ne, hj_hri]; done) | rfl
theorem j_s_m_tableBody_12 {K12 : Int32 → XH → Option (Unit × XH)} {x1 : Int32} {h : XH} {r : Unit × XH} (hK12 : ∀ (q0 : Int32) (qh : XH) (qr : Unit × XH), K12 q0 qh = some qr → hj qr.2 1316 = hj qh 1316) (hf : s_m_tableBody_12 K12 x1 h = some r) : hj r.2 1316 = hj h 1316 := by
  unfold s_m_tableBody_12 at hf
  rcases xi_or hf with ⟨-, hf⟩ | ⟨-, hf⟩
  · refine (j_b_m_tableBody_123 hf).trans ?_
    first | (simp (disch := decide) only [hj_hsi, hj_hsj_ne, hj_hri]; done) | rfl
  · obtain ⟨v1, e1, hf⟩ := xb_or hf
    replace e1 := j_f_m_isSign e1
    rcases xi_or hf with ⟨-, hf⟩ | ⟨-, hf⟩
    · refine (j_b_m_tableBody_123 hf).trans ?_
      first | (simp (disch := decide) only [hj_hsi, hj_hsj_ne, hj_hri, e1]; done) | rfl
    · rcases xi_or hf with ⟨-, hf⟩ | ⟨-, hf⟩
      · obtain ⟨v2, e2, hf⟩ := xb_or hf
        replace e2 := j_f_m_fresh e2
        obtain ⟨v3, e3, hf⟩ := xb_or hf
        replace e3 := j_f_m_take e3
        obtain ⟨v4, e4, hf⟩ := xb_or hf
        replace e4 := j_f_m_sign e4
        obtain ⟨v5, e5, hf⟩ := xb_or hf
        replace e5 := j_f_m_tableType e5
        obtain ⟨v6, e6, hf⟩ := xb_or hf
        replace e6 := j_f_m_defaults e6
        obtain ⟨v7, e7, hf⟩ := xb_or hf
        replace e7 := j_f_m_needed e7
        obtain ⟨v8, e8, hf⟩ := xb_or hf
        replace e8 := j_f_m_sign e8
        rcases xi_or hf with ⟨-, hf⟩ | ⟨-, hf⟩
        · refine (j_b_m_tableBody_120 hK12 hf).trans ?_
          first | (simp (disch := decide) only [hj_hsi, hj_hsj_ne, hj_hri, e8, e7, e6, e5, e4, e3, e2, e1]; done) | rfl
        · rcases xi_or hf with ⟨-, hf⟩ | ⟨-, hf⟩
          · rcases xi_or hf with ⟨-, hf⟩ | ⟨-, hf⟩
            · refine (j_b_m_tableBody_120 hK12 hf).trans ?_
              first | (simp (disch := decide) only [hj_hsi, hj_hsj_ne, hj_hri, e8, e7, e6, e5, e4, e3, e2, e1]; done) | rfl
            · exact xn_or hf
          · exact xn_or hf
      · exact xn_or hf
theorem j_b_m_tableBody_12   : ∀ {n : Nat} {q0 : Int32} {h : XH} {r : Unit × XH}, b_m_tableBody_12  n q0 h = some r → hj r.2 1316 = hj h 1316 := by
  intro n
  induction n with
  | zero => intro _ _ _ hf; cases hf
  | succ n ih => intro _ _ _ hf; exact j_s_m_tableBody_12 (fun _ _ _ e => ih e) hf
theorem j_f_m_tableBody {h : XH} {r : Unit × XH}  (hf : f_m_tableBody h = some r) : hj r.2 1316 = hj h 1316 := by
  unfold f_m_tableBody at hf
  rcases xi_or hf with ⟨-, hf⟩ | ⟨-, hf⟩
  · refine (j_b_m_tableBody_12 hf).trans ?_
    first | (simp (disch := decide) only [hj_hsi, hj_hsj_ne, hj_hri]; done) | rfl
  · exact xn_or hf
theorem j_b_m_unionBody_116 {h : XH} {r : Unit × XH}  (hf : b_m_unionBody_116 h = some r) : hj r.2 1316 = hj h 1316 := by
  unfold b_m_unionBody_116 at hf
  obtain ⟨v1, e1, hf⟩ := xb_or hf
  replace e1 := j_f_m_sign e1
  obtain rfl := Option.some.inj hf
  first | (simp (disch := decide) only [hj_hsi, hj_hsj_ne, hj_hri, e1]; done) | rfl
theorem j_b_m_unionBody_113 {K14 : Int32 → Int32 → XH → Option (Unit × XH)} {x1 : Int32} {x2 : Int32} {h : XH} {r : Unit × XH} (hK14 : ∀ (q0 : Int32) (q1 : Int32) (qh : XH) (qr : Unit × XH), K14 q0 q1 qh = some qr → hj qr.2 1316 = hj qh 1316) (hf : b_m_unionBody_113 K14 x1 x2 h = some r) : hj r.2 1316 = hj h 1316 := by
  unfold b_m_unionBody_113 at hf
  refine (hK14 _ _ _ _ hf).trans ?_
  first | (simp (disch := decide) only [hj_hsi, hj_hsj_ne, hj_hri]; done) | rfl
theorem j_b_m_unionBody_94 {K14 : Int32 → Int32 → XH → Option (Unit × XH)} {x1 : Int32} {h : XH} {r : Unit × XH} (hK14 : ∀ (q0 : Int32) (q1 : Int32) (qh : XH) (qr : Unit × XH), K14 q0 q1 qh = some qr → hj qr.2 1316 = hj qh 1316) (hf : b_m_unionBody_94 K14 x1 h = some r) : hj r.2 1316 = hj h 1316 := by
  unfold b_m_unionBody_94 at hf
  obtain ⟨v1, e1, hf⟩ := xb_or hf
  replace e1 := j_f_m_take e1
  obtain ⟨v2, e2, hf⟩ := xb_or hf
  replace e2 := j_f_m_isSign e2
  rcases xi_or hf with ⟨-, hf⟩ | ⟨-, hf⟩
  · refine (j_b_m_unionBody_113 hK14 hf).trans ?_
    first | (simp (disch := decide) only [hj_hsi, hj_hsj_ne, hj_hri, e2, e1]; done) | rfl
  · obtain ⟨v3, e3, hf⟩ := xb_or hf
    replace e3 := j_f_m_take e3
    refine (j_b_m_unionBody_113 hK14 hf).trans ?_
    first | (simp (disch := decide) only [hj_hsi, hj_hsj_ne, hj_hri, e3, e2, e1]; done) | rfl
theorem j_s_m_unionBody_14 {K14 : Int32 → Int32 → XH → Option (Unit × XH)} {x1 : Int32} {x2 : Int32} {h : XH} {r : Unit × XH} (hK14 : ∀ (q0 : Int32) (q1 : Int32) (qh : XH) (qr : Unit × XH), K14 q0 q1 qh = some qr → hj qr.2 1316 = hj qh 1316) (hf : s_m_unionBody_14 K14 x1 x2 h = some r) : hj r.2 1316 = hj h 1316 := by
  unfold s_m_unionBody_14 at hf
  rcases xi_or hf with ⟨-, hf⟩ | ⟨-, hf⟩
  · refine (j_b_m_unionBody_116 hf).trans ?_
    first | (simp (disch := decide) only [hj_hsi, hj_hsj_ne, hj_hri]; done) | rfl
  · rcases xi_or hf with ⟨-, hf⟩ | ⟨-, hf⟩
    · refine (j_b_m_unionBody_116 hf).trans ?_
      first | (simp (disch := decide) only [hj_hsi, hj_hsj_ne, hj_hri]; done) | rfl
    · rcases xi_or hf with ⟨-, hf⟩ | ⟨-, hf⟩
      · obtain ⟨v1, e1, hf⟩ := xb_or hf
        replace e1 := j_f_m_fresh e1
        rcases xi_or hf with ⟨-, hf⟩ | ⟨-, hf⟩
        · refine (j_b_m_unionBody_94 hK14 hf).trans ?_
          first | (simp (disch := decide) only [hj_hsi, hj_hsj_ne, hj_hri, e1]; done) | rfl
        · rcases xi_or hf with ⟨-, hf⟩ | ⟨-, hf⟩
          · obtain ⟨v2, e2, hf⟩ := xb_or hf
            replace e2 := j_f_m_ask e2
            rcases xi_or hf with ⟨-, hf⟩ | ⟨-, hf⟩
            · refine (j_b_m_unionBody_94 hK14 hf).trans ?_
              first | (simp (disch := decide) only [hj_hsi, hj_hsj_ne, hj_hri, e2, e1]; done) | rfl
            · exact xn_or hf
          · exact xn_or hf
      · exact xn_or hf
theorem j_b_m_unionBody_14   : ∀ {n : Nat} {q0 : Int32} {q1 : Int32} {h : XH} {r : Unit × XH}, b_m_unionBody_14  n q0 q1 h = some r → hj r.2 1316 = hj h 1316 := by
  intro n
  induction n with
  | zero => intro _ _ _ _ hf; cases hf
  | succ n ih => intro _ _ _ _ hf; exact j_s_m_unionBody_14 (fun _ _ _ _ e => ih e) hf
theorem j_f_m_unionBody {h : XH} {r : Unit × XH}  (hf : f_m_unionBody h = some r) : hj r.2 1316 = hj h 1316 := by
  unfold f_m_unionBody at hf
  rcases xi_or hf with ⟨-, hf⟩ | ⟨-, hf⟩
  · refine (j_b_m_unionBody_14 hf).trans ?_
    first | (simp (disch := decide) only [hj_hsi, hj_hsj_ne, hj_hri]; done) | rfl
  · exact xn_or hf
theorem j_b_m_define_166 {x1 : Int32} {y1 : Int32} {y2 : Int32} {h : XH} {r : Unit × XH}  (hf : b_m_define_166 x1 y1 y2 h = some r) : hj r.2 1316 = hj h 1316 := by
  unfold b_m_define_166 at hf
  rcases xi_or hf with ⟨-, hf⟩ | ⟨-, hf⟩
  · obtain ⟨v1, e1, hf⟩ := xb_or hf
    replace e1 := j_f_m_take e1
    obtain ⟨v2, e2, hf⟩ := xb_or hf
    replace e2 := j_f_m_sign e2
    rcases xi_or hf with ⟨-, hf⟩ | ⟨-, hf⟩
    · rcases xi_or hf with ⟨-, hf⟩ | ⟨-, hf⟩
      · obtain ⟨v3, e3, hf⟩ := xb_or hf
        replace e3 := j_f_m_unionBody e3
        obtain rfl := Option.some.inj hf
        first | (simp (disch := decide) only [hj_hsi, hj_hsj_ne, hj_hri, e3, e2, e1]; done) | rfl
      · obtain ⟨v4, e4, hf⟩ := xb_or hf
        replace e4 := j_f_m_tableBody e4
        obtain rfl := Option.some.inj hf
        first | (simp (disch := decide) only [hj_hsi, hj_hsj_ne, hj_hri, e4, e2, e1]; done) | rfl
    · obtain ⟨v5, e5, hf⟩ := xb_or hf
      replace e5 := j_f_m_structBody e5
      obtain rfl := Option.some.inj hf
      first | (simp (disch := decide) only [hj_hsi, hj_hsj_ne, hj_hri, e5, e2, e1]; done) | rfl
  · exact xn_or hf
theorem j_b_m_define_127 {x1 : Int32} {y1 : Int32} {y2 : Int32} {h : XH} {r : Unit × XH}  (hf : b_m_define_127 x1 y1 y2 h = some r) : hj r.2 1316 = hj h 1316 := by
  unfold b_m_define_127 at hf
  rcases xi_or hf with ⟨-, hf⟩ | ⟨-, hf⟩
  · rcases xi_or hf with ⟨-, hf⟩ | ⟨-, hf⟩
    · rcases xi_or hf with ⟨-, hf⟩ | ⟨-, hf⟩
      · refine (j_b_m_define_166 hf).trans ?_
        first | (simp (disch := decide) only [hj_hsi, hj_hsj_ne, hj_hri]; done) | rfl
      · refine (j_b_m_define_166 hf).trans ?_
        first | (simp (disch := decide) only [hj_hsi, hj_hsj_ne, hj_hri]; done) | rfl
    · refine (j_b_m_define_166 hf).trans ?_
      first | (simp (disch := decide) only [hj_hsi, hj_hsj_ne, hj_hri]; done) | rfl
  · exact xn_or hf
theorem j_b_m_define_85 {x1 : Int32} {h : XH} {r : Unit × XH}  (hf : b_m_define_85 x1 h = some r) : hj r.2 1316 = hj h 1316 := by
  unfold b_m_define_85 at hf
  rcases xi_or hf with ⟨-, hf⟩ | ⟨-, hf⟩
  · rcases xi_or hf with ⟨-, hf⟩ | ⟨-, hf⟩
    · rcases xi_or hf with ⟨-, hf⟩ | ⟨-, hf⟩
      · refine (j_b_m_define_127 hf).trans ?_
        first | (simp (disch := decide) only [hj_hsi, hj_hsj_ne, hj_hri]; done) | rfl
      · refine (j_b_m_define_127 hf).trans ?_
        first | (simp (disch := decide) only [hj_hsi, hj_hsj_ne, hj_hri]; done) | rfl
    · refine (j_b_m_define_127 hf).trans ?_
      first | (simp (disch := decide) only [hj_hsi, hj_hsj_ne, hj_hri]; done) | rfl
  · exact xn_or hf
theorem j_b_m_define_79 {h : XH} {r : Unit × XH}  (hf : b_m_define_79 h = some r) : hj r.2 1316 = hj h 1316 := by
  unfold b_m_define_79 at hf
  obtain ⟨v1, e1, hf⟩ := xb_or hf
  replace e1 := j_f_m_flaw e1
  obtain rfl := Option.some.inj hf
  first | (simp (disch := decide) only [hj_hsi, hj_hsj_ne, hj_hri, e1]; done) | rfl
theorem j_f_m_define {a0 : Int32} {h : XH} {r : Unit × XH}  (hf : f_m_define a0 h = some r) : hj r.2 1316 = hj h 1316 := by
  unfold f_m_define at hf
  obtain ⟨v1, e1, hf⟩ := xb_or hf
  replace e1 := j_f_m_take e1
  obtain ⟨v2, e2, hf⟩ := xb_or hf
  replace e2 := j_f_m_isName e2
  rcases xi_or hf with ⟨-, hf⟩ | ⟨-, hf⟩
  · obtain ⟨v3, e3, hf⟩ := xb_or hf
    replace e3 := j_f_m_definition e3
    rcases xi_or hf with ⟨-, hf⟩ | ⟨-, hf⟩
    · rcases xi_or hf with ⟨-, hf⟩ | ⟨-, hf⟩
      · rcases xi_or hf with ⟨-, hf⟩ | ⟨-, hf⟩
        · rcases xi_or hf with ⟨-, hf⟩ | ⟨-, hf⟩
          · refine (j_b_m_define_85 hf).trans ?_
            first | (simp (disch := decide) only [hj_hsi, hj_hsj_ne, hj_hri, e3, e2, e1]; done) | rfl
          · refine (j_b_m_define_79 hf).trans ?_
            first | (simp (disch := decide) only [hj_hsi, hj_hsj_ne, hj_hri, e3, e2, e1]; done) | rfl
        · rcases xi_or hf with ⟨-, hf⟩ | ⟨-, hf⟩
          · refine (j_b_m_define_85 hf).trans ?_
            first | (simp (disch := decide) only [hj_hsi, hj_hsj_ne, hj_hri, e3, e2, e1]; done) | rfl
          · refine (j_b_m_define_79 hf).trans ?_
            first | (simp (disch := decide) only [hj_hsi, hj_hsj_ne, hj_hri, e3, e2, e1]; done) | rfl
      · rcases xi_or hf with ⟨-, hf⟩ | ⟨-, hf⟩
        · refine (j_b_m_define_85 hf).trans ?_
          first | (simp (disch := decide) only [hj_hsi, hj_hsj_ne, hj_hri, e3, e2, e1]; done) | rfl
        · refine (j_b_m_define_79 hf).trans ?_
          first | (simp (disch := decide) only [hj_hsi, hj_hsj_ne, hj_hri, e3, e2, e1]; done) | rfl
    · obtain ⟨v4, e4, hf⟩ := xb_or hf
      replace e4 := j_f_m_flaw e4
      obtain rfl := Option.some.inj hf
      first | (simp (disch := decide) only [hj_hsi, hj_hsj_ne, hj_hri, e4, e3, e2, e1]; done) | rfl
  · obtain ⟨v5, e5, hf⟩ := xb_or hf
    replace e5 := j_f_m_misfit e5
    obtain rfl := Option.some.inj hf
    first | (simp (disch := decide) only [hj_hsi, hj_hsj_ne, hj_hri, e5, e2, e1]; done) | rfl
theorem j_b_m_resolve_279 {K226 : Int32 → XH → Option (Unit × XH)} {K241 : Int32 → Int32 → Int32 → XH → Option (Unit × XH)} {x1 : Int32} {x3 : Int32} {y0 : Int32} {y1 : Int32} {h : XH} {r : Unit × XH} (hK226 : ∀ (q0 : Int32) (qh : XH) (qr : Unit × XH), K226 q0 qh = some qr → hj qr.2 1316 = hj qh 1316) (hK241 : ∀ (q0 : Int32) (q1 : Int32) (q2 : Int32) (qh : XH) (qr : Unit × XH), K241 q0 q1 q2 qh = some qr → hj qr.2 1316 = hj qh 1316) (hf : b_m_resolve_279 K226 K241 x1 x3 y0 y1 h = some r) : hj r.2 1316 = hj h 1316 := by
  unfold b_m_resolve_279 at hf
  refine (hK241 _ _ _ _ _ hf).trans ?_
  first | (simp (disch := decide) only [hj_hsi, hj_hsj_ne, hj_hri]; done) | rfl
theorem j_s_m_resolve_241 {K226 : Int32 → XH → Option (Unit × XH)} {K241 : Int32 → Int32 → Int32 → XH → Option (Unit × XH)} {x1 : Int32} {x2 : Int32} {x3 : Int32} {h : XH} {r : Unit × XH} (hK226 : ∀ (q0 : Int32) (qh : XH) (qr : Unit × XH), K226 q0 qh = some qr → hj qr.2 1316 = hj qh 1316) (hK241 : ∀ (q0 : Int32) (q1 : Int32) (q2 : Int32) (qh : XH) (qr : Unit × XH), K241 q0 q1 q2 qh = some qr → hj qr.2 1316 = hj qh 1316) (hf : s_m_resolve_241 K226 K241 x1 x2 x3 h = some r) : hj r.2 1316 = hj h 1316 := by
  unfold s_m_resolve_241 at hf
  rcases xi_or hf with ⟨-, hf⟩ | ⟨-, hf⟩
  · rcases xi_or hf with ⟨-, hf⟩ | ⟨-, hf⟩
    · refine (hK226 _ _ _ hf).trans ?_
      first | (simp (disch := decide) only [hj_hsi, hj_hsj_ne, hj_hri]; done) | rfl
    · rcases xi_or hf with ⟨-, hf⟩ | ⟨-, hf⟩
      · rcases xi_or hf with ⟨-, hf⟩ | ⟨-, hf⟩
        · refine (j_b_m_resolve_279 hK226 hK241 hf).trans ?_
          first | (simp (disch := decide) only [hj_hsi, hj_hsj_ne, hj_hri]; done) | rfl
        · refine (j_b_m_resolve_279 hK226 hK241 hf).trans ?_
          first | (simp (disch := decide) only [hj_hsi, hj_hsj_ne, hj_hri]; done) | rfl
      · exact xn_or hf
  · exact xn_or hf
theorem j_b_m_resolve_241 {K226 : Int32 → XH → Option (Unit × XH)} (hK226 : ∀ (q0 : Int32) (qh : XH) (qr : Unit × XH), K226 q0 qh = some qr → hj qr.2 1316 = hj qh 1316) : ∀ {n : Nat} {q0 : Int32} {q1 : Int32} {q2 : Int32} {h : XH} {r : Unit × XH}, b_m_resolve_241 K226 n q0 q1 q2 h = some r → hj r.2 1316 = hj h 1316 := by
  intro n
  induction n with
  | zero => intro _ _ _ _ _ hf; cases hf
  | succ n ih => intro _ _ _ _ _ hf; exact j_s_m_resolve_241 hK226 (fun _ _ _ _ _ e => ih e) hf
theorem j_s_m_resolve_226 {K226 : Int32 → XH → Option (Unit × XH)} {x1 : Int32} {h : XH} {r : Unit × XH} (hK226 : ∀ (q0 : Int32) (qh : XH) (qr : Unit × XH), K226 q0 qh = some qr → hj qr.2 1316 = hj qh 1316) (hf : s_m_resolve_226 K226 x1 h = some r) : hj r.2 1316 = hj h 1316 := by
  unfold s_m_resolve_226 at hf
  rcases xi_or hf with ⟨-, hf⟩ | ⟨-, hf⟩
  · obtain rfl := Option.some.inj hf
    first | (simp (disch := decide) only [hj_hsi, hj_hsj_ne, hj_hri]; done) | rfl
  · refine (j_b_m_resolve_241 hK226 hf).trans ?_
    first | (simp (disch := decide) only [hj_hsi, hj_hsj_ne, hj_hri]; done) | rfl
theorem j_b_m_resolve_226   : ∀ {n : Nat} {q0 : Int32} {h : XH} {r : Unit × XH}, b_m_resolve_226  n q0 h = some r → hj r.2 1316 = hj h 1316 := by
  intro n
  induction n with
  | zero => intro _ _ _ hf; cases hf
  | succ n ih => intro _ _ _ hf; exact j_s_m_resolve_226 (fun _ _ _ e => ih e) hf
theorem j_b_m_resolve_224 {h : XH} {r : Unit × XH}  (hf : b_m_resolve_224 h = some r) : hj r.2 1316 = hj h 1316 := by
  unfold b_m_resolve_224 at hf
  refine (j_b_m_resolve_226 hf).trans ?_
  first | (simp (disch := decide) only [hj_hsi, hj_hsj_ne, hj_hri]; done) | rfl
theorem j_b_m_resolve_218 {K2 : Int32 → XH → Option (Unit × XH)} {x1 : Int32} {h : XH} {r : Unit × XH} (hK2 : ∀ (q0 : Int32) (qh : XH) (qr : Unit × XH), K2 q0 qh = some qr → hj qr.2 1316 = hj qh 1316) (hf : b_m_resolve_218 K2 x1 h = some r) : hj r.2 1316 = hj h 1316 := by
  unfold b_m_resolve_218 at hf
  refine (hK2 _ _ _ hf).trans ?_
  first | (simp (disch := decide) only [hj_hsi, hj_hsj_ne, hj_hri]; done) | rfl
theorem j_b_m_resolve_77 {K2 : Int32 → XH → Option (Unit × XH)} {x1 : Int32} {x2 : Int32} {y0 : Int32} {h : XH} {r : Unit × XH} (hK2 : ∀ (q0 : Int32) (qh : XH) (qr : Unit × XH), K2 q0 qh = some qr → hj qr.2 1316 = hj qh 1316) (hf : b_m_resolve_77 K2 x1 x2 y0 h = some r) : hj r.2 1316 = hj h 1316 := by
  unfold b_m_resolve_77 at hf
  rcases xi_or hf with ⟨-, hf⟩ | ⟨-, hf⟩
  · rcases xi_or hf with ⟨-, hf⟩ | ⟨-, hf⟩
    · rcases xi_or hf with ⟨-, hf⟩ | ⟨-, hf⟩
      · rcases xi_or hf with ⟨-, hf⟩ | ⟨-, hf⟩
        · rcases xi_or hf with ⟨-, hf⟩ | ⟨-, hf⟩
          · rcases xi_or hf with ⟨-, hf⟩ | ⟨-, hf⟩
            · refine (j_b_m_resolve_218 hK2 hf).trans ?_
              first | (simp (disch := decide) only [hj_hsi, hj_hsj_ne, hj_hri]; done) | rfl
            · refine (j_b_m_resolve_218 hK2 hf).trans ?_
              first | (simp (disch := decide) only [hj_hsi, hj_hsj_ne, hj_hri]; done) | rfl
          · exact xn_or hf
        · exact xn_or hf
      · rcases xi_or hf with ⟨-, hf⟩ | ⟨-, hf⟩
        · rcases xi_or hf with ⟨-, hf⟩ | ⟨-, hf⟩
          · rcases xi_or hf with ⟨-, hf⟩ | ⟨-, hf⟩
            · refine (j_b_m_resolve_218 hK2 hf).trans ?_
              first | (simp (disch := decide) only [hj_hsi, hj_hsj_ne, hj_hri]; done) | rfl
            · exact xn_or hf
          · exact xn_or hf
        · rcases xi_or hf with ⟨-, hf⟩ | ⟨-, hf⟩
          · refine (j_b_m_resolve_218 hK2 hf).trans ?_
            first | (simp (disch := decide) only [hj_hsi, hj_hsj_ne, hj_hri]; done) | rfl
          · exact xn_or hf
    · exact xn_or hf
  · rcases xi_or hf with ⟨-, hf⟩ | ⟨-, hf⟩
    · rcases xi_or hf with ⟨-, hf⟩ | ⟨-, hf⟩
      · refine (j_b_m_resolve_218 hK2 hf).trans ?_
        first | (simp (disch := decide) only [hj_hsi, hj_hsj_ne, hj_hri]; done) | rfl
      · exact xn_or hf
    · exact xn_or hf
theorem j_b_m_resolve_76 {K2 : Int32 → XH → Option (Unit × XH)} {x1 : Int32} {x2 : Int32} {h : XH} {r : Unit × XH} (hK2 : ∀ (q0 : Int32) (qh : XH) (qr : Unit × XH), K2 q0 qh = some qr → hj qr.2 1316 = hj qh 1316) (hf : b_m_resolve_76 K2 x1 x2 h = some r) : hj r.2 1316 = hj h 1316 := by
  unfold b_m_resolve_76 at hf
  refine (j_b_m_resolve_77 hK2 hf).trans ?_
  first | (simp (disch := decide) only [hj_hsi, hj_hsj_ne, hj_hri]; done) | rfl
theorem j_b_m_resolve_72 {K2 : Int32 → XH → Option (Unit × XH)} {x1 : Int32} {x2 : Int32} {h : XH} {r : Unit × XH} (hK2 : ∀ (q0 : Int32) (qh : XH) (qr : Unit × XH), K2 q0 qh = some qr → hj qr.2 1316 = hj qh 1316) (hf : b_m_resolve_72 K2 x1 x2 h = some r) : hj r.2 1316 = hj h 1316 := by
  unfold b_m_resolve_72 at hf
  refine (j_b_m_resolve_77 hK2 hf).trans ?_
  first | (simp (disch := decide) only [hj_hsi, hj_hsj_ne, hj_hri]; done) | rfl
theorem j_s_m_resolve_2 {K2 : Int32 → XH → Option (Unit × XH)} {x1 : Int32} {h : XH} {r : Unit × XH} (hK2 : ∀ (q0 : Int32) (qh : XH) (qr : Unit × XH), K2 q0 qh = some qr → hj qr.2 1316 = hj qh 1316) (hf : s_m_resolve_2 K2 x1 h = some r) : hj r.2 1316 = hj h 1316 := by
  unfold s_m_resolve_2 at hf
  rcases xi_or hf with ⟨-, hf⟩ | ⟨-, hf⟩
  · refine (j_b_m_resolve_224 hf).trans ?_
    first | (simp (disch := decide) only [hj_hsi, hj_hsj_ne, hj_hri]; done) | rfl
  · rcases xi_or hf with ⟨-, hf⟩ | ⟨-, hf⟩
    · refine (j_b_m_resolve_224 hf).trans ?_
      first | (simp (disch := decide) only [hj_hsi, hj_hsj_ne, hj_hri]; done) | rfl
    · rcases xi_or hf with ⟨-, hf⟩ | ⟨-, hf⟩
      · obtain ⟨v1, e1, hf⟩ := xb_or hf
        replace e1 := j_f_m_definition e1
        rcases xi_or hf with ⟨-, hf⟩ | ⟨-, hf⟩
        · refine (j_b_m_resolve_76 hK2 hf).trans ?_
          first | (simp (disch := decide) only [hj_hsi, hj_hsj_ne, hj_hri, e1]; done) | rfl
        · rcases xi_or hf with ⟨-, hf⟩ | ⟨-, hf⟩
          · rcases xi_or hf with ⟨-, hf⟩ | ⟨-, hf⟩
            · refine (j_b_m_resolve_72 hK2 hf).trans ?_
              first | (simp (disch := decide) only [hj_hsi, hj_hsj_ne, hj_hri, e1]; done) | rfl
            · rcases xi_or hf with ⟨-, hf⟩ | ⟨-, hf⟩
              · rcases xi_or hf with ⟨-, hf⟩ | ⟨-, hf⟩
                · refine (j_b_m_resolve_72 hK2 hf).trans ?_
                  first | (simp (disch := decide) only [hj_hsi, hj_hsj_ne, hj_hri, e1]; done) | rfl
                · rcases xi_or hf with ⟨-, hf⟩ | ⟨-, hf⟩
                  · refine (j_b_m_resolve_76 hK2 hf).trans ?_
                    first | (simp (disch := decide) only [hj_hsi, hj_hsj_ne, hj_hri, e1]; done) | rfl
                  · rcases xi_or hf with ⟨-, hf⟩ | ⟨-, hf⟩
                    · refine (j_b_m_resolve_76 hK2 hf).trans ?_
                      first | (simp (disch := decide) only [hj_hsi, hj_hsj_ne, hj_hri, e1]; done) | rfl
                    · refine (j_b_m_resolve_72 hK2 hf).trans ?_
                      first | (simp (disch := decide) only [hj_hsi, hj_hsj_ne, hj_hri, e1]; done) | rfl
              · exact xn_or hf
          · exact xn_or hf
      · exact xn_or hf
theorem j_b_m_resolve_2   : ∀ {n : Nat} {q0 : Int32} {h : XH} {r : Unit × XH}, b_m_resolve_2  n q0 h = some r → hj r.2 1316 = hj h 1316 := by
  intro n
  induction n with
  | zero => intro _ _ _ hf; cases hf
  | succ n ih => intro _ _ _ hf; exact j_s_m_resolve_2 (fun _ _ _ e => ih e) hf
theorem j_f_m_resolve {h : XH} {r : Unit × XH}  (hf : f_m_resolve h = some r) : hj r.2 1316 = hj h 1316 := by
  unfold f_m_resolve at hf
  refine (j_b_m_resolve_2 hf).trans ?_
  first | (simp (disch := decide) only [hj_hsi, hj_hsj_ne, hj_hri]; done) | rfl
theorem j_b_m_parse_151 {h : XH} {r : Unit × XH}  (hf : b_m_parse_151 h = some r) : hj r.2 1316 = hj h 1316 := by
  unfold b_m_parse_151 at hf
  rcases xi_or hf with ⟨-, hf⟩ | ⟨-, hf⟩
  · obtain rfl := Option.some.inj hf
    first | (simp (disch := decide) only [hj_hsi, hj_hsj_ne, hj_hri]; done) | rfl
  · obtain ⟨v1, e1, hf⟩ := xb_or hf
    replace e1 := j_f_m_resolve e1
    obtain rfl := Option.some.inj hf
    first | (simp (disch := decide) only [hj_hsi, hj_hsj_ne, hj_hri, e1]; done) | rfl
theorem j_b_m_parse_102 {h : XH} {r : Unit × XH}  (hf : b_m_parse_102 h = some r) : hj r.2 1316 = hj h 1316 := by
  unfold b_m_parse_102 at hf
  obtain ⟨v1, e1, hf⟩ := xb_or hf
  replace e1 := j_f_m_take e1
  obtain ⟨v2, e2, hf⟩ := xb_or hf
  replace e2 := j_f_m_name e2
  obtain ⟨v3, e3, hf⟩ := xb_or hf
  replace e3 := j_f_m_ask e3
  obtain ⟨v4, e4, hf⟩ := xb_or hf
  replace e4 := j_f_m_sign e4
  rcases xi_or hf with ⟨-, hf⟩ | ⟨-, hf⟩
  · refine (j_b_m_parse_151 hf).trans ?_
    first | (simp (disch := decide) only [hj_hsi, hj_hsj_ne, hj_hri, e4, e3, e2, e1]; done) | rfl
  · rcases xi_or hf with ⟨-, hf⟩ | ⟨-, hf⟩
    · rcases xi_or hf with ⟨-, hf⟩ | ⟨-, hf⟩
      · refine (j_b_m_parse_151 hf).trans ?_
        first | (simp (disch := decide) only [hj_hsi, hj_hsj_ne, hj_hri, e4, e3, e2, e1]; done) | rfl
      · obtain ⟨v5, e5, hf⟩ := xb_or hf
        replace e5 := j_f_m_misfit e5
        refine (j_b_m_parse_151 hf).trans ?_
        first | (simp (disch := decide) only [hj_hsi, hj_hsj_ne, hj_hri, e5, e4, e3, e2, e1]; done) | rfl
    · exact xn_or hf
theorem j_b_m_parse_66 {K39 : XH → Option (Unit × XH)} {h : XH} {r : Unit × XH} (hK39 : ∀  (qh : XH) (qr : Unit × XH), K39  qh = some qr → hj qr.2 1316 = hj qh 1316) (hf : b_m_parse_66 K39 h = some r) : hj r.2 1316 = hj h 1316 := by
  unfold b_m_parse_66 at hf
  rcases xi_or hf with ⟨-, hf⟩ | ⟨-, hf⟩
  · obtain ⟨v1, e1, hf⟩ := xb_or hf
    replace e1 := j_f_m_define e1
    refine (hK39 _ _ hf).trans ?_
    first | (simp (disch := decide) only [hj_hsi, hj_hsj_ne, hj_hri, e1]; done) | rfl
  · exact xn_or hf
theorem j_s_m_parse_39 {K39 : XH → Option (Unit × XH)} {h : XH} {r : Unit × XH} (hK39 : ∀  (qh : XH) (qr : Unit × XH), K39  qh = some qr → hj qr.2 1316 = hj qh 1316) (hf : s_m_parse_39 K39 h = some r) : hj r.2 1316 = hj h 1316 := by
  unfold s_m_parse_39 at hf
  obtain ⟨v1, e1, hf⟩ := xb_or hf
  replace e1 := j_f_m_isWord e1
  rcases xi_or hf with ⟨-, hf⟩ | ⟨-, hf⟩
  · refine (j_b_m_parse_66 hK39 hf).trans ?_
    first | (simp (disch := decide) only [hj_hsi, hj_hsj_ne, hj_hri, e1]; done) | rfl
  · obtain ⟨v2, e2, hf⟩ := xb_or hf
    replace e2 := j_f_m_isWord e2
    rcases xi_or hf with ⟨-, hf⟩ | ⟨-, hf⟩
    · refine (j_b_m_parse_66 hK39 hf).trans ?_
      first | (simp (disch := decide) only [hj_hsi, hj_hsj_ne, hj_hri, e2, e1]; done) | rfl
    · obtain ⟨v3, e3, hf⟩ := xb_or hf
      replace e3 := j_f_m_isWord e3
      rcases xi_or hf with ⟨-, hf⟩ | ⟨-, hf⟩
      · rcases xi_or hf with ⟨-, hf⟩ | ⟨-, hf⟩
        · refine (j_b_m_parse_102 hf).trans ?_
          first | (simp (disch := decide) only [hj_hsi, hj_hsj_ne, hj_hri, e3, e2, e1]; done) | rfl
        · obtain ⟨v4, e4, hf⟩ := xb_or hf
          replace e4 := j_f_m_isWord e4
          rcases xi_or hf with ⟨-, hf⟩ | ⟨-, hf⟩
          · refine (j_b_m_parse_102 hf).trans ?_
            first | (simp (disch := decide) only [hj_hsi, hj_hsj_ne, hj_hri, e4, e3, e2, e1]; done) | rfl
          · obtain ⟨v5, e5, hf⟩ := xb_or hf
            replace e5 := j_f_m_misfit e5
            refine (j_b_m_parse_102 hf).trans ?_
            first | (simp (disch := decide) only [hj_hsi, hj_hsj_ne, hj_hri, e5, e4, e3, e2, e1]; done) | rfl
      · refine (j_b_m_parse_66 hK39 hf).trans ?_
        first | (simp (disch := decide) only [hj_hsi, hj_hsj_ne, hj_hri, e3, e2, e1]; done) | rfl
theorem j_b_m_parse_39   : ∀ {n : Nat}  {h : XH} {r : Unit × XH}, b_m_parse_39  n  h = some r → hj r.2 1316 = hj h 1316 := by
  intro n
  induction n with
  | zero => intro _ _ hf; cases hf
  | succ n ih => intro _ _ hf; exact j_s_m_parse_39 (fun  _ _ e => ih e) hf
theorem j_f_m_parse {h : XH} {r : Unit × XH}  (hf : f_m_parse h = some r) : hj r.2 1316 = hj h 1316 := by
  unfold f_m_parse at hf
  obtain ⟨v1, e1, hf⟩ := xb_or hf
  replace e1 := j_f_m_cut e1
  refine (j_b_m_parse_39 hf).trans ?_
  first | (simp (disch := decide) only [hj_hsi, hj_hsj_ne, hj_hri, e1]; done) | rfl
theorem j_f_m_empty {h : XH} {r : Unit × XH}  (hf : f_m_empty h = some r) : hj r.2 1316 = hj h 1316 := by
  unfold f_m_empty at hf
  obtain rfl := Option.some.inj hf
  first | (simp (disch := decide) only [hj_hsi, hj_hsj_ne, hj_hri]; done) | rfl
theorem j_s_m_schema_140 {K140 : Int32 → XH → Option (Int32 × XH)} {x1 : Int32} {h : XH} {r : Int32 × XH} (hK140 : ∀ (q0 : Int32) (qh : XH) (qr : Int32 × XH), K140 q0 qh = some qr → hj qr.2 1316 = hj qh 1316) (hf : s_m_schema_140 K140 x1 h = some r) : hj r.2 1316 = hj h 1316 := by
  unfold s_m_schema_140 at hf
  rcases xi_or hf with ⟨-, hf⟩ | ⟨-, hf⟩
  · obtain ⟨v1, e1, hf⟩ := xb_or hf
    replace e1 := j_f_m_empty e1
    obtain rfl := Option.some.inj hf
    first | (simp (disch := decide) only [hj_hsi, hj_hsj_ne, hj_hri, e1]; done) | rfl
  · rcases xi_or hf with ⟨-, hf⟩ | ⟨-, hf⟩
    · refine (hK140 _ _ _ hf).trans ?_
      first | (simp (disch := decide) only [hj_hsi, hj_hsj_ne, hj_hri]; done) | rfl
    · exact xn_or hf
theorem j_b_m_schema_140   : ∀ {n : Nat} {q0 : Int32} {h : XH} {r : Int32 × XH}, b_m_schema_140  n q0 h = some r → hj r.2 1316 = hj h 1316 := by
  intro n
  induction n with
  | zero => intro _ _ _ hf; cases hf
  | succ n ih => intro _ _ _ hf; exact j_s_m_schema_140 (fun _ _ _ e => ih e) hf
theorem j_s_m_schema_99 {K99 : Int32 → XH → Option (Int32 × XH)} {x1 : Int32} {h : XH} {r : Int32 × XH} (hK99 : ∀ (q0 : Int32) (qh : XH) (qr : Int32 × XH), K99 q0 qh = some qr → hj qr.2 1316 = hj qh 1316) (hf : s_m_schema_99 K99 x1 h = some r) : hj r.2 1316 = hj h 1316 := by
  unfold s_m_schema_99 at hf
  rcases xi_or hf with ⟨-, hf⟩ | ⟨-, hf⟩
  · rcases xi_or hf with ⟨-, hf⟩ | ⟨-, hf⟩
    · obtain rfl := Option.some.inj hf
      first | (simp (disch := decide) only [hj_hsi, hj_hsj_ne, hj_hri]; done) | rfl
    · obtain ⟨v1, e1, hf⟩ := xb_or hf
      replace e1 := j_f_m_parse e1
      obtain rfl := Option.some.inj hf
      first | (simp (disch := decide) only [hj_hsi, hj_hsj_ne, hj_hri, e1]; done) | rfl
  · rcases xi_or hf with ⟨-, hf⟩ | ⟨-, hf⟩
    · refine (hK99 _ _ _ hf).trans ?_
      first | (simp (disch := decide) only [hj_hsi, hj_hsj_ne, hj_hri]; done) | rfl
    · exact xn_or hf
theorem j_b_m_schema_99   : ∀ {n : Nat} {q0 : Int32} {h : XH} {r : Int32 × XH}, b_m_schema_99  n q0 h = some r → hj r.2 1316 = hj h 1316 := by
  intro n
  induction n with
  | zero => intro _ _ _ hf; cases hf
  | succ n ih => intro _ _ _ hf; exact j_s_m_schema_99 (fun _ _ _ e => ih e) hf
theorem j_b_m_schema_74 {y1 : Int32} {h : XH} {r : Int32 × XH}  (hf : b_m_schema_74 y1 h = some r) : hj r.2 1316 = hj h 1316 := by
  unfold b_m_schema_74 at hf
  rcases xi_or hf with ⟨-, hf⟩ | ⟨-, hf⟩
  · refine (j_b_m_schema_140 hf).trans ?_
    first | (simp (disch := decide) only [hj_hsi, hj_hsj_ne, hj_hri]; done) | rfl
  · refine (j_b_m_schema_99 hf).trans ?_
    first | (simp (disch := decide) only [hj_hsi, hj_hsj_ne, hj_hri]; done) | rfl
theorem j_s_m_schema_7 {K7 : Int32 → XH → Option (Int32 × XH)} {x1 : Int32} {h : XH} {r : Int32 × XH} (hK7 : ∀ (q0 : Int32) (qh : XH) (qr : Int32 × XH), K7 q0 qh = some qr → hj qr.2 1316 = hj qh 1316) (hf : s_m_schema_7 K7 x1 h = some r) : hj r.2 1316 = hj h 1316 := by
  unfold s_m_schema_7 at hf
  rcases xi_or hf with ⟨-, hf⟩ | ⟨-, hf⟩
  · obtain ⟨v1, e1, hf⟩ := xb_or hf
    replace e1 := j_f_m_parse e1
    rcases xi_or hf with ⟨-, hf⟩ | ⟨-, hf⟩
    · refine (j_b_m_schema_74 hf).trans ?_
      first | (simp (disch := decide) only [hj_hsi, hj_hsj_ne, hj_hri, e1]; done) | rfl
    · refine (j_b_m_schema_74 hf).trans ?_
      first | (simp (disch := decide) only [hj_hsi, hj_hsj_ne, hj_hri, e1]; done) | rfl
  · rcases xi_or hf with ⟨-, hf⟩ | ⟨-, hf⟩
    · refine (hK7 _ _ _ hf).trans ?_
      first | (simp (disch := decide) only [hj_hsi, hj_hsj_ne, hj_hri]; done) | rfl
    · exact xn_or hf
theorem j_b_m_schema_7   : ∀ {n : Nat} {q0 : Int32} {h : XH} {r : Int32 × XH}, b_m_schema_7  n q0 h = some r → hj r.2 1316 = hj h 1316 := by
  intro n
  induction n with
  | zero => intro _ _ _ hf; cases hf
  | succ n ih => intro _ _ _ hf; exact j_s_m_schema_7 (fun _ _ _ e => ih e) hf
theorem j_f_m_schema {h : XH} {r : Int32 × XH}  (hf : f_m_schema h = some r) : hj r.2 1316 = hj h 1316 := by
  unfold f_m_schema at hf
  refine (j_b_m_schema_7 hf).trans ?_
  first | (simp (disch := decide) only [hj_hsi, hj_hsj_ne, hj_hri]; done) | rfl
theorem j_f_m_isStruct {a0 : Int32} {h : XH} {r : Int32 × XH}  (hf : f_m_isStruct a0 h = some r) : hj r.2 1316 = hj h 1316 := by
  unfold f_m_isStruct at hf
  rcases xi_or hf with ⟨-, hf⟩ | ⟨-, hf⟩
  · obtain rfl := Option.some.inj hf
    first | (simp (disch := decide) only [hj_hsi, hj_hsj_ne, hj_hri]; done) | rfl
  · rcases xi_or hf with ⟨-, hf⟩ | ⟨-, hf⟩
    · obtain rfl := Option.some.inj hf
      first | (simp (disch := decide) only [hj_hsi, hj_hsj_ne, hj_hri]; done) | rfl
    · rcases xi_or hf with ⟨-, hf⟩ | ⟨-, hf⟩
      · obtain rfl := Option.some.inj hf
        first | (simp (disch := decide) only [hj_hsi, hj_hsj_ne, hj_hri]; done) | rfl
      · obtain rfl := Option.some.inj hf
        first | (simp (disch := decide) only [hj_hsi, hj_hsj_ne, hj_hri]; done) | rfl
theorem j_f_m_isTable {a0 : Int32} {h : XH} {r : Int32 × XH}  (hf : f_m_isTable a0 h = some r) : hj r.2 1316 = hj h 1316 := by
  unfold f_m_isTable at hf
  rcases xi_or hf with ⟨-, hf⟩ | ⟨-, hf⟩
  · obtain rfl := Option.some.inj hf
    first | (simp (disch := decide) only [hj_hsi, hj_hsj_ne, hj_hri]; done) | rfl
  · rcases xi_or hf with ⟨-, hf⟩ | ⟨-, hf⟩
    · obtain rfl := Option.some.inj hf
      first | (simp (disch := decide) only [hj_hsi, hj_hsj_ne, hj_hri]; done) | rfl
    · rcases xi_or hf with ⟨-, hf⟩ | ⟨-, hf⟩
      · obtain rfl := Option.some.inj hf
        first | (simp (disch := decide) only [hj_hsi, hj_hsj_ne, hj_hri]; done) | rfl
      · obtain rfl := Option.some.inj hf
        first | (simp (disch := decide) only [hj_hsi, hj_hsj_ne, hj_hri]; done) | rfl
theorem j_f_m_fieldOf {a0 : Int32} {a1 : Int32} {a2 : Int32} {h : XH} {r : Int32 × XH}  (hf : f_m_fieldOf a0 a1 a2 h = some r) : hj r.2 1316 = hj h 1316 := by
  unfold f_m_fieldOf at hf
  rcases xi_or hf with ⟨-, hf⟩ | ⟨-, hf⟩
  · obtain ⟨v1, e1, hf⟩ := xb_or hf
    replace e1 := j_f_m_isTable e1
    rcases xi_or hf with ⟨-, hf⟩ | ⟨-, hf⟩
    · obtain rfl := Option.some.inj hf
      first | (simp (disch := decide) only [hj_hsi, hj_hsj_ne, hj_hri, e1]; done) | rfl
    · rcases xi_or hf with ⟨-, hf⟩ | ⟨-, hf⟩
      · obtain rfl := Option.some.inj hf
        first | (simp (disch := decide) only [hj_hsi, hj_hsj_ne, hj_hri, e1]; done) | rfl
      · rcases xi_or hf with ⟨-, hf⟩ | ⟨-, hf⟩
        · rcases xi_or hf with ⟨-, hf⟩ | ⟨-, hf⟩
          · obtain rfl := Option.some.inj hf
            first | (simp (disch := decide) only [hj_hsi, hj_hsj_ne, hj_hri, e1]; done) | rfl
          · obtain rfl := Option.some.inj hf
            first | (simp (disch := decide) only [hj_hsi, hj_hsj_ne, hj_hri, e1]; done) | rfl
        · exact xn_or hf
  · obtain ⟨v2, e2, hf⟩ := xb_or hf
    replace e2 := j_f_m_isStruct e2
    rcases xi_or hf with ⟨-, hf⟩ | ⟨-, hf⟩
    · obtain rfl := Option.some.inj hf
      first | (simp (disch := decide) only [hj_hsi, hj_hsj_ne, hj_hri, e2]; done) | rfl
    · rcases xi_or hf with ⟨-, hf⟩ | ⟨-, hf⟩
      · obtain rfl := Option.some.inj hf
        first | (simp (disch := decide) only [hj_hsi, hj_hsj_ne, hj_hri, e2]; done) | rfl
      · rcases xi_or hf with ⟨-, hf⟩ | ⟨-, hf⟩
        · rcases xi_or hf with ⟨-, hf⟩ | ⟨-, hf⟩
          · obtain rfl := Option.some.inj hf
            first | (simp (disch := decide) only [hj_hsi, hj_hsj_ne, hj_hri, e2]; done) | rfl
          · obtain rfl := Option.some.inj hf
            first | (simp (disch := decide) only [hj_hsi, hj_hsj_ne, hj_hri, e2]; done) | rfl
        · exact xn_or hf
theorem j_s_m_fill_3 {K3 : Int32 → Int32 → Int32 → Int32 → XH → Option (Int32 × XH)} {x1 : Int32} {x2 : Int32} {x3 : Int32} {x4 : Int32} {h : XH} {r : Int32 × XH} (hK3 : ∀ (q0 : Int32) (q1 : Int32) (q2 : Int32) (q3 : Int32) (qh : XH) (qr : Int32 × XH), K3 q0 q1 q2 q3 qh = some qr → hj qr.2 1316 = hj qh 1316) (hf : s_m_fill_3 K3 x1 x2 x3 x4 h = some r) : hj r.2 1316 = hj h 1316 := by
  unfold s_m_fill_3 at hf
  rcases xi_or hf with ⟨-, hf⟩ | ⟨-, hf⟩
  · rcases xi_or hf with ⟨-, hf⟩ | ⟨-, hf⟩
    · obtain rfl := Option.some.inj hf
      first | (simp (disch := decide) only [hj_hsi, hj_hsj_ne, hj_hri]; done) | rfl
    · refine (hK3 _ _ _ _ _ _ hf).trans ?_
      first | (simp (disch := decide) only [hj_hsi, hj_hsj_ne, hj_hri]; done) | rfl
  · exact xn_or hf
theorem j_b_m_fill_3   : ∀ {n : Nat} {q0 : Int32} {q1 : Int32} {q2 : Int32} {q3 : Int32} {h : XH} {r : Int32 × XH}, b_m_fill_3  n q0 q1 q2 q3 h = some r → hj r.2 1316 = hj h 1316 := by
  intro n
  induction n with
  | zero => intro _ _ _ _ _ _ hf; cases hf
  | succ n ih => intro _ _ _ _ _ _ hf; exact j_s_m_fill_3 (fun _ _ _ _ _ _ e => ih e) hf
theorem j_f_m_fill {a0 : Int32} {a1 : Int32} {a2 : Int32} {h : XH} {r : Int32 × XH}  (hf : f_m_fill a0 a1 a2 h = some r) : hj r.2 1316 = hj h 1316 := by
  unfold f_m_fill at hf
  refine (j_b_m_fill_3 hf).trans ?_
  first | (simp (disch := decide) only [hj_hsi, hj_hsj_ne, hj_hri]; done) | rfl
theorem j_s_m_ahead_5 {K5 : Int64 → Int32 → XH → Option (Unit × XH)} {x1 : Int64} {x4 : Int32} {h : XH} {r : Unit × XH} (hK5 : ∀ (q0 : Int64) (q1 : Int32) (qh : XH) (qr : Unit × XH), K5 q0 q1 qh = some qr → hj qr.2 1316 = hj qh 1316) (hf : s_m_ahead_5 K5 x1 x4 h = some r) : hj r.2 1316 = hj h 1316 := by
  unfold s_m_ahead_5 at hf
  rcases xi_or hf with ⟨-, hf⟩ | ⟨-, hf⟩
  · obtain rfl := Option.some.inj hf
    first | (simp (disch := decide) only [hj_hsi, hj_hsj_ne, hj_hri]; done) | rfl
  · rcases xi_or hf with ⟨-, hf⟩ | ⟨-, hf⟩
    · refine (hK5 _ _ _ _ hf).trans ?_
      first | (simp (disch := decide) only [hj_hsi, hj_hsj_ne, hj_hri]; done) | rfl
    · exact xn_or hf
theorem j_b_m_ahead_5   : ∀ {n : Nat} {q0 : Int64} {q1 : Int32} {h : XH} {r : Unit × XH}, b_m_ahead_5  n q0 q1 h = some r → hj r.2 1316 = hj h 1316 := by
  intro n
  induction n with
  | zero => intro _ _ _ _ hf; cases hf
  | succ n ih => intro _ _ _ _ hf; exact j_s_m_ahead_5 (fun _ _ _ _ e => ih e) hf
theorem j_f_m_ahead {a0 : Int64} {a1 : Int32} {h : XH} {r : Unit × XH}  (hf : f_m_ahead a0 a1 h = some r) : hj r.2 1316 = hj h 1316 := by
  unfold f_m_ahead at hf
  refine (j_b_m_ahead_5 hf).trans ?_
  first | (simp (disch := decide) only [hj_hsi, hj_hsj_ne, hj_hri]; done) | rfl
theorem j_s_m_zeros_2 {K2 : Int32 → Int32 → XH → Option (Unit × XH)} {x1 : Int32} {x2 : Int32} {h : XH} {r : Unit × XH} (hK2 : ∀ (q0 : Int32) (q1 : Int32) (qh : XH) (qr : Unit × XH), K2 q0 q1 qh = some qr → hj qr.2 1316 = hj qh 1316) (hf : s_m_zeros_2 K2 x1 x2 h = some r) : hj r.2 1316 = hj h 1316 := by
  unfold s_m_zeros_2 at hf
  rcases xi_or hf with ⟨-, hf⟩ | ⟨-, hf⟩
  · obtain rfl := Option.some.inj hf
    first | (simp (disch := decide) only [hj_hsi, hj_hsj_ne, hj_hri]; done) | rfl
  · rcases xi_or hf with ⟨-, hf⟩ | ⟨-, hf⟩
    · refine (hK2 _ _ _ _ hf).trans ?_
      first | (simp (disch := decide) only [hj_hsi, hj_hsj_ne, hj_hri]; done) | rfl
    · exact xn_or hf
theorem j_b_m_zeros_2   : ∀ {n : Nat} {q0 : Int32} {q1 : Int32} {h : XH} {r : Unit × XH}, b_m_zeros_2  n q0 q1 h = some r → hj r.2 1316 = hj h 1316 := by
  intro n
  induction n with
  | zero => intro _ _ _ _ hf; cases hf
  | succ n ih => intro _ _ _ _ hf; exact j_s_m_zeros_2 (fun _ _ _ _ e => ih e) hf
theorem j_f_m_zeros {a0 : Int32} {h : XH} {r : Unit × XH}  (hf : f_m_zeros a0 h = some r) : hj r.2 1316 = hj h 1316 := by
  unfold f_m_zeros at hf
  refine (j_b_m_zeros_2 hf).trans ?_
  first | (simp (disch := decide) only [hj_hsi, hj_hsj_ne, hj_hri]; done) | rfl
theorem j_b_m_aligned_17 {y1 : Int32} {h : XH} {r : Unit × XH}  (hf : b_m_aligned_17 y1 h = some r) : hj r.2 1316 = hj h 1316 := by
  unfold b_m_aligned_17 at hf
  obtain rfl := Option.some.inj hf
  first | (simp (disch := decide) only [hj_hsi, hj_hsj_ne, hj_hri]; done) | rfl
theorem j_f_m_aligned {a0 : Int32} {h : XH} {r : Unit × XH}  (hf : f_m_aligned a0 h = some r) : hj r.2 1316 = hj h 1316 := by
  unfold f_m_aligned at hf
  rcases xi_or hf with ⟨-, hf⟩ | ⟨-, hf⟩
  · refine (j_b_m_aligned_17 hf).trans ?_
    first | (simp (disch := decide) only [hj_hsi, hj_hsj_ne, hj_hri]; done) | rfl
  · refine (j_b_m_aligned_17 hf).trans ?_
    first | (simp (disch := decide) only [hj_hsi, hj_hsj_ne, hj_hri]; done) | rfl
theorem j_f_m_thing {a0 : Int32} {a1 : Int32} {a2 : Int32} {h : XH} {r : Int32 × XH}  (hf : f_m_thing a0 a1 a2 h = some r) : hj r.2 1316 = hj h 1316 := by
  unfold f_m_thing at hf
  rcases xi_or hf with ⟨-, hf⟩ | ⟨-, hf⟩
  · obtain rfl := Option.some.inj hf
    first | (simp (disch := decide) only [hj_hsi, hj_hsj_ne, hj_hri]; done) | rfl
  · exact xn_or hf
theorem j_f_m_reference {a0 : Int32} {h : XH} {r : Unit × XH}  (hf : f_m_reference a0 h = some r) : hj r.2 1316 = hj h 1316 := by
  unfold f_m_reference at hf
  rcases xi_or hf with ⟨-, hf⟩ | ⟨-, hf⟩
  · obtain ⟨v1, e1, hf⟩ := xb_or hf
    replace e1 := j_f_m_ahead e1
    obtain rfl := Option.some.inj hf
    first | (simp (disch := decide) only [hj_hsi, hj_hsj_ne, hj_hri, e1]; done) | rfl
  · exact xn_or hf
theorem j_s_m_text_92 {K92 : Int32 → Int32 → XH → Option (Int32 × XH)} {x1 : Int32} {x3 : Int32} {h : XH} {r : Int32 × XH} (hK92 : ∀ (q0 : Int32) (q1 : Int32) (qh : XH) (qr : Int32 × XH), K92 q0 q1 qh = some qr → hj qr.2 1316 = hj qh 1316) (hf : s_m_text_92 K92 x1 x3 h = some r) : hj r.2 1316 = hj h 1316 := by
  unfold s_m_text_92 at hf
  rcases xi_or hf with ⟨-, hf⟩ | ⟨-, hf⟩
  · obtain ⟨v1, e1, hf⟩ := xb_or hf
    replace e1 := j_f_m_ahead e1
    obtain ⟨v2, e2, hf⟩ := xb_or hf
    replace e2 := j_f_m_thing e2
    obtain rfl := Option.some.inj hf
    first | (simp (disch := decide) only [hj_hsi, hj_hsj_ne, hj_hri, e2, e1]; done) | rfl
  · rcases xi_or hf with ⟨-, hf⟩ | ⟨-, hf⟩
    · obtain ⟨v3, e3, hf⟩ := xb_or hf
      replace e3 := j_f_m_ahead e3
      refine (hK92 _ _ _ _ hf).trans ?_
      first | (simp (disch := decide) only [hj_hsi, hj_hsj_ne, hj_hri, e3]; done) | rfl
    · exact xn_or hf
theorem j_b_m_text_92   : ∀ {n : Nat} {q0 : Int32} {q1 : Int32} {h : XH} {r : Int32 × XH}, b_m_text_92  n q0 q1 h = some r → hj r.2 1316 = hj h 1316 := by
  intro n
  induction n with
  | zero => intro _ _ _ _ hf; cases hf
  | succ n ih => intro _ _ _ _ hf; exact j_s_m_text_92 (fun _ _ _ _ e => ih e) hf
theorem j_b_m_text_69 {h : XH} {r : Int32 × XH}  (hf : b_m_text_69 h = some r) : hj r.2 1316 = hj h 1316 := by
  unfold b_m_text_69 at hf
  obtain rfl := Option.some.inj hf
  first | (simp (disch := decide) only [hj_hsi, hj_hsj_ne, hj_hri]; done) | rfl
theorem j_f_m_text {h : XH} {r : Int32 × XH}  (hf : f_m_text h = some r) : hj r.2 1316 = hj h 1316 := by
  unfold f_m_text at hf
  rcases xi_or hf with ⟨-, hf⟩ | ⟨-, hf⟩
  · obtain ⟨v1, e1, hf⟩ := xb_or hf
    replace e1 := j_f_m_fill e1
    rcases xi_or hf with ⟨-, hf⟩ | ⟨-, hf⟩
    · refine (j_b_m_text_69 hf).trans ?_
      first | (simp (disch := decide) only [hj_hsi, hj_hsj_ne, hj_hri, e1]; done) | rfl
    · rcases xi_or hf with ⟨-, hf⟩ | ⟨-, hf⟩
      · obtain ⟨v2, e2, hf⟩ := xb_or hf
        replace e2 := j_f_m_aligned e2
        obtain ⟨v3, e3, hf⟩ := xb_or hf
        replace e3 := j_f_m_zeros e3
        refine (j_b_m_text_92 hf).trans ?_
        first | (simp (disch := decide) only [hj_hsi, hj_hsj_ne, hj_hri, e3, e2, e1]; done) | rfl
      · refine (j_b_m_text_69 hf).trans ?_
        first | (simp (disch := decide) only [hj_hsi, hj_hsj_ne, hj_hri, e1]; done) | rfl
  · obtain rfl := Option.some.inj hf
    first | (simp (disch := decide) only [hj_hsi, hj_hsj_ne, hj_hri]; done) | rfl
