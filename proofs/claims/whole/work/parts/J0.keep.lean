/-! No method of the model touches the law's own cell -/
theorem xi_or {α : Type} {c : Prop} [Decidable c] {a b : Option α} {r : α} (hf : (if c then a else b) = some r) : (c ∧ a = some r) ∨ (¬ c ∧ b = some r) := by
  by_cases q : c
  · exact Or.inl ⟨q, xi_pos hf q⟩
  · exact Or.inr ⟨q, xi_neg hf q⟩
theorem xb_or {α β : Type} {x : Option α} {f : α → Option β} {r : β} (hf : Option.bind x f = some r) : ∃ v, x = some v ∧ f v = some r := by
  cases x with
  | none => cases hf
  | some v => exact ⟨v, rfl, hf⟩
theorem xn_or {α : Type} {r : α} {P : Prop} (hf : (none : Option α) = some r) : P := by cases hf

theorem j_f_m_signAt {a0 : Int32} {h : XH} {r : Int32 × XH}  (hf : f_m_signAt a0 h = some r) : hj r.2 1316 = hj h 1316 := by
  unfold f_m_signAt at hf
  rcases xi_or hf with ⟨-, hf⟩ | ⟨-, hf⟩
  · obtain rfl := Option.some.inj hf
    first | (simp (disch := decide) only [hj_hsi, hj_hsj_ne, hj_hri]; done) | rfl
  · rcases xi_or hf with ⟨-, hf⟩ | ⟨-, hf⟩
    · obtain rfl := Option.some.inj hf
      first | (simp (disch := decide) only [hj_hsi, hj_hsj_ne, hj_hri]; done) | rfl
    · exact xn_or hf
theorem j_f_m_isDigit {a0 : Int32} {h : XH} {r : Int32 × XH}  (hf : f_m_isDigit a0 h = some r) : hj r.2 1316 = hj h 1316 := by
  unfold f_m_isDigit at hf
  rcases xi_or hf with ⟨-, hf⟩ | ⟨-, hf⟩
  · obtain rfl := Option.some.inj hf
    first | (simp (disch := decide) only [hj_hsi, hj_hsj_ne, hj_hri]; done) | rfl
  · rcases xi_or hf with ⟨-, hf⟩ | ⟨-, hf⟩
    · obtain rfl := Option.some.inj hf
      first | (simp (disch := decide) only [hj_hsi, hj_hsj_ne, hj_hri]; done) | rfl
    · obtain rfl := Option.some.inj hf
      first | (simp (disch := decide) only [hj_hsi, hj_hsj_ne, hj_hri]; done) | rfl
theorem j_b_m_isLetter_30 {h : XH} {r : Int32 × XH}  (hf : b_m_isLetter_30 h = some r) : hj r.2 1316 = hj h 1316 := by
  unfold b_m_isLetter_30 at hf
  obtain rfl := Option.some.inj hf
  first | (simp (disch := decide) only [hj_hsi, hj_hsj_ne, hj_hri]; done) | rfl
theorem j_b_m_isLetter_24 {x0 : Int32} {h : XH} {r : Int32 × XH}  (hf : b_m_isLetter_24 x0 h = some r) : hj r.2 1316 = hj h 1316 := by
  unfold b_m_isLetter_24 at hf
  rcases xi_or hf with ⟨-, hf⟩ | ⟨-, hf⟩
  · obtain rfl := Option.some.inj hf
    first | (simp (disch := decide) only [hj_hsi, hj_hsj_ne, hj_hri]; done) | rfl
  · refine (j_b_m_isLetter_30 hf).trans ?_
    first | (simp (disch := decide) only [hj_hsi, hj_hsj_ne, hj_hri]; done) | rfl
theorem j_b_m_isLetter_12 {x0 : Int32} {h : XH} {r : Int32 × XH}  (hf : b_m_isLetter_12 x0 h = some r) : hj r.2 1316 = hj h 1316 := by
  unfold b_m_isLetter_12 at hf
  rcases xi_or hf with ⟨-, hf⟩ | ⟨-, hf⟩
  · refine (j_b_m_isLetter_24 hf).trans ?_
    first | (simp (disch := decide) only [hj_hsi, hj_hsj_ne, hj_hri]; done) | rfl
  · rcases xi_or hf with ⟨-, hf⟩ | ⟨-, hf⟩
    · refine (j_b_m_isLetter_30 hf).trans ?_
      first | (simp (disch := decide) only [hj_hsi, hj_hsj_ne, hj_hri]; done) | rfl
    · refine (j_b_m_isLetter_24 hf).trans ?_
      first | (simp (disch := decide) only [hj_hsi, hj_hsj_ne, hj_hri]; done) | rfl
theorem j_f_m_isLetter {a0 : Int32} {h : XH} {r : Int32 × XH}  (hf : f_m_isLetter a0 h = some r) : hj r.2 1316 = hj h 1316 := by
  unfold f_m_isLetter at hf
  rcases xi_or hf with ⟨-, hf⟩ | ⟨-, hf⟩
  · refine (j_b_m_isLetter_12 hf).trans ?_
    first | (simp (disch := decide) only [hj_hsi, hj_hsj_ne, hj_hri]; done) | rfl
  · rcases xi_or hf with ⟨-, hf⟩ | ⟨-, hf⟩
    · refine (j_b_m_isLetter_30 hf).trans ?_
      first | (simp (disch := decide) only [hj_hsi, hj_hsj_ne, hj_hri]; done) | rfl
    · refine (j_b_m_isLetter_12 hf).trans ?_
      first | (simp (disch := decide) only [hj_hsi, hj_hsj_ne, hj_hri]; done) | rfl
theorem j_f_m_lexeme {a0 : Int32} {a1 : Int32} {a2 : Int32} {a3 : Int32} {h : XH} {r : Unit × XH}  (hf : f_m_lexeme a0 a1 a2 a3 h = some r) : hj r.2 1316 = hj h 1316 := by
  unfold f_m_lexeme at hf
  rcases xi_or hf with ⟨-, hf⟩ | ⟨-, hf⟩
  · obtain rfl := Option.some.inj hf
    first | (simp (disch := decide) only [hj_hsi, hj_hsj_ne, hj_hri]; done) | rfl
  · exact xn_or hf
theorem j_b_m_keyword_99 {K5 : Int32 → Int32 → Int32 → Int32 → XH → Option (Int32 × XH)} {x1 : Int32} {x2 : Int32} {x3 : Int32} {x4 : Int32} {x5 : Int32} {h : XH} {r : Int32 × XH} (hK5 : ∀ (q0 : Int32) (q1 : Int32) (q2 : Int32) (q3 : Int32) (qh : XH) (qr : Int32 × XH), K5 q0 q1 q2 q3 qh = some qr → hj qr.2 1316 = hj qh 1316) (hf : b_m_keyword_99 K5 x1 x2 x3 x4 x5 h = some r) : hj r.2 1316 = hj h 1316 := by
  unfold b_m_keyword_99 at hf
  refine (hK5 _ _ _ _ _ _ hf).trans ?_
  first | (simp (disch := decide) only [hj_hsi, hj_hsj_ne, hj_hri]; done) | rfl
theorem j_b_m_keyword_76 {K5 : Int32 → Int32 → Int32 → Int32 → XH → Option (Int32 × XH)} {K21 : Int32 → Int32 → Int32 → Int32 → Int32 → Int32 → XH → Option (Int32 × XH)} {x1 : Int32} {x2 : Int32} {x3 : Int32} {x4 : Int32} {x5 : Int32} {y0 : Int32} {h : XH} {r : Int32 × XH} (hK5 : ∀ (q0 : Int32) (q1 : Int32) (q2 : Int32) (q3 : Int32) (qh : XH) (qr : Int32 × XH), K5 q0 q1 q2 q3 qh = some qr → hj qr.2 1316 = hj qh 1316) (hK21 : ∀ (q0 : Int32) (q1 : Int32) (q2 : Int32) (q3 : Int32) (q4 : Int32) (q5 : Int32) (qh : XH) (qr : Int32 × XH), K21 q0 q1 q2 q3 q4 q5 qh = some qr → hj qr.2 1316 = hj qh 1316) (hf : b_m_keyword_76 K5 K21 x1 x2 x3 x4 x5 y0 h = some r) : hj r.2 1316 = hj h 1316 := by
  unfold b_m_keyword_76 at hf
  refine (hK21 _ _ _ _ _ _ _ _ hf).trans ?_
  first | (simp (disch := decide) only [hj_hsi, hj_hsj_ne, hj_hri]; done) | rfl
theorem j_b_m_keyword_75 {K5 : Int32 → Int32 → Int32 → Int32 → XH → Option (Int32 × XH)} {K21 : Int32 → Int32 → Int32 → Int32 → Int32 → Int32 → XH → Option (Int32 × XH)} {x1 : Int32} {x2 : Int32} {x3 : Int32} {x4 : Int32} {x5 : Int32} {h : XH} {r : Int32 × XH} (hK5 : ∀ (q0 : Int32) (q1 : Int32) (q2 : Int32) (q3 : Int32) (qh : XH) (qr : Int32 × XH), K5 q0 q1 q2 q3 qh = some qr → hj qr.2 1316 = hj qh 1316) (hK21 : ∀ (q0 : Int32) (q1 : Int32) (q2 : Int32) (q3 : Int32) (q4 : Int32) (q5 : Int32) (qh : XH) (qr : Int32 × XH), K21 q0 q1 q2 q3 q4 q5 qh = some qr → hj qr.2 1316 = hj qh 1316) (hf : b_m_keyword_75 K5 K21 x1 x2 x3 x4 x5 h = some r) : hj r.2 1316 = hj h 1316 := by
  unfold b_m_keyword_75 at hf
  refine (j_b_m_keyword_76 hK5 hK21 hf).trans ?_
  first | (simp (disch := decide) only [hj_hsi, hj_hsj_ne, hj_hri]; done) | rfl
theorem j_s_m_keyword_21 {K5 : Int32 → Int32 → Int32 → Int32 → XH → Option (Int32 × XH)} {K21 : Int32 → Int32 → Int32 → Int32 → Int32 → Int32 → XH → Option (Int32 × XH)} {x1 : Int32} {x2 : Int32} {x3 : Int32} {x4 : Int32} {x5 : Int32} {x6 : Int32} {h : XH} {r : Int32 × XH} (hK5 : ∀ (q0 : Int32) (q1 : Int32) (q2 : Int32) (q3 : Int32) (qh : XH) (qr : Int32 × XH), K5 q0 q1 q2 q3 qh = some qr → hj qr.2 1316 = hj qh 1316) (hK21 : ∀ (q0 : Int32) (q1 : Int32) (q2 : Int32) (q3 : Int32) (q4 : Int32) (q5 : Int32) (qh : XH) (qr : Int32 × XH), K21 q0 q1 q2 q3 q4 q5 qh = some qr → hj qr.2 1316 = hj qh 1316) (hf : s_m_keyword_21 K5 K21 x1 x2 x3 x4 x5 x6 h = some r) : hj r.2 1316 = hj h 1316 := by
  unfold s_m_keyword_21 at hf
  rcases xi_or hf with ⟨-, hf⟩ | ⟨-, hf⟩
  · rcases xi_or hf with ⟨-, hf⟩ | ⟨-, hf⟩
    · rcases xi_or hf with ⟨-, hf⟩ | ⟨-, hf⟩
      · refine (j_b_m_keyword_99 hK5 hf).trans ?_
        first | (simp (disch := decide) only [hj_hsi, hj_hsj_ne, hj_hri]; done) | rfl
      · rcases xi_or hf with ⟨-, hf⟩ | ⟨-, hf⟩
        · refine (j_b_m_keyword_99 hK5 hf).trans ?_
          first | (simp (disch := decide) only [hj_hsi, hj_hsj_ne, hj_hri]; done) | rfl
        · obtain rfl := Option.some.inj hf
          first | (simp (disch := decide) only [hj_hsi, hj_hsj_ne, hj_hri]; done) | rfl
    · rcases xi_or hf with ⟨-, hf⟩ | ⟨-, hf⟩
      · refine (j_b_m_keyword_75 hK5 hK21 hf).trans ?_
        first | (simp (disch := decide) only [hj_hsi, hj_hsj_ne, hj_hri]; done) | rfl
      · rcases xi_or hf with ⟨-, hf⟩ | ⟨-, hf⟩
        · refine (j_b_m_keyword_75 hK5 hK21 hf).trans ?_
          first | (simp (disch := decide) only [hj_hsi, hj_hsj_ne, hj_hri]; done) | rfl
        · rcases xi_or hf with ⟨-, hf⟩ | ⟨-, hf⟩
          · rcases xi_or hf with ⟨-, hf⟩ | ⟨-, hf⟩
            · rcases xi_or hf with ⟨-, hf⟩ | ⟨-, hf⟩
              · refine (j_b_m_keyword_75 hK5 hK21 hf).trans ?_
                first | (simp (disch := decide) only [hj_hsi, hj_hsj_ne, hj_hri]; done) | rfl
              · refine (j_b_m_keyword_76 hK5 hK21 hf).trans ?_
                first | (simp (disch := decide) only [hj_hsi, hj_hsj_ne, hj_hri]; done) | rfl
            · exact xn_or hf
          · exact xn_or hf
  · exact xn_or hf
theorem j_b_m_keyword_21 {K5 : Int32 → Int32 → Int32 → Int32 → XH → Option (Int32 × XH)} (hK5 : ∀ (q0 : Int32) (q1 : Int32) (q2 : Int32) (q3 : Int32) (qh : XH) (qr : Int32 × XH), K5 q0 q1 q2 q3 qh = some qr → hj qr.2 1316 = hj qh 1316) : ∀ {n : Nat} {q0 : Int32} {q1 : Int32} {q2 : Int32} {q3 : Int32} {q4 : Int32} {q5 : Int32} {h : XH} {r : Int32 × XH}, b_m_keyword_21 K5 n q0 q1 q2 q3 q4 q5 h = some r → hj r.2 1316 = hj h 1316 := by
  intro n
  induction n with
  | zero => intro _ _ _ _ _ _ _ _ hf; cases hf
  | succ n ih => intro _ _ _ _ _ _ _ _ hf; exact j_s_m_keyword_21 hK5 (fun _ _ _ _ _ _ _ _ e => ih e) hf
theorem j_s_m_keyword_5 {K5 : Int32 → Int32 → Int32 → Int32 → XH → Option (Int32 × XH)} {x1 : Int32} {x2 : Int32} {x3 : Int32} {x4 : Int32} {h : XH} {r : Int32 × XH} (hK5 : ∀ (q0 : Int32) (q1 : Int32) (q2 : Int32) (q3 : Int32) (qh : XH) (qr : Int32 × XH), K5 q0 q1 q2 q3 qh = some qr → hj qr.2 1316 = hj qh 1316) (hf : s_m_keyword_5 K5 x1 x2 x3 x4 h = some r) : hj r.2 1316 = hj h 1316 := by
  unfold s_m_keyword_5 at hf
  rcases xi_or hf with ⟨-, hf⟩ | ⟨-, hf⟩
  · obtain rfl := Option.some.inj hf
    first | (simp (disch := decide) only [hj_hsi, hj_hsj_ne, hj_hri]; done) | rfl
  · refine (j_b_m_keyword_21 hK5 hf).trans ?_
    first | (simp (disch := decide) only [hj_hsi, hj_hsj_ne, hj_hri]; done) | rfl
theorem j_b_m_keyword_5   : ∀ {n : Nat} {q0 : Int32} {q1 : Int32} {q2 : Int32} {q3 : Int32} {h : XH} {r : Int32 × XH}, b_m_keyword_5  n q0 q1 q2 q3 h = some r → hj r.2 1316 = hj h 1316 := by
  intro n
  induction n with
  | zero => intro _ _ _ _ _ _ hf; cases hf
  | succ n ih => intro _ _ _ _ _ _ hf; exact j_s_m_keyword_5 (fun _ _ _ _ _ _ e => ih e) hf
theorem j_f_m_keyword {a0 : Int32} {a1 : Int32} {h : XH} {r : Int32 × XH}  (hf : f_m_keyword a0 a1 h = some r) : hj r.2 1316 = hj h 1316 := by
  unfold f_m_keyword at hf
  refine (j_b_m_keyword_5 hf).trans ?_
  first | (simp (disch := decide) only [hj_hsi, hj_hsj_ne, hj_hri]; done) | rfl
theorem j_b_m_one_228 {x1 : Int32} {x2 : Int32} {x3 : Int32} {y1 : Int32} {h : XH} {r : Int32 × XH}  (hf : b_m_one_228 x1 x2 x3 y1 h = some r) : hj r.2 1316 = hj h 1316 := by
  unfold b_m_one_228 at hf
  obtain ⟨v1, e1, hf⟩ := xb_or hf
  replace e1 := j_f_m_lexeme e1
  obtain rfl := Option.some.inj hf
  first | (simp (disch := decide) only [hj_hsi, hj_hsj_ne, hj_hri, e1]; done) | rfl
theorem j_b_m_one_215 {x1 : Int32} {x2 : Int32} {x3 : Int32} {y0 : Int32} {h : XH} {r : Int32 × XH}  (hf : b_m_one_215 x1 x2 x3 y0 h = some r) : hj r.2 1316 = hj h 1316 := by
  unfold b_m_one_215 at hf
  rcases xi_or hf with ⟨-, hf⟩ | ⟨-, hf⟩
  · refine (j_b_m_one_228 hf).trans ?_
    first | (simp (disch := decide) only [hj_hsi, hj_hsj_ne, hj_hri]; done) | rfl
  · refine (j_b_m_one_228 hf).trans ?_
    first | (simp (disch := decide) only [hj_hsi, hj_hsj_ne, hj_hri]; done) | rfl
theorem j_b_m_one_210 {x1 : Int32} {x2 : Int32} {x3 : Int32} {h : XH} {r : Int32 × XH}  (hf : b_m_one_210 x1 x2 x3 h = some r) : hj r.2 1316 = hj h 1316 := by
  unfold b_m_one_210 at hf
  refine (j_b_m_one_215 hf).trans ?_
  first | (simp (disch := decide) only [hj_hsi, hj_hsj_ne, hj_hri]; done) | rfl
theorem j_b_m_one_150 {x1 : Int32} {x2 : Int32} {x3 : Int32} {h : XH} {r : Int32 × XH}  (hf : b_m_one_150 x1 x2 x3 h = some r) : hj r.2 1316 = hj h 1316 := by
  unfold b_m_one_150 at hf
  rcases xi_or hf with ⟨-, hf⟩ | ⟨-, hf⟩
  · refine (j_b_m_one_210 hf).trans ?_
    first | (simp (disch := decide) only [hj_hsi, hj_hsj_ne, hj_hri]; done) | rfl
  · rcases xi_or hf with ⟨-, hf⟩ | ⟨-, hf⟩
    · refine (j_b_m_one_210 hf).trans ?_
      first | (simp (disch := decide) only [hj_hsi, hj_hsj_ne, hj_hri]; done) | rfl
    · rcases xi_or hf with ⟨-, hf⟩ | ⟨-, hf⟩
      · refine (j_b_m_one_210 hf).trans ?_
        first | (simp (disch := decide) only [hj_hsi, hj_hsj_ne, hj_hri]; done) | rfl
      · rcases xi_or hf with ⟨-, hf⟩ | ⟨-, hf⟩
        · refine (j_b_m_one_210 hf).trans ?_
          first | (simp (disch := decide) only [hj_hsi, hj_hsj_ne, hj_hri]; done) | rfl
        · rcases xi_or hf with ⟨-, hf⟩ | ⟨-, hf⟩
          · refine (j_b_m_one_210 hf).trans ?_
            first | (simp (disch := decide) only [hj_hsi, hj_hsj_ne, hj_hri]; done) | rfl
          · rcases xi_or hf with ⟨-, hf⟩ | ⟨-, hf⟩
            · refine (j_b_m_one_210 hf).trans ?_
              first | (simp (disch := decide) only [hj_hsi, hj_hsj_ne, hj_hri]; done) | rfl
            · rcases xi_or hf with ⟨-, hf⟩ | ⟨-, hf⟩
              · refine (j_b_m_one_210 hf).trans ?_
                first | (simp (disch := decide) only [hj_hsi, hj_hsj_ne, hj_hri]; done) | rfl
              · rcases xi_or hf with ⟨-, hf⟩ | ⟨-, hf⟩
                · refine (j_b_m_one_210 hf).trans ?_
                  first | (simp (disch := decide) only [hj_hsi, hj_hsj_ne, hj_hri]; done) | rfl
                · rcases xi_or hf with ⟨-, hf⟩ | ⟨-, hf⟩
                  · refine (j_b_m_one_210 hf).trans ?_
                    first | (simp (disch := decide) only [hj_hsi, hj_hsj_ne, hj_hri]; done) | rfl
                  · rcases xi_or hf with ⟨-, hf⟩ | ⟨-, hf⟩
                    · refine (j_b_m_one_215 hf).trans ?_
                      first | (simp (disch := decide) only [hj_hsi, hj_hsj_ne, hj_hri]; done) | rfl
                    · refine (j_b_m_one_210 hf).trans ?_
                      first | (simp (disch := decide) only [hj_hsi, hj_hsj_ne, hj_hri]; done) | rfl
theorem j_b_m_one_141 {x1 : Int32} {x3 : Int32} {y1 : Int32} {h : XH} {r : Int32 × XH}  (hf : b_m_one_141 x1 x3 y1 h = some r) : hj r.2 1316 = hj h 1316 := by
  unfold b_m_one_141 at hf
  obtain ⟨v1, e1, hf⟩ := xb_or hf
  replace e1 := j_f_m_lexeme e1
  obtain rfl := Option.some.inj hf
  first | (simp (disch := decide) only [hj_hsi, hj_hsj_ne, hj_hri, e1]; done) | rfl
theorem j_b_m_one_130 {x1 : Int32} {x3 : Int32} {y1 : Int32} {y2 : Int32} {h : XH} {r : Int32 × XH}  (hf : b_m_one_130 x1 x3 y1 y2 h = some r) : hj r.2 1316 = hj h 1316 := by
  unfold b_m_one_130 at hf
  rcases xi_or hf with ⟨-, hf⟩ | ⟨-, hf⟩
  · refine (j_b_m_one_141 hf).trans ?_
    first | (simp (disch := decide) only [hj_hsi, hj_hsj_ne, hj_hri]; done) | rfl
  · refine (j_b_m_one_141 hf).trans ?_
    first | (simp (disch := decide) only [hj_hsi, hj_hsj_ne, hj_hri]; done) | rfl
theorem j_s_m_one_98 {K98 : Int32 → Int32 → Int32 → XH → Option (Int32 × XH)} {x1 : Int32} {x2 : Int32} {x3 : Int32} {h : XH} {r : Int32 × XH} (hK98 : ∀ (q0 : Int32) (q1 : Int32) (q2 : Int32) (qh : XH) (qr : Int32 × XH), K98 q0 q1 q2 qh = some qr → hj qr.2 1316 = hj qh 1316) (hf : s_m_one_98 K98 x1 x2 x3 h = some r) : hj r.2 1316 = hj h 1316 := by
  unfold s_m_one_98 at hf
  obtain ⟨v1, e1, hf⟩ := xb_or hf
  replace e1 := j_f_m_signAt e1
  obtain ⟨v2, e2, hf⟩ := xb_or hf
  replace e2 := j_f_m_isDigit e2
  rcases xi_or hf with ⟨-, hf⟩ | ⟨-, hf⟩
  · rcases xi_or hf with ⟨-, hf⟩ | ⟨-, hf⟩
    · refine (j_b_m_one_130 hf).trans ?_
      first | (simp (disch := decide) only [hj_hsi, hj_hsj_ne, hj_hri, e2, e1]; done) | rfl
    · refine (j_b_m_one_130 hf).trans ?_
      first | (simp (disch := decide) only [hj_hsi, hj_hsj_ne, hj_hri, e2, e1]; done) | rfl
  · refine (hK98 _ _ _ _ _ hf).trans ?_
    first | (simp (disch := decide) only [hj_hsi, hj_hsj_ne, hj_hri, e2, e1]; done) | rfl
theorem j_b_m_one_98   : ∀ {n : Nat} {q0 : Int32} {q1 : Int32} {q2 : Int32} {h : XH} {r : Int32 × XH}, b_m_one_98  n q0 q1 q2 h = some r → hj r.2 1316 = hj h 1316 := by
  intro n
  induction n with
  | zero => intro _ _ _ _ _ hf; cases hf
  | succ n ih => intro _ _ _ _ _ hf; exact j_s_m_one_98 (fun _ _ _ _ _ e => ih e) hf
theorem j_b_m_one_60 {x1 : Int32} {x3 : Int32} {y1 : Int32} {h : XH} {r : Int32 × XH}  (hf : b_m_one_60 x1 x3 y1 h = some r) : hj r.2 1316 = hj h 1316 := by
  unfold b_m_one_60 at hf
  obtain ⟨v1, e1, hf⟩ := xb_or hf
  replace e1 := j_f_m_keyword e1
  obtain ⟨v2, e2, hf⟩ := xb_or hf
  replace e2 := j_f_m_lexeme e2
  obtain rfl := Option.some.inj hf
  first | (simp (disch := decide) only [hj_hsi, hj_hsj_ne, hj_hri, e2, e1]; done) | rfl
theorem j_b_m_one_40 {K18 : Int32 → Int32 → XH → Option (Int32 × XH)} {x1 : Int32} {x3 : Int32} {h : XH} {r : Int32 × XH} (hK18 : ∀ (q0 : Int32) (q1 : Int32) (qh : XH) (qr : Int32 × XH), K18 q0 q1 qh = some qr → hj qr.2 1316 = hj qh 1316) (hf : b_m_one_40 K18 x1 x3 h = some r) : hj r.2 1316 = hj h 1316 := by
  unfold b_m_one_40 at hf
  refine (hK18 _ _ _ _ hf).trans ?_
  first | (simp (disch := decide) only [hj_hsi, hj_hsj_ne, hj_hri]; done) | rfl
theorem j_s_m_one_18 {K18 : Int32 → Int32 → XH → Option (Int32 × XH)} {x1 : Int32} {x3 : Int32} {h : XH} {r : Int32 × XH} (hK18 : ∀ (q0 : Int32) (q1 : Int32) (qh : XH) (qr : Int32 × XH), K18 q0 q1 qh = some qr → hj qr.2 1316 = hj qh 1316) (hf : s_m_one_18 K18 x1 x3 h = some r) : hj r.2 1316 = hj h 1316 := by
  unfold s_m_one_18 at hf
  obtain ⟨v1, e1, hf⟩ := xb_or hf
  replace e1 := j_f_m_signAt e1
  obtain ⟨v2, e2, hf⟩ := xb_or hf
  replace e2 := j_f_m_isLetter e2
  rcases xi_or hf with ⟨-, hf⟩ | ⟨-, hf⟩
  · refine (j_b_m_one_40 hK18 hf).trans ?_
    first | (simp (disch := decide) only [hj_hsi, hj_hsj_ne, hj_hri, e2, e1]; done) | rfl
  · obtain ⟨v3, e3, hf⟩ := xb_or hf
    replace e3 := j_f_m_signAt e3
    obtain ⟨v4, e4, hf⟩ := xb_or hf
    replace e4 := j_f_m_isDigit e4
    rcases xi_or hf with ⟨-, hf⟩ | ⟨-, hf⟩
    · rcases xi_or hf with ⟨-, hf⟩ | ⟨-, hf⟩
      · refine (j_b_m_one_60 hf).trans ?_
        first | (simp (disch := decide) only [hj_hsi, hj_hsj_ne, hj_hri, e4, e3, e2, e1]; done) | rfl
      · refine (j_b_m_one_60 hf).trans ?_
        first | (simp (disch := decide) only [hj_hsi, hj_hsj_ne, hj_hri, e4, e3, e2, e1]; done) | rfl
    · refine (j_b_m_one_40 hK18 hf).trans ?_
      first | (simp (disch := decide) only [hj_hsi, hj_hsj_ne, hj_hri, e4, e3, e2, e1]; done) | rfl
theorem j_b_m_one_18   : ∀ {n : Nat} {q0 : Int32} {q1 : Int32} {h : XH} {r : Int32 × XH}, b_m_one_18  n q0 q1 h = some r → hj r.2 1316 = hj h 1316 := by
  intro n
  induction n with
  | zero => intro _ _ _ _ hf; cases hf
  | succ n ih => intro _ _ _ _ hf; exact j_s_m_one_18 (fun _ _ _ _ e => ih e) hf
theorem j_f_m_one {a0 : Int32} {h : XH} {r : Int32 × XH}  (hf : f_m_one a0 h = some r) : hj r.2 1316 = hj h 1316 := by
  unfold f_m_one at hf
  rcases xi_or hf with ⟨-, hf⟩ | ⟨-, hf⟩
  · obtain ⟨v1, e1, hf⟩ := xb_or hf
    replace e1 := j_f_m_isLetter e1
    rcases xi_or hf with ⟨-, hf⟩ | ⟨-, hf⟩
    · obtain ⟨v2, e2, hf⟩ := xb_or hf
      replace e2 := j_f_m_isDigit e2
      rcases xi_or hf with ⟨-, hf⟩ | ⟨-, hf⟩
      · refine (j_b_m_one_98 hf).trans ?_
        first | (simp (disch := decide) only [hj_hsi, hj_hsj_ne, hj_hri, e2, e1]; done) | rfl
      · rcases xi_or hf with ⟨-, hf⟩ | ⟨-, hf⟩
        · refine (j_b_m_one_150 hf).trans ?_
          first | (simp (disch := decide) only [hj_hsi, hj_hsj_ne, hj_hri, e2, e1]; done) | rfl
        · obtain ⟨v3, e3, hf⟩ := xb_or hf
          replace e3 := j_f_m_signAt e3
          obtain ⟨v4, e4, hf⟩ := xb_or hf
          replace e4 := j_f_m_isDigit e4
          rcases xi_or hf with ⟨-, hf⟩ | ⟨-, hf⟩
          · refine (j_b_m_one_150 hf).trans ?_
            first | (simp (disch := decide) only [hj_hsi, hj_hsj_ne, hj_hri, e4, e3, e2, e1]; done) | rfl
          · refine (j_b_m_one_98 hf).trans ?_
            first | (simp (disch := decide) only [hj_hsi, hj_hsj_ne, hj_hri, e4, e3, e2, e1]; done) | rfl
    · refine (j_b_m_one_18 hf).trans ?_
      first | (simp (disch := decide) only [hj_hsi, hj_hsj_ne, hj_hri, e1]; done) | rfl
  · exact xn_or hf
theorem j_b_m_cut_159 {K9 : Int32 → Int32 → XH → Option (Unit × XH)} {x1 : Int32} {y0 : Int32} {h : XH} {r : Unit × XH} (hK9 : ∀ (q0 : Int32) (q1 : Int32) (qh : XH) (qr : Unit × XH), K9 q0 q1 qh = some qr → hj qr.2 1316 = hj qh 1316) (hf : b_m_cut_159 K9 x1 y0 h = some r) : hj r.2 1316 = hj h 1316 := by
  unfold b_m_cut_159 at hf
  refine (hK9 _ _ _ _ hf).trans ?_
  first | (simp (disch := decide) only [hj_hsi, hj_hsj_ne, hj_hri]; done) | rfl
theorem j_b_m_cut_106 {K9 : Int32 → Int32 → XH → Option (Unit × XH)} {x1 : Int32} {h : XH} {r : Unit × XH} (hK9 : ∀ (q0 : Int32) (q1 : Int32) (qh : XH) (qr : Unit × XH), K9 q0 q1 qh = some qr → hj qr.2 1316 = hj qh 1316) (hf : b_m_cut_106 K9 x1 h = some r) : hj r.2 1316 = hj h 1316 := by
  unfold b_m_cut_106 at hf
  rcases xi_or hf with ⟨-, hf⟩ | ⟨-, hf⟩
  · obtain ⟨v1, e1, hf⟩ := xb_or hf
    replace e1 := j_f_m_one e1
    rcases xi_or hf with ⟨-, hf⟩ | ⟨-, hf⟩
    · rcases xi_or hf with ⟨-, hf⟩ | ⟨-, hf⟩
      · refine (j_b_m_cut_159 hK9 hf).trans ?_
        first | (simp (disch := decide) only [hj_hsi, hj_hsj_ne, hj_hri, e1]; done) | rfl
      · refine (j_b_m_cut_159 hK9 hf).trans ?_
        first | (simp (disch := decide) only [hj_hsi, hj_hsj_ne, hj_hri, e1]; done) | rfl
    · exact xn_or hf
  · obtain ⟨v2, e2, hf⟩ := xb_or hf
    replace e2 := j_f_m_lexeme e2
    refine (hK9 _ _ _ _ hf).trans ?_
    first | (simp (disch := decide) only [hj_hsi, hj_hsj_ne, hj_hri, e2]; done) | rfl
theorem j_s_m_cut_81 {K9 : Int32 → Int32 → XH → Option (Unit × XH)} {K81 : Int32 → Int32 → XH → Option (Unit × XH)} {x1 : Int32} {x2 : Int32} {h : XH} {r : Unit × XH} (hK9 : ∀ (q0 : Int32) (q1 : Int32) (qh : XH) (qr : Unit × XH), K9 q0 q1 qh = some qr → hj qr.2 1316 = hj qh 1316) (hK81 : ∀ (q0 : Int32) (q1 : Int32) (qh : XH) (qr : Unit × XH), K81 q0 q1 qh = some qr → hj qr.2 1316 = hj qh 1316) (hf : s_m_cut_81 K9 K81 x1 x2 h = some r) : hj r.2 1316 = hj h 1316 := by
  unfold s_m_cut_81 at hf
  rcases xi_or hf with ⟨-, hf⟩ | ⟨-, hf⟩
  · refine (hK9 _ _ _ _ hf).trans ?_
    first | (simp (disch := decide) only [hj_hsi, hj_hsj_ne, hj_hri]; done) | rfl
  · rcases xi_or hf with ⟨-, hf⟩ | ⟨-, hf⟩
    · rcases xi_or hf with ⟨-, hf⟩ | ⟨-, hf⟩
      · refine (hK9 _ _ _ _ hf).trans ?_
        first | (simp (disch := decide) only [hj_hsi, hj_hsj_ne, hj_hri]; done) | rfl
      · refine (hK81 _ _ _ _ hf).trans ?_
        first | (simp (disch := decide) only [hj_hsi, hj_hsj_ne, hj_hri]; done) | rfl
    · exact xn_or hf
theorem j_b_m_cut_81 {K9 : Int32 → Int32 → XH → Option (Unit × XH)} (hK9 : ∀ (q0 : Int32) (q1 : Int32) (qh : XH) (qr : Unit × XH), K9 q0 q1 qh = some qr → hj qr.2 1316 = hj qh 1316) : ∀ {n : Nat} {q0 : Int32} {q1 : Int32} {h : XH} {r : Unit × XH}, b_m_cut_81 K9 n q0 q1 h = some r → hj r.2 1316 = hj h 1316 := by
  intro n
  induction n with
  | zero => intro _ _ _ _ hf; cases hf
  | succ n ih => intro _ _ _ _ hf; exact j_s_m_cut_81 hK9 (fun _ _ _ _ e => ih e) hf
theorem j_b_m_cut_53 {K9 : Int32 → Int32 → XH → Option (Unit × XH)} {K13 : Int32 → Int32 → XH → Option (Unit × XH)} {x1 : Int32} {x2 : Int32} {h : XH} {r : Unit × XH} (hK9 : ∀ (q0 : Int32) (q1 : Int32) (qh : XH) (qr : Unit × XH), K9 q0 q1 qh = some qr → hj qr.2 1316 = hj qh 1316) (hK13 : ∀ (q0 : Int32) (q1 : Int32) (qh : XH) (qr : Unit × XH), K13 q0 q1 qh = some qr → hj qr.2 1316 = hj qh 1316) (hf : b_m_cut_53 K9 K13 x1 x2 h = some r) : hj r.2 1316 = hj h 1316 := by
  unfold b_m_cut_53 at hf
  refine (hK13 _ _ _ _ hf).trans ?_
  first | (simp (disch := decide) only [hj_hsi, hj_hsj_ne, hj_hri]; done) | rfl
theorem j_s_m_cut_13 {K9 : Int32 → Int32 → XH → Option (Unit × XH)} {K13 : Int32 → Int32 → XH → Option (Unit × XH)} {x1 : Int32} {x2 : Int32} {h : XH} {r : Unit × XH} (hK9 : ∀ (q0 : Int32) (q1 : Int32) (qh : XH) (qr : Unit × XH), K9 q0 q1 qh = some qr → hj qr.2 1316 = hj qh 1316) (hK13 : ∀ (q0 : Int32) (q1 : Int32) (qh : XH) (qr : Unit × XH), K13 q0 q1 qh = some qr → hj qr.2 1316 = hj qh 1316) (hf : s_m_cut_13 K9 K13 x1 x2 h = some r) : hj r.2 1316 = hj h 1316 := by
  unfold s_m_cut_13 at hf
  obtain ⟨v1, e1, hf⟩ := xb_or hf
  replace e1 := j_f_m_signAt e1
  rcases xi_or hf with ⟨-, hf⟩ | ⟨-, hf⟩
  · refine (j_b_m_cut_53 hK9 hK13 hf).trans ?_
    first | (simp (disch := decide) only [hj_hsi, hj_hsj_ne, hj_hri, e1]; done) | rfl
  · obtain ⟨v2, e2, hf⟩ := xb_or hf
    replace e2 := j_f_m_signAt e2
    rcases xi_or hf with ⟨-, hf⟩ | ⟨-, hf⟩
    · refine (j_b_m_cut_53 hK9 hK13 hf).trans ?_
      first | (simp (disch := decide) only [hj_hsi, hj_hsj_ne, hj_hri, e2, e1]; done) | rfl
    · obtain ⟨v3, e3, hf⟩ := xb_or hf
      replace e3 := j_f_m_signAt e3
      rcases xi_or hf with ⟨-, hf⟩ | ⟨-, hf⟩
      · refine (j_b_m_cut_53 hK9 hK13 hf).trans ?_
        first | (simp (disch := decide) only [hj_hsi, hj_hsj_ne, hj_hri, e3, e2, e1]; done) | rfl
      · obtain ⟨v4, e4, hf⟩ := xb_or hf
        replace e4 := j_f_m_signAt e4
        rcases xi_or hf with ⟨-, hf⟩ | ⟨-, hf⟩
        · obtain ⟨v5, e5, hf⟩ := xb_or hf
          replace e5 := j_f_m_signAt e5
          rcases xi_or hf with ⟨-, hf⟩ | ⟨-, hf⟩
          · refine (j_b_m_cut_106 hK9 hf).trans ?_
            first | (simp (disch := decide) only [hj_hsi, hj_hsj_ne, hj_hri, e5, e4, e3, e2, e1]; done) | rfl
          · obtain ⟨v6, e6, hf⟩ := xb_or hf
            replace e6 := j_f_m_signAt e6
            rcases xi_or hf with ⟨-, hf⟩ | ⟨-, hf⟩
            · refine (j_b_m_cut_106 hK9 hf).trans ?_
              first | (simp (disch := decide) only [hj_hsi, hj_hsj_ne, hj_hri, e6, e5, e4, e3, e2, e1]; done) | rfl
            · refine (j_b_m_cut_81 hK9 hf).trans ?_
              first | (simp (disch := decide) only [hj_hsi, hj_hsj_ne, hj_hri, e6, e5, e4, e3, e2, e1]; done) | rfl
        · refine (j_b_m_cut_53 hK9 hK13 hf).trans ?_
          first | (simp (disch := decide) only [hj_hsi, hj_hsj_ne, hj_hri, e4, e3, e2, e1]; done) | rfl
theorem j_b_m_cut_13 {K9 : Int32 → Int32 → XH → Option (Unit × XH)} (hK9 : ∀ (q0 : Int32) (q1 : Int32) (qh : XH) (qr : Unit × XH), K9 q0 q1 qh = some qr → hj qr.2 1316 = hj qh 1316) : ∀ {n : Nat} {q0 : Int32} {q1 : Int32} {h : XH} {r : Unit × XH}, b_m_cut_13 K9 n q0 q1 h = some r → hj r.2 1316 = hj h 1316 := by
  intro n
  induction n with
  | zero => intro _ _ _ _ hf; cases hf
  | succ n ih => intro _ _ _ _ hf; exact j_s_m_cut_13 hK9 (fun _ _ _ _ e => ih e) hf
theorem j_s_m_cut_9 {K9 : Int32 → Int32 → XH → Option (Unit × XH)} {x1 : Int32} {x2 : Int32} {h : XH} {r : Unit × XH} (hK9 : ∀ (q0 : Int32) (q1 : Int32) (qh : XH) (qr : Unit × XH), K9 q0 q1 qh = some qr → hj qr.2 1316 = hj qh 1316) (hf : s_m_cut_9 K9 x1 x2 h = some r) : hj r.2 1316 = hj h 1316 := by
  unfold s_m_cut_9 at hf
  rcases xi_or hf with ⟨-, hf⟩ | ⟨-, hf⟩
  · obtain rfl := Option.some.inj hf
    first | (simp (disch := decide) only [hj_hsi, hj_hsj_ne, hj_hri]; done) | rfl
  · refine (j_b_m_cut_13 hK9 hf).trans ?_
    first | (simp (disch := decide) only [hj_hsi, hj_hsj_ne, hj_hri]; done) | rfl
theorem j_b_m_cut_9   : ∀ {n : Nat} {q0 : Int32} {q1 : Int32} {h : XH} {r : Unit × XH}, b_m_cut_9  n q0 q1 h = some r → hj r.2 1316 = hj h 1316 := by
  intro n
  induction n with
  | zero => intro _ _ _ _ hf; cases hf
  | succ n ih => intro _ _ _ _ hf; exact j_s_m_cut_9 (fun _ _ _ _ e => ih e) hf
theorem j_f_m_cut {h : XH} {r : Unit × XH}  (hf : f_m_cut h = some r) : hj r.2 1316 = hj h 1316 := by
  unfold f_m_cut at hf
  refine (j_b_m_cut_9 hf).trans ?_
  first | (simp (disch := decide) only [hj_hsi, hj_hsj_ne, hj_hri]; done) | rfl
theorem j_b_m_sameName_88 {K41 : Int32 → Int32 → Int32 → Int32 → Int32 → XH → Option (Int32 × XH)} {x1 : Int32} {x2 : Int32} {x3 : Int32} {x5 : Int32} {y0 : Int32} {h : XH} {r : Int32 × XH} (hK41 : ∀ (q0 : Int32) (q1 : Int32) (q2 : Int32) (q3 : Int32) (q4 : Int32) (qh : XH) (qr : Int32 × XH), K41 q0 q1 q2 q3 q4 qh = some qr → hj qr.2 1316 = hj qh 1316) (hf : b_m_sameName_88 K41 x1 x2 x3 x5 y0 h = some r) : hj r.2 1316 = hj h 1316 := by
  unfold b_m_sameName_88 at hf
  refine (hK41 _ _ _ _ _ _ _ hf).trans ?_
  first | (simp (disch := decide) only [hj_hsi, hj_hsj_ne, hj_hri]; done) | rfl
theorem j_s_m_sameName_41 {K41 : Int32 → Int32 → Int32 → Int32 → Int32 → XH → Option (Int32 × XH)} {x1 : Int32} {x2 : Int32} {x3 : Int32} {x4 : Int32} {x5 : Int32} {h : XH} {r : Int32 × XH} (hK41 : ∀ (q0 : Int32) (q1 : Int32) (q2 : Int32) (q3 : Int32) (q4 : Int32) (qh : XH) (qr : Int32 × XH), K41 q0 q1 q2 q3 q4 qh = some qr → hj qr.2 1316 = hj qh 1316) (hf : s_m_sameName_41 K41 x1 x2 x3 x4 x5 h = some r) : hj r.2 1316 = hj h 1316 := by
  unfold s_m_sameName_41 at hf
  rcases xi_or hf with ⟨-, hf⟩ | ⟨-, hf⟩
  · rcases xi_or hf with ⟨-, hf⟩ | ⟨-, hf⟩
    · obtain rfl := Option.some.inj hf
      first | (simp (disch := decide) only [hj_hsi, hj_hsj_ne, hj_hri]; done) | rfl
    · exact xn_or hf
  · rcases xi_or hf with ⟨-, hf⟩ | ⟨-, hf⟩
    · rcases xi_or hf with ⟨-, hf⟩ | ⟨-, hf⟩
      · obtain rfl := Option.some.inj hf
        first | (simp (disch := decide) only [hj_hsi, hj_hsj_ne, hj_hri]; done) | rfl
      · exact xn_or hf
    · rcases xi_or hf with ⟨-, hf⟩ | ⟨-, hf⟩
      · rcases xi_or hf with ⟨-, hf⟩ | ⟨-, hf⟩
        · rcases xi_or hf with ⟨-, hf⟩ | ⟨-, hf⟩
          · rcases xi_or hf with ⟨-, hf⟩ | ⟨-, hf⟩
            · rcases xi_or hf with ⟨-, hf⟩ | ⟨-, hf⟩
              · refine (j_b_m_sameName_88 hK41 hf).trans ?_
                first | (simp (disch := decide) only [hj_hsi, hj_hsj_ne, hj_hri]; done) | rfl
              · refine (j_b_m_sameName_88 hK41 hf).trans ?_
                first | (simp (disch := decide) only [hj_hsi, hj_hsj_ne, hj_hri]; done) | rfl
            · exact xn_or hf
          · exact xn_or hf
        · exact xn_or hf
      · exact xn_or hf
theorem j_b_m_sameName_41   : ∀ {n : Nat} {q0 : Int32} {q1 : Int32} {q2 : Int32} {q3 : Int32} {q4 : Int32} {h : XH} {r : Int32 × XH}, b_m_sameName_41  n q0 q1 q2 q3 q4 h = some r → hj r.2 1316 = hj h 1316 := by
  intro n
  induction n with
  | zero => intro _ _ _ _ _ _ _ hf; cases hf
  | succ n ih => intro _ _ _ _ _ _ _ hf; exact j_s_m_sameName_41 (fun _ _ _ _ _ _ _ e => ih e) hf
theorem j_b_m_sameName_36 {x1 : Int32} {x2 : Int32} {x3 : Int32} {y0 : Int32} {h : XH} {r : Int32 × XH}  (hf : b_m_sameName_36 x1 x2 x3 y0 h = some r) : hj r.2 1316 = hj h 1316 := by
  unfold b_m_sameName_36 at hf
  refine (j_b_m_sameName_41 hf).trans ?_
  first | (simp (disch := decide) only [hj_hsi, hj_hsj_ne, hj_hri]; done) | rfl
theorem j_f_m_sameName {a0 : Int32} {a1 : Int32} {h : XH} {r : Int32 × XH}  (hf : f_m_sameName a0 a1 h = some r) : hj r.2 1316 = hj h 1316 := by
  unfold f_m_sameName at hf
  rcases xi_or hf with ⟨-, hf⟩ | ⟨-, hf⟩
  · rcases xi_or hf with ⟨-, hf⟩ | ⟨-, hf⟩
    · rcases xi_or hf with ⟨-, hf⟩ | ⟨-, hf⟩
      · refine (j_b_m_sameName_36 hf).trans ?_
        first | (simp (disch := decide) only [hj_hsi, hj_hsj_ne, hj_hri]; done) | rfl
      · refine (j_b_m_sameName_36 hf).trans ?_
        first | (simp (disch := decide) only [hj_hsi, hj_hsj_ne, hj_hri]; done) | rfl
    · exact xn_or hf
  · exact xn_or hf
theorem j_f_m_flaw {a0 : Int32} {h : XH} {r : Unit × XH}  (hf : f_m_flaw a0 h = some r) : hj r.2 1316 = hj h 1316 := by
  unfold f_m_flaw at hf
  rcases xi_or hf with ⟨-, hf⟩ | ⟨-, hf⟩
  · obtain rfl := Option.some.inj hf
    first | (simp (disch := decide) only [hj_hsi, hj_hsj_ne, hj_hri]; done) | rfl
  · rcases xi_or hf with ⟨-, hf⟩ | ⟨-, hf⟩
    · obtain rfl := Option.some.inj hf
      first | (simp (disch := decide) only [hj_hsi, hj_hsj_ne, hj_hri]; done) | rfl
    · exact xn_or hf
theorem j_b_m_misfit_19 {y1 : Int32} {h : XH} {r : Unit × XH}  (hf : b_m_misfit_19 y1 h = some r) : hj r.2 1316 = hj h 1316 := by
  unfold b_m_misfit_19 at hf
  obtain ⟨v1, e1, hf⟩ := xb_or hf
  replace e1 := j_f_m_flaw e1
  obtain rfl := Option.some.inj hf
  first | (simp (disch := decide) only [hj_hsi, hj_hsj_ne, hj_hri, e1]; done) | rfl
theorem j_f_m_misfit {h : XH} {r : Unit × XH}  (hf : f_m_misfit h = some r) : hj r.2 1316 = hj h 1316 := by
  unfold f_m_misfit at hf
  rcases xi_or hf with ⟨-, hf⟩ | ⟨-, hf⟩
  · rcases xi_or hf with ⟨-, hf⟩ | ⟨-, hf⟩
    · refine (j_b_m_misfit_19 hf).trans ?_
      first | (simp (disch := decide) only [hj_hsi, hj_hsj_ne, hj_hri]; done) | rfl
    · refine (j_b_m_misfit_19 hf).trans ?_
      first | (simp (disch := decide) only [hj_hsi, hj_hsj_ne, hj_hri]; done) | rfl
  · exact xn_or hf
theorem j_f_m_isSign {a0 : Int32} {h : XH} {r : Int32 × XH}  (hf : f_m_isSign a0 h = some r) : hj r.2 1316 = hj h 1316 := by
  unfold f_m_isSign at hf
  rcases xi_or hf with ⟨-, hf⟩ | ⟨-, hf⟩
  · obtain rfl := Option.some.inj hf
    first | (simp (disch := decide) only [hj_hsi, hj_hsj_ne, hj_hri]; done) | rfl
  · rcases xi_or hf with ⟨-, hf⟩ | ⟨-, hf⟩
    · rcases xi_or hf with ⟨-, hf⟩ | ⟨-, hf⟩
      · obtain rfl := Option.some.inj hf
        first | (simp (disch := decide) only [hj_hsi, hj_hsj_ne, hj_hri]; done) | rfl
      · rcases xi_or hf with ⟨-, hf⟩ | ⟨-, hf⟩
        · obtain rfl := Option.some.inj hf
          first | (simp (disch := decide) only [hj_hsi, hj_hsj_ne, hj_hri]; done) | rfl
        · obtain rfl := Option.some.inj hf
          first | (simp (disch := decide) only [hj_hsi, hj_hsj_ne, hj_hri]; done) | rfl
    · exact xn_or hf
theorem j_f_m_isWord {a0 : Int32} {h : XH} {r : Int32 × XH}  (hf : f_m_isWord a0 h = some r) : hj r.2 1316 = hj h 1316 := by
  unfold f_m_isWord at hf
  rcases xi_or hf with ⟨-, hf⟩ | ⟨-, hf⟩
  · obtain rfl := Option.some.inj hf
    first | (simp (disch := decide) only [hj_hsi, hj_hsj_ne, hj_hri]; done) | rfl
  · rcases xi_or hf with ⟨-, hf⟩ | ⟨-, hf⟩
    · rcases xi_or hf with ⟨-, hf⟩ | ⟨-, hf⟩
      · obtain rfl := Option.some.inj hf
        first | (simp (disch := decide) only [hj_hsi, hj_hsj_ne, hj_hri]; done) | rfl
      · rcases xi_or hf with ⟨-, hf⟩ | ⟨-, hf⟩
        · obtain rfl := Option.some.inj hf
          first | (simp (disch := decide) only [hj_hsi, hj_hsj_ne, hj_hri]; done) | rfl
        · obtain rfl := Option.some.inj hf
          first | (simp (disch := decide) only [hj_hsi, hj_hsj_ne, hj_hri]; done) | rfl
    · exact xn_or hf
theorem j_f_m_isScalar {h : XH} {r : Int32 × XH}  (hf : f_m_isScalar h = some r) : hj r.2 1316 = hj h 1316 := by
  unfold f_m_isScalar at hf
  rcases xi_or hf with ⟨-, hf⟩ | ⟨-, hf⟩
  · obtain rfl := Option.some.inj hf
    first | (simp (disch := decide) only [hj_hsi, hj_hsj_ne, hj_hri]; done) | rfl
  · rcases xi_or hf with ⟨-, hf⟩ | ⟨-, hf⟩
    · rcases xi_or hf with ⟨-, hf⟩ | ⟨-, hf⟩
      · obtain rfl := Option.some.inj hf
        first | (simp (disch := decide) only [hj_hsi, hj_hsj_ne, hj_hri]; done) | rfl
      · rcases xi_or hf with ⟨-, hf⟩ | ⟨-, hf⟩
        · obtain rfl := Option.some.inj hf
          first | (simp (disch := decide) only [hj_hsi, hj_hsj_ne, hj_hri]; done) | rfl
        · rcases xi_or hf with ⟨-, hf⟩ | ⟨-, hf⟩
          · obtain rfl := Option.some.inj hf
            first | (simp (disch := decide) only [hj_hsi, hj_hsj_ne, hj_hri]; done) | rfl
          · obtain rfl := Option.some.inj hf
            first | (simp (disch := decide) only [hj_hsi, hj_hsj_ne, hj_hri]; done) | rfl
    · exact xn_or hf
theorem j_f_m_isName {h : XH} {r : Int32 × XH}  (hf : f_m_isName h = some r) : hj r.2 1316 = hj h 1316 := by
  unfold f_m_isName at hf
  rcases xi_or hf with ⟨-, hf⟩ | ⟨-, hf⟩
  · obtain rfl := Option.some.inj hf
    first | (simp (disch := decide) only [hj_hsi, hj_hsj_ne, hj_hri]; done) | rfl
  · rcases xi_or hf with ⟨-, hf⟩ | ⟨-, hf⟩
    · rcases xi_or hf with ⟨-, hf⟩ | ⟨-, hf⟩
      · obtain rfl := Option.some.inj hf
        first | (simp (disch := decide) only [hj_hsi, hj_hsj_ne, hj_hri]; done) | rfl
      · rcases xi_or hf with ⟨-, hf⟩ | ⟨-, hf⟩
        · obtain rfl := Option.some.inj hf
          first | (simp (disch := decide) only [hj_hsi, hj_hsj_ne, hj_hri]; done) | rfl
        · obtain rfl := Option.some.inj hf
          first | (simp (disch := decide) only [hj_hsi, hj_hsj_ne, hj_hri]; done) | rfl
    · exact xn_or hf
theorem j_f_m_take {h : XH} {r : Unit × XH}  (hf : f_m_take h = some r) : hj r.2 1316 = hj h 1316 := by
  unfold f_m_take at hf
  rcases xi_or hf with ⟨-, hf⟩ | ⟨-, hf⟩
  · obtain rfl := Option.some.inj hf
    first | (simp (disch := decide) only [hj_hsi, hj_hsj_ne, hj_hri]; done) | rfl
  · obtain rfl := Option.some.inj hf
    first | (simp (disch := decide) only [hj_hsi, hj_hsj_ne, hj_hri]; done) | rfl
theorem j_b_m_sign_19 {h : XH} {r : Unit × XH}  (hf : b_m_sign_19 h = some r) : hj r.2 1316 = hj h 1316 := by
  unfold b_m_sign_19 at hf
  obtain ⟨v1, e1, hf⟩ := xb_or hf
  replace e1 := j_f_m_take e1
  obtain rfl := Option.some.inj hf
  first | (simp (disch := decide) only [hj_hsi, hj_hsj_ne, hj_hri, e1]; done) | rfl
theorem j_f_m_sign {a0 : Int32} {h : XH} {r : Unit × XH}  (hf : f_m_sign a0 h = some r) : hj r.2 1316 = hj h 1316 := by
  unfold f_m_sign at hf
  rcases xi_or hf with ⟨-, hf⟩ | ⟨-, hf⟩
  · refine (j_b_m_sign_19 hf).trans ?_
    first | (simp (disch := decide) only [hj_hsi, hj_hsj_ne, hj_hri]; done) | rfl
  · obtain ⟨v1, e1, hf⟩ := xb_or hf
    replace e1 := j_f_m_isSign e1
    rcases xi_or hf with ⟨-, hf⟩ | ⟨-, hf⟩
    · refine (j_b_m_sign_19 hf).trans ?_
      first | (simp (disch := decide) only [hj_hsi, hj_hsj_ne, hj_hri, e1]; done) | rfl
    · obtain ⟨v2, e2, hf⟩ := xb_or hf
      replace e2 := j_f_m_misfit e2
      refine (j_b_m_sign_19 hf).trans ?_
      first | (simp (disch := decide) only [hj_hsi, hj_hsj_ne, hj_hri, e2, e1]; done) | rfl
theorem j_b_m_name_18 {h : XH} {r : Unit × XH}  (hf : b_m_name_18 h = some r) : hj r.2 1316 = hj h 1316 := by
  unfold b_m_name_18 at hf
  obtain ⟨v1, e1, hf⟩ := xb_or hf
  replace e1 := j_f_m_take e1
  obtain rfl := Option.some.inj hf
  first | (simp (disch := decide) only [hj_hsi, hj_hsj_ne, hj_hri, e1]; done) | rfl
theorem j_f_m_name {h : XH} {r : Unit × XH}  (hf : f_m_name h = some r) : hj r.2 1316 = hj h 1316 := by
  unfold f_m_name at hf
  rcases xi_or hf with ⟨-, hf⟩ | ⟨-, hf⟩
  · refine (j_b_m_name_18 hf).trans ?_
    first | (simp (disch := decide) only [hj_hsi, hj_hsj_ne, hj_hri]; done) | rfl
  · obtain ⟨v1, e1, hf⟩ := xb_or hf
    replace e1 := j_f_m_isName e1
    rcases xi_or hf with ⟨-, hf⟩ | ⟨-, hf⟩
    · refine (j_b_m_name_18 hf).trans ?_
      first | (simp (disch := decide) only [hj_hsi, hj_hsj_ne, hj_hri, e1]; done) | rfl
    · obtain ⟨v2, e2, hf⟩ := xb_or hf
      replace e2 := j_f_m_misfit e2
      refine (j_b_m_name_18 hf).trans ?_
      first | (simp (disch := decide) only [hj_hsi, hj_hsj_ne, hj_hri, e2, e1]; done) | rfl
theorem j_s_m_definition_2 {K2 : Int32 → Int32 → XH → Option (Int32 × XH)} {x1 : Int32} {x2 : Int32} {h : XH} {r : Int32 × XH} (hK2 : ∀ (q0 : Int32) (q1 : Int32) (qh : XH) (qr : Int32 × XH), K2 q0 q1 qh = some qr → hj qr.2 1316 = hj qh 1316) (hf : s_m_definition_2 K2 x1 x2 h = some r) : hj r.2 1316 = hj h 1316 := by
  unfold s_m_definition_2 at hf
  rcases xi_or hf with ⟨-, hf⟩ | ⟨-, hf⟩
  · obtain rfl := Option.some.inj hf
    first | (simp (disch := decide) only [hj_hsi, hj_hsj_ne, hj_hri]; done) | rfl
  · rcases xi_or hf with ⟨-, hf⟩ | ⟨-, hf⟩
    · obtain ⟨v1, e1, hf⟩ := xb_or hf
      replace e1 := j_f_m_sameName e1
      rcases xi_or hf with ⟨-, hf⟩ | ⟨-, hf⟩
      · refine (hK2 _ _ _ _ hf).trans ?_
        first | (simp (disch := decide) only [hj_hsi, hj_hsj_ne, hj_hri, e1]; done) | rfl
      · obtain rfl := Option.some.inj hf
        first | (simp (disch := decide) only [hj_hsi, hj_hsj_ne, hj_hri, e1]; done) | rfl
    · exact xn_or hf
theorem j_b_m_definition_2   : ∀ {n : Nat} {q0 : Int32} {q1 : Int32} {h : XH} {r : Int32 × XH}, b_m_definition_2  n q0 q1 h = some r → hj r.2 1316 = hj h 1316 := by
  intro n
  induction n with
  | zero => intro _ _ _ _ hf; cases hf
  | succ n ih => intro _ _ _ _ hf; exact j_s_m_definition_2 (fun _ _ _ _ e => ih e) hf
theorem j_f_m_definition {a0 : Int32} {h : XH} {r : Int32 × XH}  (hf : f_m_definition a0 h = some r) : hj r.2 1316 = hj h 1316 := by
  unfold f_m_definition at hf
  refine (j_b_m_definition_2 hf).trans ?_
  first | (simp (disch := decide) only [hj_hsi, hj_hsj_ne, hj_hri]; done) | rfl
theorem j_b_m_fresh_62 {x3 : Int32} {x4 : Int32} {h : XH} {r : Unit × XH}  (hf : b_m_fresh_62 x3 x4 h = some r) : hj r.2 1316 = hj h 1316 := by
  unfold b_m_fresh_62 at hf
  rcases xi_or hf with ⟨-, hf⟩ | ⟨-, hf⟩
  · obtain rfl := Option.some.inj hf
    first | (simp (disch := decide) only [hj_hsi, hj_hsj_ne, hj_hri]; done) | rfl
  · rcases xi_or hf with ⟨-, hf⟩ | ⟨-, hf⟩
    · obtain rfl := Option.some.inj hf
      first | (simp (disch := decide) only [hj_hsi, hj_hsj_ne, hj_hri]; done) | rfl
    · obtain ⟨v1, e1, hf⟩ := xb_or hf
      replace e1 := j_f_m_flaw e1
      obtain rfl := Option.some.inj hf
      first | (simp (disch := decide) only [hj_hsi, hj_hsj_ne, hj_hri, e1]; done) | rfl
theorem j_b_m_fresh_56 {K21 : Nat → Int32 → Int32 → Int32 → Int32 → XH → Option (Unit × XH)} {x1 : Nat} {x2 : Int32} {x3 : Int32} {x4 : Int32} {x5 : Int32} {h : XH} {r : Unit × XH} (hK21 : ∀ (q0 : Nat) (q1 : Int32) (q2 : Int32) (q3 : Int32) (q4 : Int32) (qh : XH) (qr : Unit × XH), K21 q0 q1 q2 q3 q4 qh = some qr → hj qr.2 1316 = hj qh 1316) (hf : b_m_fresh_56 K21 x1 x2 x3 x4 x5 h = some r) : hj r.2 1316 = hj h 1316 := by
  unfold b_m_fresh_56 at hf
  refine (hK21 _ _ _ _ _ _ _ hf).trans ?_
  first | (simp (disch := decide) only [hj_hsi, hj_hsj_ne, hj_hri]; done) | rfl
theorem j_s_m_fresh_21 {K21 : Nat → Int32 → Int32 → Int32 → Int32 → XH → Option (Unit × XH)} {x1 : Nat} {x2 : Int32} {x3 : Int32} {x4 : Int32} {x5 : Int32} {h : XH} {r : Unit × XH} (hK21 : ∀ (q0 : Nat) (q1 : Int32) (q2 : Int32) (q3 : Int32) (q4 : Int32) (qh : XH) (qr : Unit × XH), K21 q0 q1 q2 q3 q4 qh = some qr → hj qr.2 1316 = hj qh 1316) (hf : s_m_fresh_21 K21 x1 x2 x3 x4 x5 h = some r) : hj r.2 1316 = hj h 1316 := by
  unfold s_m_fresh_21 at hf
  rcases xi_or hf with ⟨-, hf⟩ | ⟨-, hf⟩
  · refine (j_b_m_fresh_62 hf).trans ?_
    first | (simp (disch := decide) only [hj_hsi, hj_hsj_ne, hj_hri]; done) | rfl
  · rcases xi_or hf with ⟨-, hf⟩ | ⟨-, hf⟩
    · refine (j_b_m_fresh_62 hf).trans ?_
      first | (simp (disch := decide) only [hj_hsi, hj_hsj_ne, hj_hri]; done) | rfl
    · rcases xi_or hf with ⟨-, hf⟩ | ⟨-, hf⟩
      · rcases xi_or hf with ⟨-, hf⟩ | ⟨-, hf⟩
        · obtain ⟨v1, e1, hf⟩ := xb_or hf
          replace e1 := j_f_m_sameName e1
          rcases xi_or hf with ⟨-, hf⟩ | ⟨-, hf⟩
          · refine (j_b_m_fresh_56 hK21 hf).trans ?_
            first | (simp (disch := decide) only [hj_hsi, hj_hsj_ne, hj_hri, e1]; done) | rfl
          · obtain ⟨v2, e2, hf⟩ := xb_or hf
            replace e2 := j_f_m_flaw e2
            refine (j_b_m_fresh_56 hK21 hf).trans ?_
            first | (simp (disch := decide) only [hj_hsi, hj_hsj_ne, hj_hri, e2, e1]; done) | rfl
        · exact xn_or hf
      · exact xn_or hf
theorem j_b_m_fresh_21   : ∀ {n : Nat} {q0 : Nat} {q1 : Int32} {q2 : Int32} {q3 : Int32} {q4 : Int32} {h : XH} {r : Unit × XH}, b_m_fresh_21  n q0 q1 q2 q3 q4 h = some r → hj r.2 1316 = hj h 1316 := by
  intro n
  induction n with
  | zero => intro _ _ _ _ _ _ _ hf; cases hf
  | succ n ih => intro _ _ _ _ _ _ _ hf; exact j_s_m_fresh_21 (fun _ _ _ _ _ _ _ e => ih e) hf
theorem j_b_m_fresh_18 {x1 : Nat} {x2 : Int32} {x3 : Int32} {x4 : Int32} {h : XH} {r : Unit × XH}  (hf : b_m_fresh_18 x1 x2 x3 x4 h = some r) : hj r.2 1316 = hj h 1316 := by
  unfold b_m_fresh_18 at hf
  refine (j_b_m_fresh_21 hf).trans ?_
  first | (simp (disch := decide) only [hj_hsi, hj_hsj_ne, hj_hri]; done) | rfl
theorem j_f_m_fresh {a0 : Nat} {a1 : Int32} {a2 : Int32} {a3 : Int32} {h : XH} {r : Unit × XH}  (hf : f_m_fresh a0 a1 a2 a3 h = some r) : hj r.2 1316 = hj h 1316 := by
  unfold f_m_fresh at hf
  rcases xi_or hf with ⟨-, hf⟩ | ⟨-, hf⟩
  · refine (j_b_m_fresh_18 hf).trans ?_
    first | (simp (disch := decide) only [hj_hsi, hj_hsj_ne, hj_hri]; done) | rfl
  · obtain ⟨v1, e1, hf⟩ := xb_or hf
    replace e1 := j_f_m_isName e1
    rcases xi_or hf with ⟨-, hf⟩ | ⟨-, hf⟩
    · refine (j_b_m_fresh_18 hf).trans ?_
      first | (simp (disch := decide) only [hj_hsi, hj_hsj_ne, hj_hri, e1]; done) | rfl
    · obtain ⟨v2, e2, hf⟩ := xb_or hf
      replace e2 := j_f_m_misfit e2
      refine (j_b_m_fresh_18 hf).trans ?_
      first | (simp (disch := decide) only [hj_hsi, hj_hsj_ne, hj_hri, e2, e1]; done) | rfl
theorem j_f_m_ask {a0 : Int32} {a1 : Int32} {a2 : Int32} {h : XH} {r : Unit × XH}  (hf : f_m_ask a0 a1 a2 h = some r) : hj r.2 1316 = hj h 1316 := by
  unfold f_m_ask at hf
  rcases xi_or hf with ⟨-, hf⟩ | ⟨-, hf⟩
  · obtain rfl := Option.some.inj hf
    first | (simp (disch := decide) only [hj_hsi, hj_hsj_ne, hj_hri]; done) | rfl
  · rcases xi_or hf with ⟨-, hf⟩ | ⟨-, hf⟩
    · obtain rfl := Option.some.inj hf
      first | (simp (disch := decide) only [hj_hsi, hj_hsj_ne, hj_hri]; done) | rfl
    · exact xn_or hf
theorem j_b_m_bytesOf_30 {h : XH} {r : Int32 × XH}  (hf : b_m_bytesOf_30 h = some r) : hj r.2 1316 = hj h 1316 := by
  unfold b_m_bytesOf_30 at hf
  obtain rfl := Option.some.inj hf
  first | (simp (disch := decide) only [hj_hsi, hj_hsj_ne, hj_hri]; done) | rfl
theorem j_f_m_bytesOf {a0 : Int32} {h : XH} {r : Int32 × XH}  (hf : f_m_bytesOf a0 h = some r) : hj r.2 1316 = hj h 1316 := by
  unfold f_m_bytesOf at hf
  rcases xi_or hf with ⟨-, hf⟩ | ⟨-, hf⟩
  · rcases xi_or hf with ⟨-, hf⟩ | ⟨-, hf⟩
    · rcases xi_or hf with ⟨-, hf⟩ | ⟨-, hf⟩
      · refine (j_b_m_bytesOf_30 hf).trans ?_
        first | (simp (disch := decide) only [hj_hsi, hj_hsj_ne, hj_hri]; done) | rfl
      · rcases xi_or hf with ⟨-, hf⟩ | ⟨-, hf⟩
        · obtain rfl := Option.some.inj hf
          first | (simp (disch := decide) only [hj_hsi, hj_hsj_ne, hj_hri]; done) | rfl
        · refine (j_b_m_bytesOf_30 hf).trans ?_
          first | (simp (disch := decide) only [hj_hsi, hj_hsj_ne, hj_hri]; done) | rfl
    · obtain rfl := Option.some.inj hf
      first | (simp (disch := decide) only [hj_hsi, hj_hsj_ne, hj_hri]; done) | rfl
  · obtain rfl := Option.some.inj hf
    first | (simp (disch := decide) only [hj_hsi, hj_hsj_ne, hj_hri]; done) | rfl
theorem j_b_m_flatten_109 {K20 : Int32 → Int32 → Int32 → Int32 → Int32 → XH → Option (Unit × XH)} {x1 : Int32} {x2 : Int32} {x3 : Int32} {x4 : Int32} {x5 : Int32} {y1 : Int32} {y2 : Int32} {y3 : Int32} {h : XH} {r : Unit × XH} (hK20 : ∀ (q0 : Int32) (q1 : Int32) (q2 : Int32) (q3 : Int32) (q4 : Int32) (qh : XH) (qr : Unit × XH), K20 q0 q1 q2 q3 q4 qh = some qr → hj qr.2 1316 = hj qh 1316) (hf : b_m_flatten_109 K20 x1 x2 x3 x4 x5 y1 y2 y3 h = some r) : hj r.2 1316 = hj h 1316 := by
  unfold b_m_flatten_109 at hf
  rcases xi_or hf with ⟨-, hf⟩ | ⟨-, hf⟩
  · rcases xi_or hf with ⟨-, hf⟩ | ⟨-, hf⟩
    · refine (hK20 _ _ _ _ _ _ _ hf).trans ?_
      first | (simp (disch := decide) only [hj_hsi, hj_hsj_ne, hj_hri]; done) | rfl
    · exact xn_or hf
  · exact xn_or hf
theorem j_b_m_flatten_74 {K20 : Int32 → Int32 → Int32 → Int32 → Int32 → XH → Option (Unit × XH)} {x1 : Int32} {x2 : Int32} {x3 : Int32} {x4 : Int32} {x5 : Int32} {x6 : Int32} {y1 : Int32} {y2 : Int32} {h : XH} {r : Unit × XH} (hK20 : ∀ (q0 : Int32) (q1 : Int32) (q2 : Int32) (q3 : Int32) (q4 : Int32) (qh : XH) (qr : Unit × XH), K20 q0 q1 q2 q3 q4 qh = some qr → hj qr.2 1316 = hj qh 1316) (hf : b_m_flatten_74 K20 x1 x2 x3 x4 x5 x6 y1 y2 h = some r) : hj r.2 1316 = hj h 1316 := by
  unfold b_m_flatten_74 at hf
  rcases xi_or hf with ⟨-, hf⟩ | ⟨-, hf⟩
  · rcases xi_or hf with ⟨-, hf⟩ | ⟨-, hf⟩
    · rcases xi_or hf with ⟨-, hf⟩ | ⟨-, hf⟩
      · rcases xi_or hf with ⟨-, hf⟩ | ⟨-, hf⟩
        · refine (j_b_m_flatten_109 hK20 hf).trans ?_
          first | (simp (disch := decide) only [hj_hsi, hj_hsj_ne, hj_hri]; done) | rfl
        · exact xn_or hf
      · refine (j_b_m_flatten_109 hK20 hf).trans ?_
        first | (simp (disch := decide) only [hj_hsi, hj_hsj_ne, hj_hri]; done) | rfl
    · exact xn_or hf
  · exact xn_or hf
theorem j_s_m_flatten_20 {K20 : Int32 → Int32 → Int32 → Int32 → Int32 → XH → Option (Unit × XH)} {x1 : Int32} {x2 : Int32} {x3 : Int32} {x4 : Int32} {x5 : Int32} {h : XH} {r : Unit × XH} (hK20 : ∀ (q0 : Int32) (q1 : Int32) (q2 : Int32) (q3 : Int32) (q4 : Int32) (qh : XH) (qr : Unit × XH), K20 q0 q1 q2 q3 q4 qh = some qr → hj qr.2 1316 = hj qh 1316) (hf : s_m_flatten_20 K20 x1 x2 x3 x4 x5 h = some r) : hj r.2 1316 = hj h 1316 := by
  unfold s_m_flatten_20 at hf
  rcases xi_or hf with ⟨-, hf⟩ | ⟨-, hf⟩
  · obtain rfl := Option.some.inj hf
    first | (simp (disch := decide) only [hj_hsi, hj_hsj_ne, hj_hri]; done) | rfl
  · rcases xi_or hf with ⟨-, hf⟩ | ⟨-, hf⟩
    · rcases xi_or hf with ⟨-, hf⟩ | ⟨-, hf⟩
      · rcases xi_or hf with ⟨-, hf⟩ | ⟨-, hf⟩
        · refine (j_b_m_flatten_74 hK20 hf).trans ?_
          first | (simp (disch := decide) only [hj_hsi, hj_hsj_ne, hj_hri]; done) | rfl
        · exact xn_or hf
      · rcases xi_or hf with ⟨-, hf⟩ | ⟨-, hf⟩
        · refine (j_b_m_flatten_74 hK20 hf).trans ?_
          first | (simp (disch := decide) only [hj_hsi, hj_hsj_ne, hj_hri]; done) | rfl
        · exact xn_or hf
    · exact xn_or hf
theorem j_b_m_flatten_20   : ∀ {n : Nat} {q0 : Int32} {q1 : Int32} {q2 : Int32} {q3 : Int32} {q4 : Int32} {h : XH} {r : Unit × XH}, b_m_flatten_20  n q0 q1 q2 q3 q4 h = some r → hj r.2 1316 = hj h 1316 := by
  intro n
  induction n with
  | zero => intro _ _ _ _ _ _ _ hf; cases hf
  | succ n ih => intro _ _ _ _ _ _ _ hf; exact j_s_m_flatten_20 (fun _ _ _ _ _ _ _ e => ih e) hf
theorem j_b_m_flatten_15 {x1 : Int32} {x2 : Int32} {x3 : Int32} {y0 : Int32} {h : XH} {r : Unit × XH}  (hf : b_m_flatten_15 x1 x2 x3 y0 h = some r) : hj r.2 1316 = hj h 1316 := by
  unfold b_m_flatten_15 at hf
  refine (j_b_m_flatten_20 hf).trans ?_
  first | (simp (disch := decide) only [hj_hsi, hj_hsj_ne, hj_hri]; done) | rfl
theorem j_f_m_flatten {a0 : Int32} {a1 : Int32} {a2 : Int32} {h : XH} {r : Unit × XH}  (hf : f_m_flatten a0 a1 a2 h = some r) : hj r.2 1316 = hj h 1316 := by
  unfold f_m_flatten at hf
  rcases xi_or hf with ⟨-, hf⟩ | ⟨-, hf⟩
  · rcases xi_or hf with ⟨-, hf⟩ | ⟨-, hf⟩
    · refine (j_b_m_flatten_15 hf).trans ?_
      first | (simp (disch := decide) only [hj_hsi, hj_hsj_ne, hj_hri]; done) | rfl
    · exact xn_or hf
  · refine (j_b_m_flatten_15 hf).trans ?_
    first | (simp (disch := decide) only [hj_hsi, hj_hsj_ne, hj_hri]; done) | rfl
theorem j_f_m_upTo {a0 : Int32} {a1 : Int32} {h : XH} {r : Int32 × XH}  (hf : f_m_upTo a0 a1 h = some r) : hj r.2 1316 = hj h 1316 := by
  unfold f_m_upTo at hf
  rcases xi_or hf with ⟨-, hf⟩ | ⟨-, hf⟩
  · obtain rfl := Option.some.inj hf
    first | (simp (disch := decide) only [hj_hsi, hj_hsj_ne, hj_hri]; done) | rfl
  · exact xn_or hf
theorem j_b_m_structType_258 {h : XH} {r : Unit × XH}  (hf : b_m_structType_258 h = some r) : hj r.2 1316 = hj h 1316 := by
  unfold b_m_structType_258 at hf
  obtain ⟨v1, e1, hf⟩ := xb_or hf
  replace e1 := j_f_m_take e1
  obtain rfl := Option.some.inj hf
  first | (simp (disch := decide) only [hj_hsi, hj_hsj_ne, hj_hri, e1]; done) | rfl
theorem j_b_m_structType_238 {x1 : Int32} {x2 : Int32} {x3 : Int32} {y1 : Int32} {y2 : Int32} {h : XH} {r : Unit × XH}  (hf : b_m_structType_238 x1 x2 x3 y1 y2 h = some r) : hj r.2 1316 = hj h 1316 := by
  unfold b_m_structType_238 at hf
  rcases xi_or hf with ⟨-, hf⟩ | ⟨-, hf⟩
  · rcases xi_or hf with ⟨-, hf⟩ | ⟨-, hf⟩
    · rcases xi_or hf with ⟨-, hf⟩ | ⟨-, hf⟩
      · refine (j_b_m_structType_258 hf).trans ?_
        first | (simp (disch := decide) only [hj_hsi, hj_hsj_ne, hj_hri]; done) | rfl
      · obtain ⟨v1, e1, hf⟩ := xb_or hf
        replace e1 := j_f_m_flatten e1
        refine (j_b_m_structType_258 hf).trans ?_
        first | (simp (disch := decide) only [hj_hsi, hj_hsj_ne, hj_hri, e1]; done) | rfl
    · exact xn_or hf
  · exact xn_or hf
theorem j_b_m_structType_177 {x1 : Int32} {x2 : Int32} {x3 : Int32} {x4 : Int32} {y0 : Int32} {h : XH} {r : Unit × XH}  (hf : b_m_structType_177 x1 x2 x3 x4 y0 h = some r) : hj r.2 1316 = hj h 1316 := by
  unfold b_m_structType_177 at hf
  rcases xi_or hf with ⟨-, hf⟩ | ⟨-, hf⟩
  · obtain ⟨v1, e1, hf⟩ := xb_or hf
    replace e1 := j_f_m_upTo e1
    rcases xi_or hf with ⟨-, hf⟩ | ⟨-, hf⟩
    · rcases xi_or hf with ⟨-, hf⟩ | ⟨-, hf⟩
      · rcases xi_or hf with ⟨-, hf⟩ | ⟨-, hf⟩
        · refine (j_b_m_structType_238 hf).trans ?_
          first | (simp (disch := decide) only [hj_hsi, hj_hsj_ne, hj_hri, e1]; done) | rfl
        · refine (j_b_m_structType_238 hf).trans ?_
          first | (simp (disch := decide) only [hj_hsi, hj_hsj_ne, hj_hri, e1]; done) | rfl
      · exact xn_or hf
    · exact xn_or hf
  · exact xn_or hf
theorem j_b_m_structType_159 {x1 : Int32} {x2 : Int32} {x3 : Int32} {y0 : Int32} {h : XH} {r : Unit × XH}  (hf : b_m_structType_159 x1 x2 x3 y0 h = some r) : hj r.2 1316 = hj h 1316 := by
  unfold b_m_structType_159 at hf
  rcases xi_or hf with ⟨-, hf⟩ | ⟨-, hf⟩
  · rcases xi_or hf with ⟨-, hf⟩ | ⟨-, hf⟩
    · refine (j_b_m_structType_177 hf).trans ?_
      first | (simp (disch := decide) only [hj_hsi, hj_hsj_ne, hj_hri]; done) | rfl
    · exact xn_or hf
  · refine (j_b_m_structType_177 hf).trans ?_
    first | (simp (disch := decide) only [hj_hsi, hj_hsj_ne, hj_hri]; done) | rfl
theorem j_b_m_structType_132 {x1 : Int32} {x2 : Int32} {x3 : Int32} {y1 : Int32} {y2 : Int32} {h : XH} {r : Unit × XH}  (hf : b_m_structType_132 x1 x2 x3 y1 y2 h = some r) : hj r.2 1316 = hj h 1316 := by
  unfold b_m_structType_132 at hf
  rcases xi_or hf with ⟨-, hf⟩ | ⟨-, hf⟩
  · rcases xi_or hf with ⟨-, hf⟩ | ⟨-, hf⟩
    · rcases xi_or hf with ⟨-, hf⟩ | ⟨-, hf⟩
      · refine (j_b_m_structType_159 hf).trans ?_
        first | (simp (disch := decide) only [hj_hsi, hj_hsj_ne, hj_hri]; done) | rfl
      · exact xn_or hf
    · rcases xi_or hf with ⟨-, hf⟩ | ⟨-, hf⟩
      · obtain ⟨v1, e1, hf⟩ := xb_or hf
        replace e1 := j_f_m_bytesOf e1
        refine (j_b_m_structType_159 hf).trans ?_
        first | (simp (disch := decide) only [hj_hsi, hj_hsj_ne, hj_hri, e1]; done) | rfl
      · exact xn_or hf
  · exact xn_or hf
theorem j_b_m_structType_108 {x1 : Int32} {x2 : Int32} {x3 : Int32} {y1 : Int32} {y2 : Int32} {h : XH} {r : Unit × XH}  (hf : b_m_structType_108 x1 x2 x3 y1 y2 h = some r) : hj r.2 1316 = hj h 1316 := by
  unfold b_m_structType_108 at hf
  rcases xi_or hf with ⟨-, hf⟩ | ⟨-, hf⟩
  · rcases xi_or hf with ⟨-, hf⟩ | ⟨-, hf⟩
    · refine (j_b_m_structType_132 hf).trans ?_
      first | (simp (disch := decide) only [hj_hsi, hj_hsj_ne, hj_hri]; done) | rfl
    · rcases xi_or hf with ⟨-, hf⟩ | ⟨-, hf⟩
      · refine (j_b_m_structType_132 hf).trans ?_
        first | (simp (disch := decide) only [hj_hsi, hj_hsj_ne, hj_hri]; done) | rfl
      · exact xn_or hf
  · exact xn_or hf
theorem j_b_m_structType_93 {x1 : Int32} {x2 : Int32} {x3 : Int32} {h : XH} {r : Unit × XH}  (hf : b_m_structType_93 x1 x2 x3 h = some r) : hj r.2 1316 = hj h 1316 := by
  unfold b_m_structType_93 at hf
  rcases xi_or hf with ⟨-, hf⟩ | ⟨-, hf⟩
  · refine (j_b_m_structType_108 hf).trans ?_
    first | (simp (disch := decide) only [hj_hsi, hj_hsj_ne, hj_hri]; done) | rfl
  · refine (j_b_m_structType_108 hf).trans ?_
    first | (simp (disch := decide) only [hj_hsi, hj_hsj_ne, hj_hri]; done) | rfl
theorem j_b_m_structType_66 {x1 : Int32} {x2 : Int32} {y0 : Int32} {h : XH} {r : Unit × XH}  (hf : b_m_structType_66 x1 x2 y0 h = some r) : hj r.2 1316 = hj h 1316 := by
  unfold b_m_structType_66 at hf
  rcases xi_or hf with ⟨-, hf⟩ | ⟨-, hf⟩
  · refine (j_b_m_structType_93 hf).trans ?_
    first | (simp (disch := decide) only [hj_hsi, hj_hsj_ne, hj_hri]; done) | rfl
  · obtain ⟨v1, e1, hf⟩ := xb_or hf
    replace e1 := j_f_m_flaw e1
    obtain rfl := Option.some.inj hf
    first | (simp (disch := decide) only [hj_hsi, hj_hsj_ne, hj_hri, e1]; done) | rfl
theorem j_b_m_structType_65 {x1 : Int32} {x2 : Int32} {h : XH} {r : Unit × XH}  (hf : b_m_structType_65 x1 x2 h = some r) : hj r.2 1316 = hj h 1316 := by
  unfold b_m_structType_65 at hf
  refine (j_b_m_structType_66 hf).trans ?_
  first | (simp (disch := decide) only [hj_hsi, hj_hsj_ne, hj_hri]; done) | rfl
theorem j_f_m_structType {a0 : Int32} {a1 : Int32} {h : XH} {r : Unit × XH}  (hf : f_m_structType a0 a1 h = some r) : hj r.2 1316 = hj h 1316 := by
  unfold f_m_structType at hf
  rcases xi_or hf with ⟨-, hf⟩ | ⟨-, hf⟩
  · obtain ⟨v1, e1, hf⟩ := xb_or hf
    replace e1 := j_f_m_isName e1
    rcases xi_or hf with ⟨-, hf⟩ | ⟨-, hf⟩
    · obtain ⟨v2, e2, hf⟩ := xb_or hf
      replace e2 := j_f_m_isScalar e2
      rcases xi_or hf with ⟨-, hf⟩ | ⟨-, hf⟩
      · refine (j_b_m_structType_93 hf).trans ?_
        first | (simp (disch := decide) only [hj_hsi, hj_hsj_ne, hj_hri, e2, e1]; done) | rfl
      · obtain ⟨v3, e3, hf⟩ := xb_or hf
        replace e3 := j_f_m_misfit e3
        obtain rfl := Option.some.inj hf
        first | (simp (disch := decide) only [hj_hsi, hj_hsj_ne, hj_hri, e3, e2, e1]; done) | rfl
    · obtain ⟨v4, e4, hf⟩ := xb_or hf
      replace e4 := j_f_m_definition e4
      rcases xi_or hf with ⟨-, hf⟩ | ⟨-, hf⟩
      · refine (j_b_m_structType_65 hf).trans ?_
        first | (simp (disch := decide) only [hj_hsi, hj_hsj_ne, hj_hri, e4, e1]; done) | rfl
      · rcases xi_or hf with ⟨-, hf⟩ | ⟨-, hf⟩
        · rcases xi_or hf with ⟨-, hf⟩ | ⟨-, hf⟩
          · refine (j_b_m_structType_65 hf).trans ?_
            first | (simp (disch := decide) only [hj_hsi, hj_hsj_ne, hj_hri, e4, e1]; done) | rfl
          · rcases xi_or hf with ⟨-, hf⟩ | ⟨-, hf⟩
            · refine (j_b_m_structType_65 hf).trans ?_
              first | (simp (disch := decide) only [hj_hsi, hj_hsj_ne, hj_hri, e4, e1]; done) | rfl
            · refine (j_b_m_structType_66 hf).trans ?_
              first | (simp (disch := decide) only [hj_hsi, hj_hsj_ne, hj_hri, e4, e1]; done) | rfl
        · exact xn_or hf
  · obtain rfl := Option.some.inj hf
    first | (simp (disch := decide) only [hj_hsi, hj_hsj_ne, hj_hri]; done) | rfl
theorem j_b_m_structBody_195 {h : XH} {r : Unit × XH}  (hf : b_m_structBody_195 h = some r) : hj r.2 1316 = hj h 1316 := by
  unfold b_m_structBody_195 at hf
  obtain ⟨v1, e1, hf⟩ := xb_or hf
  replace e1 := j_f_m_sign e1
  obtain rfl := Option.some.inj hf
  first | (simp (disch := decide) only [hj_hsi, hj_hsj_ne, hj_hri, e1]; done) | rfl
theorem j_b_m_structBody_149 {x1 : Int32} {h : XH} {r : Unit × XH}  (hf : b_m_structBody_149 x1 h = some r) : hj r.2 1316 = hj h 1316 := by
  unfold b_m_structBody_149 at hf
  rcases xi_or hf with ⟨-, hf⟩ | ⟨-, hf⟩
  · refine (j_b_m_structBody_195 hf).trans ?_
    first | (simp (disch := decide) only [hj_hsi, hj_hsj_ne, hj_hri]; done) | rfl
  · rcases xi_or hf with ⟨-, hf⟩ | ⟨-, hf⟩
    · obtain ⟨v1, e1, hf⟩ := xb_or hf
      replace e1 := j_f_m_upTo e1
      rcases xi_or hf with ⟨-, hf⟩ | ⟨-, hf⟩
      · rcases xi_or hf with ⟨-, hf⟩ | ⟨-, hf⟩
        · refine (j_b_m_structBody_195 hf).trans ?_
          first | (simp (disch := decide) only [hj_hsi, hj_hsj_ne, hj_hri, e1]; done) | rfl
        · obtain ⟨v2, e2, hf⟩ := xb_or hf
          replace e2 := j_f_m_flaw e2
          refine (j_b_m_structBody_195 hf).trans ?_
          first | (simp (disch := decide) only [hj_hsi, hj_hsj_ne, hj_hri, e2, e1]; done) | rfl
      · exact xn_or hf
    · exact xn_or hf
theorem j_b_m_structBody_145 {K35 : Int32 → Int32 → XH → Option (Unit × XH)} {x1 : Int32} {y0 : Int32} {h : XH} {r : Unit × XH} (hK35 : ∀ (q0 : Int32) (q1 : Int32) (qh : XH) (qr : Unit × XH), K35 q0 q1 qh = some qr → hj qr.2 1316 = hj qh 1316) (hf : b_m_structBody_145 K35 x1 y0 h = some r) : hj r.2 1316 = hj h 1316 := by
  unfold b_m_structBody_145 at hf
  refine (hK35 _ _ _ _ hf).trans ?_
  first | (simp (disch := decide) only [hj_hsi, hj_hsj_ne, hj_hri]; done) | rfl
theorem j_b_m_structBody_131 {K35 : Int32 → Int32 → XH → Option (Unit × XH)} {x1 : Int32} {h : XH} {r : Unit × XH} (hK35 : ∀ (q0 : Int32) (q1 : Int32) (qh : XH) (qr : Unit × XH), K35 q0 q1 qh = some qr → hj qr.2 1316 = hj qh 1316) (hf : b_m_structBody_131 K35 x1 h = some r) : hj r.2 1316 = hj h 1316 := by
  unfold b_m_structBody_131 at hf
  obtain ⟨v1, e1, hf⟩ := xb_or hf
  replace e1 := j_f_m_isSign e1
  rcases xi_or hf with ⟨-, hf⟩ | ⟨-, hf⟩
  · refine (j_b_m_structBody_145 hK35 hf).trans ?_
    first | (simp (disch := decide) only [hj_hsi, hj_hsj_ne, hj_hri, e1]; done) | rfl
  · refine (j_b_m_structBody_145 hK35 hf).trans ?_
    first | (simp (disch := decide) only [hj_hsi, hj_hsj_ne, hj_hri, e1]; done) | rfl
theorem j_s_m_structBody_35 {K35 : Int32 → Int32 → XH → Option (Unit × XH)} {x1 : Int32} {x2 : Int32} {h : XH} {r : Unit × XH} (hK35 : ∀ (q0 : Int32) (q1 : Int32) (qh : XH) (qr : Unit × XH), K35 q0 q1 qh = some qr → hj qr.2 1316 = hj qh 1316) (hf : s_m_structBody_35 K35 x1 x2 h = some r) : hj r.2 1316 = hj h 1316 := by
  unfold s_m_structBody_35 at hf
  rcases xi_or hf with ⟨-, hf⟩ | ⟨-, hf⟩
  · refine (j_b_m_structBody_149 hf).trans ?_
    first | (simp (disch := decide) only [hj_hsi, hj_hsj_ne, hj_hri]; done) | rfl
  · rcases xi_or hf with ⟨-, hf⟩ | ⟨-, hf⟩
    · refine (j_b_m_structBody_149 hf).trans ?_
      first | (simp (disch := decide) only [hj_hsi, hj_hsj_ne, hj_hri]; done) | rfl
    · rcases xi_or hf with ⟨-, hf⟩ | ⟨-, hf⟩
      · obtain ⟨v1, e1, hf⟩ := xb_or hf
        replace e1 := j_f_m_fresh e1
        obtain ⟨v2, e2, hf⟩ := xb_or hf
        replace e2 := j_f_m_take e2
        obtain ⟨v3, e3, hf⟩ := xb_or hf
        replace e3 := j_f_m_sign e3
        obtain ⟨v4, e4, hf⟩ := xb_or hf
        replace e4 := j_f_m_structType e4
        obtain ⟨v5, e5, hf⟩ := xb_or hf
        replace e5 := j_f_m_sign e5
        rcases xi_or hf with ⟨-, hf⟩ | ⟨-, hf⟩
        · refine (j_b_m_structBody_131 hK35 hf).trans ?_
          first | (simp (disch := decide) only [hj_hsi, hj_hsj_ne, hj_hri, e5, e4, e3, e2, e1]; done) | rfl
        · rcases xi_or hf with ⟨-, hf⟩ | ⟨-, hf⟩
          · rcases xi_or hf with ⟨-, hf⟩ | ⟨-, hf⟩
            · refine (j_b_m_structBody_131 hK35 hf).trans ?_
              first | (simp (disch := decide) only [hj_hsi, hj_hsj_ne, hj_hri, e5, e4, e3, e2, e1]; done) | rfl
            · exact xn_or hf
          · exact xn_or hf
      · exact xn_or hf
