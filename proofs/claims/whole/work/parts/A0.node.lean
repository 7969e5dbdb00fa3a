/-! What was accepted: tables, vectors, texts, structs in it -/
section Node
variable {sg : SGT} {sd : Nat → Int64} {y : Nat → Nat} {n : Nat}
/-- a field of the table at p is right -/
def FOK (sg : SGT) (y : Nat → Nat) (n p i d : Nat) : Prop := ∃ m c, 17 ≤ m + d ∧ (jf (jT sg y n m) sg y n p (la y p) i d c).1 = 0
/-- a table stands at p, d deep -/
def TOK (sg : SGT) (y : Nat → Nat) (n p t d : Nat) : Prop := d ≤ 16 ∧ p + 4 ≤ n ∧ (jl y n p).1 = 0 ∧ t < sg 0 1 ∧ ∀ f, f < sg 10 t → FOK sg y n p (16 * t + f) d
/-- an element (or a part that is no vector) stands at q -/
def EOK (sg : SGT) (y : Nat → Nat) (n q so o d : Nat) : Prop := ∃ m c, 17 ≤ m + d ∧ (jc (jT sg y n m) sg y n q so o d c).1 = 0
/-- a vector stands at p -/
def VOK (sg : SGT) (y : Nat → Nat) (n p e o d : Nat) : Prop := d ≤ 16 ∧ p + 4 ≤ n ∧ p + 4 + nb y 4 p * zO sg e o ≤ n ∧ oK sg e o ∧ ∀ k, k < nb y 4 p → EOK sg y n (p + 4 + k * zO sg e o) e o d
theorem jF_all {KT : Nat → Nat → Nat → Nat → J3} {p l d : Nat} : ∀ (r i c : Nat), (jF KT sg y n p l d r i c).1 = 0 → ∀ f, f < r → ∃ c', (jf KT sg y n p l (i + f) d c').1 = 0
  | 0, _, _, _, f, hf => absurd hf (Nat.not_lt_zero f)
  | r + 1, i, c, h, f, hf => by
    unfold jF at h
    by_cases q : (jf KT sg y n p l i d c).1 = 0
    · rw [if_pos q] at h
      by_cases f0 : f = 0
      · subst f0
        exact ⟨c, q⟩
      · obtain ⟨c', e⟩ := jF_all r (i + 1) _ h (f - 1) (by omega)
        refine ⟨c', ?_⟩
        rw [show i + 1 + (f - 1) = i + f by omega] at e
        exact e
    · rw [if_neg q] at h
      exact absurd h q
theorem jE_all {KT : Nat → Nat → Nat → Nat → J3} {a so o d : Nat} : ∀ (r k c : Nat), (jE KT sg y n a so o d r k c).1 = 0 → ∀ f, f < r → ∃ c', (jc KT sg y n (a + (k + f) * zO sg so o) so o d c').1 = 0
  | 0, _, _, _, f, hf => absurd hf (Nat.not_lt_zero f)
  | r + 1, k, c, h, f, hf => by
    unfold jE at h
    by_cases q : (jc KT sg y n (a + k * zO sg so o) so o d c).1 = 0
    · rw [if_pos q] at h
      by_cases f0 : f = 0
      · subst f0
        exact ⟨c, q⟩
      · obtain ⟨c', e⟩ := jE_all r (k + 1) _ h (f - 1) (by omega)
        refine ⟨c', ?_⟩
        rw [show k + 1 + (f - 1) = k + f by omega] at e
        exact e
    · rw [if_neg q] at h
      exact absurd h q
theorem jT_ok {m q t d c : Nat} (hm : 18 ≤ m + d) (hd : d ≤ 17) (ht : t < sg 0 1) (h : (jT sg y n m q t d c).1 = 0) : TOK sg y n (q + nb y 4 q) t d := by
  cases m with
  | zero => omega
  | succ m =>
    have h' : (jG (jT sg y n m) sg y n q t d c).1 = 0 := h
    unfold jG at h'
    by_cases c1 : (jr y n q).1 = 0
    · have ok := jr_ok c1
      rw [if_pos c1] at h'
      by_cases c2 : 16 < d
      · rw [if_pos c2] at h'; cases h'
      · rw [if_neg c2] at h'
        by_cases c3 : 200 ≤ c
        · rw [if_pos c3] at h'; cases h'
        · rw [if_neg c3] at h'
          by_cases c4 : (jl y n (q + nb y 4 q)).1 = 0
          · rw [if_pos c4] at h'
            refine ⟨by omega, by omega, c4, ht, fun f hf => ?_⟩
            obtain ⟨c', e⟩ := jF_all _ _ _ h' f hf
            exact ⟨m, c', by omega, e⟩
          · rw [if_neg c4] at h'; exact absurd h' c4
    · rw [if_neg c1] at h'; exact absurd h' c1
theorem jv_ok {m q e o d c : Nat} (hm : 17 ≤ m + d) (hd : d ≤ 16) (k : oK sg e o) (h : (jv (jT sg y n m) sg y n q e o d c).1 = 0) : VOK sg y n (q + nb y 4 q) e o d := by
  unfold jv at h
  by_cases c1 : (jr y n q).1 = 0
  · have ok := jr_ok c1
    rw [if_pos c1] at h
    by_cases c2 : (q + nb y 4 q + 4) % aO sg e o = 0
    · rw [if_pos c2] at h
      by_cases c3 : n < q + nb y 4 q + 4 + nb y 4 (q + nb y 4 q) * zO sg e o
      · rw [if_pos c3] at h; cases h
      · rw [if_neg c3] at h
        refine ⟨hd, by omega, by omega, k, fun f hf => ?_⟩
        obtain ⟨c', e⟩ := jE_all _ _ _ h f hf
        rw [Nat.zero_add] at e
        exact ⟨m, c', hm, e⟩
    · rw [if_neg c2] at h; cases h
  · rw [if_neg c1] at h; exact absurd h c1
/-- what a part of a sort leads to -/
theorem EOK.txt {q o d : Nat} (h : EOK sg y n q 1 o d) : q + nb y 4 q + 4 + nb y 4 (q + nb y 4 q) + 1 ≤ n := by
  obtain ⟨m, c, -, e⟩ := h
  unfold jc at e
  rw [if_neg (show ¬ 1 = 0 by decide), if_pos (show 1 = 1 from rfl)] at e
  by_cases c1 : (jr y n q).1 = 0
  · rw [if_pos c1] at e
    have e2 : (jt y n (q + nb y 4 q)).1 = 0 := e
    unfold jt at e2
    by_cases c2 : n < q + nb y 4 q + 4 + nb y 4 (q + nb y 4 q) + 1
    · rw [if_pos c2] at e2; cases e2
    · omega
  · rw [if_neg c1] at e; exact absurd e c1
theorem EOK.tab {q o d : Nat} (hd : d ≤ 16) (ho : o < sg 0 1) (h : EOK sg y n q 3 o d) : TOK sg y n (q + nb y 4 q) o (d + 1) := by
  obtain ⟨m, c, hm, e⟩ := h
  unfold jc at e
  rw [if_neg (show ¬ 3 = 0 by decide), if_neg (show ¬ 3 = 1 by decide), if_neg (show ¬ 3 = 2 by decide)] at e
  exact jT_ok (by omega) (by omega) ho e
/-- a field that is there, and no union -/
theorem FOK.fld {p i d : Nat} (h4 : ¬ sg 12 i = 4) (hf : ¬ fr y (la y p) (sg 15 i) = 0) (h : FOK sg y n p i d) : (jw y p (la y p) (sg 15 i) (zO sg (sg 12 i) (sg 13 i)) (aO sg (sg 12 i) (sg 13 i))).1 = 0 ∧ (¬ sg 12 i = 5 → EOK sg y n (p + fr y (la y p) (sg 15 i)) (sg 12 i) (sg 13 i) d) ∧ (sg 12 i = 5 → d ≤ 16 → oK sg (sg 14 i - 1) (sg 13 i) → VOK sg y n (p + fr y (la y p) (sg 15 i) + nb y 4 (p + fr y (la y p) (sg 15 i))) (sg 14 i - 1) (sg 13 i) d) := by
  obtain ⟨m, c, hm, e⟩ := h
  unfold jf at e
  rw [if_neg h4, if_neg hf] at e
  by_cases c1 : (jw y p (la y p) (sg 15 i) (zO sg (sg 12 i) (sg 13 i)) (aO sg (sg 12 i) (sg 13 i))).1 = 0
  · rw [if_pos c1] at e
    refine ⟨c1, fun h5 => ?_, fun h5 hd k => ?_⟩
    · rw [if_neg h5] at e
      exact ⟨m, c, hm, e⟩
    · rw [if_pos h5] at e
      exact jv_ok hm hd k e
  · rw [if_neg c1] at e; exact absurd e c1
/-- a union -/
theorem FOK.uni {p i d : Nat} (h4 : sg 12 i = 4) (h : FOK sg y n p i d) : (¬ fr y (la y p) (sg 15 i) = 0 → (jw y p (la y p) (sg 15 i) 1 1).1 = 0) ∧ jwh y p (la y p) (sg 15 i) ≤ sg 17 (sg 13 i) ∧ (¬ jwh y p (la y p) (sg 15 i) = 0 → ¬ fr y (la y p) (sg 15 i + 1) = 0 ∧ (jw y p (la y p) (sg 15 i + 1) 4 4).1 = 0 ∧ (d ≤ 16 → sg 18 (8 * sg 13 i + (jwh y p (la y p) (sg 15 i) - 1)) < sg 0 1 → TOK sg y n (p + fr y (la y p) (sg 15 i + 1) + nb y 4 (p + fr y (la y p) (sg 15 i + 1))) (sg 18 (8 * sg 13 i + (jwh y p (la y p) (sg 15 i) - 1))) (d + 1))) := by
  obtain ⟨m, c, hm, e⟩ := h
  unfold jf at e
  rw [if_pos h4] at e
  unfold ju at e
  by_cases c1 : ¬ fr y (la y p) (sg 15 i) = 0 ∧ ¬ (jw y p (la y p) (sg 15 i) 1 1).1 = 0
  · rw [if_pos c1] at e; exact absurd e c1.2
  · rw [if_neg c1] at e
    by_cases c2 : sg 17 (sg 13 i) < jwh y p (la y p) (sg 15 i)
    · rw [if_pos c2] at e; cases e
    · rw [if_neg c2] at e
      refine ⟨fun z => Classical.byContradiction fun w => c1 ⟨z, w⟩, by omega, fun z => ?_⟩
      rw [if_neg z] at e
      by_cases c3 : fr y (la y p) (sg 15 i + 1) = 0
      · rw [if_pos c3] at e; cases e
      · rw [if_neg c3] at e
        by_cases c4 : (jw y p (la y p) (sg 15 i + 1) 4 4).1 = 0
        · rw [if_pos c4] at e
          exact ⟨c3, c4, fun hd ht => jT_ok (by omega) (by omega) ht e⟩
        · rw [if_neg c4] at e; exact absurd e c4
/-- a node of the reader: its sort, number, element's sort (and 1), place; i are above it -/
def NV (sg : SGT) (y : Nat → Nat) (n i so o e p : Nat) : Prop :=
  (so = 3 ∧ e = 0 ∧ ∃ d, i + 2 ≤ 2 * d ∧ TOK sg y n p o d) ∨ (so = 5 ∧ 1 ≤ e ∧ ∃ d, i + 1 ≤ 2 * d ∧ VOK sg y n p (e - 1) o d) ∨ (so = 1 ∧ e = 0 ∧ o = 0 ∧ i ≤ 33 ∧ p + 4 + nb y 4 p + 1 ≤ n) ∨ (so = 2 ∧ e = 0 ∧ o < sg 0 0 ∧ i + o ≤ 43 ∧ p + sg 2 o ≤ n)
theorem NV.lt {i so o e p : Nat} (h : NV sg y n i so o e p) : i ≤ 43 := by
  rcases h with ⟨-, -, d, a, b⟩ | ⟨-, -, d, a, b⟩ | ⟨-, -, -, a, b⟩ | ⟨-, -, -, a, b⟩
  · have := b.1; omega
  · have := b.1; omega
  · omega
  · omega
theorem jA_ok (h : (jA sg y n).1 = 0) (hr' : sg 0 3 < sg 0 1) : 4 ≤ n ∧ NV sg y n 0 3 (sg 0 3) 0 (nb y 4 0) := by
  unfold jA at h
  by_cases c1 : n < 4
  · rw [if_pos c1] at h; cases h
  · rw [if_neg c1] at h
    have t := jT_ok (by decide) (by decide) hr' h
    rw [Nat.zero_add] at t
    exact ⟨by omega, Or.inl ⟨rfl, rfl, 1, by decide, t⟩⟩
end Node
