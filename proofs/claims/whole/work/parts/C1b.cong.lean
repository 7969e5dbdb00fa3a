/-! The judge looks at no byte beyond the end -/
section Cong
variable {y z : Nat → Nat} {n : Nat} {sg : SGT} {sd : Nat → Int64}
theorem nb_E (E : ∀ k, k < n → y k = z k) {k i : Nat} (hik : i + k ≤ n) : nb y k i = nb z k i := nb_congr k i (fun j _ h2 => E j (by omega))
theorem jr_E (E : ∀ k, k < n → y k = z k) {q : Nat} (hq : q + 4 ≤ n) : jr y n q = jr z n q := by
  unfold jr
  rw [nb_E E hq]
theorem la_E (E : ∀ k, k < n → y k = z k) {p : Nat} (hp : p + 4 ≤ n) : la y p = la z p := by
  unfold la
  rw [nb_E E hp]
theorem jl_E (E : ∀ k, k < n → y k = z k) {p : Nat} (hp : p + 4 ≤ n) : jl y n p = jl z n p := by
  unfold jl
  rw [la_E E hp, nb_E E hp]
  by_cases c : n < la z p + 4
  · rw [if_pos (Or.inr (Or.inr c)), if_pos (Or.inr (Or.inr c))]
  · rw [nb_E E (show la z p + 2 ≤ n by omega), nb_E E (show la z p + 2 + 2 ≤ n by omega)]
theorem fr_E (E : ∀ k, k < n → y k = z k) {l s : Nat} (hl : l + 4 ≤ n) (hv : l + nb z 2 l ≤ n) : fr y l s = fr z l s := by
  unfold fr
  rw [nb_E E (show l + 2 ≤ n by omega)]
  by_cases c : nb z 2 l < 6 + 2 * s
  · rw [if_pos c, if_pos c]
  · rw [if_neg c, if_neg c, nb_E E (show l + 4 + 2 * s + 2 ≤ n by omega)]
theorem jw_E (E : ∀ k, k < n → y k = z k) {p l s a b : Nat} (hl : l + 6 + 2 * s ≤ n) : jw y p l s a b = jw z p l s a b := by
  unfold jw
  rw [nb_E E (show l + 4 + 2 * s + 2 ≤ n by omega), nb_E E (show l + 2 + 2 ≤ n by omega)]
theorem jt_E (E : ∀ k, k < n → y k = z k) {s : Nat} (hs : s + 4 ≤ n) : jt y n s = jt z n s := by
  unfold jt
  rw [nb_E E hs]
  by_cases c : n < s + 4 + nb z 4 s + 1
  · rw [if_pos c, if_pos c]
  · rw [if_neg c, if_neg c, E _ (by omega)]
theorem js_E (E : ∀ k, k < n → y k = z k) (W : WF sg sd) {q o : Nat} (ho : o < sg 0 0) (hq : q + sg 2 o ≤ n) : ∀ r k, k + r = sg 7 o → js sg y q o r k = js sg z q o r k
  | 0, _, _ => rfl
  | r + 1, k, h => by
    have w2 := (W.2.1 o ho).2.2.1 k (by omega)
    have b8 := bO_le (sg 8 (128 * o + k))
    unfold js
    rw [E (q + sg 9 (128 * o + k)) (by omega), js_E E W ho hq r (k + 1) (by omega)]
variable {KT KZ : Nat → Nat → Nat → Nat → J3} {d : Nat}
def KE (KT KZ : Nat → Nat → Nat → Nat → J3) (n : Nat) (sg : SGT) : Prop := ∀ q t d c, q + 4 ≤ n → t < sg 0 1 → KT q t d c = KZ q t d c
theorem jc_E (E : ∀ k, k < n → y k = z k) (W : WF sg sd) (K : KE KT KZ n sg) {q so o c : Nat} (k : oK sg so o) (hq : q + zO sg so o ≤ n) : jc KT sg y n q so o d c = jc KZ sg z n q so o d c := by
  unfold jc
  rcases k with ⟨e, ho⟩ | ⟨e, ho⟩ | ⟨e, ho⟩ | ⟨e, ho⟩ <;> subst e
  · have bb := bO_le o
    have z0 : zO sg 0 o = bO o := rfl
    rw [if_pos rfl, if_pos rfl, E q (by omega)]
  · have z0 : zO sg 1 o = 4 := rfl
    rw [if_neg (show ¬ 1 = 0 by decide), if_neg (show ¬ 1 = 0 by decide), if_pos rfl, if_pos rfl, jr_E E (by omega), nb_E E (show q + 4 ≤ n by omega)]
    by_cases c1 : (jr z n q).1 = 0
    · have ok := jr_ok c1
      rw [if_pos c1, if_pos c1, jt_E E (by omega)]
    · rw [if_neg c1, if_neg c1]
  · have z0 : zO sg 2 o = sg 2 o := rfl
    rw [if_neg (show ¬ 2 = 0 by decide), if_neg (show ¬ 2 = 0 by decide), if_neg (show ¬ 2 = 1 by decide), if_neg (show ¬ 2 = 1 by decide), if_pos rfl, if_pos rfl, js_E E W ho (by omega) (sg 7 o) 0 (by omega)]
  · have z0 : zO sg 3 o = 4 := rfl
    rw [if_neg (show ¬ 3 = 0 by decide), if_neg (show ¬ 3 = 0 by decide), if_neg (show ¬ 3 = 1 by decide), if_neg (show ¬ 3 = 1 by decide), if_neg (show ¬ 3 = 2 by decide), if_neg (show ¬ 3 = 2 by decide)]
    exact K q o (d + 1) c (by omega) ho
theorem jE_E (E : ∀ k, k < n → y k = z k) (W : WF sg sd) (K : KE KT KZ n sg) {a so o m : Nat} (k : oK sg so o) (hm : a + m * zO sg so o ≤ n) : ∀ r i c, i + r = m → jE KT sg y n a so o d r i c = jE KZ sg z n a so o d r i c
  | 0, _, _, _ => rfl
  | r + 1, i, c, h => by
    have mz : (i + 1) * zO sg so o ≤ m * zO sg so o := Nat.mul_le_mul_right _ (by omega)
    rw [Nat.add_mul] at mz
    unfold jE
    rw [jc_E E W K k (by omega), jE_E E W K k hm r (i + 1) _ (by omega)]
theorem jv_E (E : ∀ k, k < n → y k = z k) (W : WF sg sd) (K : KE KT KZ n sg) {q e o c : Nat} (k : oK sg e o) (hq : q + 4 ≤ n) : jv KT sg y n q e o d c = jv KZ sg z n q e o d c := by
  unfold jv
  rw [jr_E E hq, nb_E E hq]
  by_cases c1 : (jr z n q).1 = 0
  · have ok := jr_ok c1
    rw [if_pos c1, if_pos c1, nb_E E (show q + nb z 4 q + 4 ≤ n by omega)]
    by_cases c2 : (q + nb z 4 q + 4) % aO sg e o = 0
    · rw [if_pos c2, if_pos c2]
      by_cases c3 : n < q + nb z 4 q + 4 + nb z 4 (q + nb z 4 q) * zO sg e o
      · rw [if_pos c3, if_pos c3]
      · rw [if_neg c3, if_neg c3, jE_E E W K k (m := nb z 4 (q + nb z 4 q)) (by omega) _ 0 c (by omega)]
    · rw [if_neg c2, if_neg c2]
  · rw [if_neg c1, if_neg c1]
theorem jf_E (E : ∀ k, k < n → y k = z k) (W : WF sg sd) (K : KE KT KZ n sg) {p l t f c : Nat} (ht : t < sg 0 1) (hf : f < sg 10 t) (hp : p + 4 ≤ n) (hl : l + 4 ≤ n) (hv : l + nb z 2 l ≤ n) (ha : p + nb z 2 (l + 2) ≤ n) : jf KT sg y n p l (16 * t + f) d c = jf KZ sg z n p l (16 * t + f) d c := by
  unfold jf
  have fE : ∀ s, fr y l s = fr z l s := fun s => fr_E E hl hv
  by_cases c4 : sg 12 (16 * t + f) = 4
  · rw [if_pos c4, if_pos c4]
    have hu : sg 13 (16 * t + f) < sg 0 2 := by rcases W.fk ht hf with k | k | k <;> omega
    have wu := W.2.2.2 _ hu
    unfold ju jwh
    rw [fE, fE]
    by_cases c1 : fr z l (sg 15 (16 * t + f)) = 0
    · rw [if_neg (show ¬ (¬ fr z l (sg 15 (16 * t + f)) = 0 ∧ ¬ (jw y p l (sg 15 (16 * t + f)) 1 1).1 = 0) from fun w => w.1 c1), if_neg (show ¬ (¬ fr z l (sg 15 (16 * t + f)) = 0 ∧ ¬ (jw z p l (sg 15 (16 * t + f)) 1 1).1 = 0) from fun w => w.1 c1), if_pos c1, if_pos c1, if_neg (Nat.not_lt_zero _), if_neg (Nat.not_lt_zero _), if_pos rfl, if_pos rfl]
    · obtain ⟨g1, g2⟩ := fr_ne c1
      rw [jw_E E (by omega)]
      by_cases c2 : (jw z p l (sg 15 (16 * t + f)) 1 1).1 = 0
      · have ok := jw_ok c2
        rw [if_neg (show ¬ (¬ fr z l (sg 15 (16 * t + f)) = 0 ∧ ¬ (jw z p l (sg 15 (16 * t + f)) 1 1).1 = 0) from fun w => w.2 c2), if_neg (show ¬ (¬ fr z l (sg 15 (16 * t + f)) = 0 ∧ ¬ (jw z p l (sg 15 (16 * t + f)) 1 1).1 = 0) from fun w => w.2 c2), if_neg c1, if_neg c1, E (p + fr z l (sg 15 (16 * t + f))) (by omega)]
        by_cases c3 : sg 17 (sg 13 (16 * t + f)) < z (p + fr z l (sg 15 (16 * t + f)))
        · rw [if_pos c3, if_pos c3]
        · rw [if_neg c3, if_neg c3]
          by_cases c5 : z (p + fr z l (sg 15 (16 * t + f))) = 0
          · rw [if_pos c5, if_pos c5]
          · rw [if_neg c5, if_neg c5]
            by_cases c6 : fr z l (sg 15 (16 * t + f) + 1) = 0
            · rw [if_pos c6, if_pos c6]
            · obtain ⟨k1, k2⟩ := fr_ne c6
              rw [if_neg c6, if_neg c6, jw_E E (by omega)]
              by_cases c7 : (jw z p l (sg 15 (16 * t + f) + 1) 4 4).1 = 0
              · have ok2 := jw_ok c7
                rw [if_pos c7, if_pos c7]
                exact K _ _ _ _ (by omega) (wu.2.2 _ (by omega))
              · rw [if_neg c7, if_neg c7]
      · rw [if_pos (show ¬ fr z l (sg 15 (16 * t + f)) = 0 ∧ ¬ (jw z p l (sg 15 (16 * t + f)) 1 1).1 = 0 from ⟨c1, c2⟩), if_pos (show ¬ fr z l (sg 15 (16 * t + f)) = 0 ∧ ¬ (jw z p l (sg 15 (16 * t + f)) 1 1).1 = 0 from ⟨c1, c2⟩)]
  · rw [if_neg c4, if_neg c4, fE]
    by_cases c1 : fr z l (sg 15 (16 * t + f)) = 0
    · rw [if_pos c1, if_pos c1]
    · obtain ⟨g1, g2⟩ := fr_ne c1
      rw [if_neg c1, if_neg c1, jw_E E (by omega)]
      by_cases c2 : (jw z p l (sg 15 (16 * t + f)) (zO sg (sg 12 (16 * t + f)) (sg 13 (16 * t + f))) (aO sg (sg 12 (16 * t + f)) (sg 13 (16 * t + f)))).1 = 0
      · have ok := jw_ok c2
        rw [if_pos c2, if_pos c2]
        rcases W.fk ht hf with k | k | k
        · exact absurd k.1 c4
        · rw [if_neg k.2.1, if_neg k.2.1]
          exact jc_E E W K k.2.2 (by omega)
        · have z4 : zO sg (sg 12 (16 * t + f)) (sg 13 (16 * t + f)) = 4 := by rw [k.1]; rfl
          rw [if_pos k.1, if_pos k.1]
          exact jv_E E W K k.2.2 (by omega)
      · rw [if_neg c2, if_neg c2]
theorem jF_E (E : ∀ k, k < n → y k = z k) (W : WF sg sd) (K : KE KT KZ n sg) {p l t : Nat} (ht : t < sg 0 1) (hp : p + 4 ≤ n) (hl : l + 4 ≤ n) (hv : l + nb z 2 l ≤ n) (ha : p + nb z 2 (l + 2) ≤ n) : ∀ r f c, f + r = sg 10 t → jF KT sg y n p l d r (16 * t + f) c = jF KZ sg z n p l d r (16 * t + f) c
  | 0, _, _, _ => rfl
  | r + 1, f, c, h => by
    unfold jF
    rw [jf_E E W K ht (by omega) hp hl hv ha, Nat.add_assoc, jF_E E W K ht hp hl hv ha r (f + 1) _ (by omega)]
theorem jT_E (E : ∀ k, k < n → y k = z k) (W : WF sg sd) : ∀ m, KE (jT sg y n m) (jT sg z n m) n sg
  | 0 => fun _ _ _ _ _ _ => rfl
  | m + 1 => fun q t d c hq ht => by
    show jG (jT sg y n m) sg y n q t d c = jG (jT sg z n m) sg z n q t d c
    unfold jG
    rw [jr_E E hq, nb_E E hq]
    by_cases c1 : (jr z n q).1 = 0
    · have ok := jr_ok c1
      rw [if_pos c1, if_pos c1, jl_E E (show q + nb z 4 q + 4 ≤ n by omega), la_E E (show q + nb z 4 q + 4 ≤ n by omega)]
      by_cases c4 : (jl z n (q + nb z 4 q)).1 = 0
      · have ok2 := jl_ok c4
        have F := jF_E E W (jT_E E W m) (d := d) (p := q + nb z 4 q) (l := la z (q + nb z 4 q)) ht (by omega) (by omega) (by omega) (by omega) (sg 10 t) 0 (c + 1) (by omega)
        rw [Nat.add_zero] at F
        rw [F]
      · rw [if_neg c4, if_neg c4]
    · rw [if_neg c1, if_neg c1]
theorem jA_E (E : ∀ k, k < n → y k = z k) (W : WF sg sd) : jA sg y n = jA sg z n := by
  unfold jA
  by_cases c : n < 4
  · rw [if_pos c, if_pos c]
  · rw [if_neg c, if_neg c, jT_E E W 40 0 (sg 0 3) 1 0 (by omega) W.1.2.2.2]
end Cong
