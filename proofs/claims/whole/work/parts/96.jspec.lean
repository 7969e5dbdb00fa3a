/-! The judge, as a function of bytes and schema: what is wrong (0: nothing), where, how many tables were come to -/
abbrev J2 : Type := Nat × Nat
abbrev J3 : Type := Nat × Nat × Nat
def j3 (x : J2) (c : Nat) : J3 := (x.1, x.2, c)
def jr (y : Nat → Nat) (n q : Nat) : J2 := if nb y 4 q = 0 ∨ n < q + nb y 4 q + 4 then (2, q) else if (q + nb y 4 q) % 4 = 0 then (0, 0) else (3, q)
def la (y : Nat → Nat) (p : Nat) : Nat := if nb y 4 p < 2147483648 then p - nb y 4 p else p + 4294967296 - nb y 4 p
def jl (y : Nat → Nat) (n p : Nat) : J2 := if (nb y 4 p < 2147483648 ∧ p < nb y 4 p) ∨ ¬ la y p % 2 = 0 ∨ n < la y p + 4 then (6, p) else if nb y 2 (la y p) < 4 ∨ ¬ nb y 2 (la y p) % 2 = 0 ∨ n < la y p + nb y 2 (la y p) then (7, la y p) else if nb y 2 (la y p + 2) < 4 ∨ n < p + nb y 2 (la y p + 2) then (8, la y p + 2) else (0, 0)
def fr (y : Nat → Nat) (l s : Nat) : Nat := if nb y 2 l < 6 + 2 * s then 0 else nb y 2 (l + 4 + 2 * s)
def jw (y : Nat → Nat) (p l s z a : Nat) : J2 := if nb y 2 (l + 4 + 2 * s) < 4 ∨ nb y 2 (l + 2) < nb y 2 (l + 4 + 2 * s) + z then (10, l + 4 + 2 * s) else if (p + nb y 2 (l + 4 + 2 * s)) % a = 0 then (0, 0) else (3, l + 4 + 2 * s)
def jt (y : Nat → Nat) (n s : Nat) : J2 := if n < s + 4 + nb y 4 s + 1 then (13, s) else if y (s + 4 + nb y 4 s) = 0 then (0, 0) else (14, s + 4 + nb y 4 s)
def js (sg : SGT) (y : Nat → Nat) (q o : Nat) : Nat → Nat → J2
  | 0, _ => (0, 0)
  | r + 1, k => if sg 8 (128 * o + k) = 0 ∧ 1 < y (q + sg 9 (128 * o + k)) then (11, q + sg 9 (128 * o + k)) else js sg y q o r (k + 1)
def jc (KT : Nat → Nat → Nat → Nat → J3) (sg : SGT) (y : Nat → Nat) (n q so o d c : Nat) : J3 := if so = 0 then (if o = 0 ∧ 1 < y q then (11, q, c) else (0, 0, c)) else if so = 1 then (if (jr y n q).1 = 0 then j3 (jt y n (q + nb y 4 q)) c else j3 (jr y n q) c) else if so = 2 then j3 (js sg y q o (sg 7 o) 0) c else KT q o (d + 1) c
def jE (KT : Nat → Nat → Nat → Nat → J3) (sg : SGT) (y : Nat → Nat) (n a so o d : Nat) : Nat → Nat → Nat → J3
  | 0, _, c => (0, 0, c)
  | r + 1, k, c => if (jc KT sg y n (a + k * zO sg so o) so o d c).1 = 0 then jE KT sg y n a so o d r (k + 1) (jc KT sg y n (a + k * zO sg so o) so o d c).2.2 else jc KT sg y n (a + k * zO sg so o) so o d c
def jv (KT : Nat → Nat → Nat → Nat → J3) (sg : SGT) (y : Nat → Nat) (n q e o d c : Nat) : J3 := if (jr y n q).1 = 0 then (if (q + nb y 4 q + 4) % aO sg e o = 0 then (if n < q + nb y 4 q + 4 + nb y 4 (q + nb y 4 q) * zO sg e o then (13, q + nb y 4 q, c) else jE KT sg y n (q + nb y 4 q + 4) e o d (nb y 4 (q + nb y 4 q)) 0 c) else (3, q + nb y 4 q, c)) else j3 (jr y n q) c
/-- which member a union's slot tells -/
def jwh (y : Nat → Nat) (p l s : Nat) : Nat := if fr y l s = 0 then 0 else y (p + fr y l s)
def ju (KT : Nat → Nat → Nat → Nat → J3) (sg : SGT) (y : Nat → Nat) (p l u s need d c : Nat) : J3 :=
  if ¬ fr y l s = 0 ∧ ¬ (jw y p l s 1 1).1 = 0 then j3 (jw y p l s 1 1) c
  else if sg 17 u < jwh y p l s then (12, p + fr y l s, c)
  else if jwh y p l s = 0 then (if ¬ fr y l (s + 1) = 0 then (12, l + 4 + 2 * (s + 1), c) else if need = 1 then (9, p, c) else (0, 0, c))
  else if fr y l (s + 1) = 0 then (9, p, c)
  else if (jw y p l (s + 1) 4 4).1 = 0 then KT (p + fr y l (s + 1)) (sg 18 (8 * u + (jwh y p l s - 1))) (d + 1) c
  else j3 (jw y p l (s + 1) 4 4) c
def jf (KT : Nat → Nat → Nat → Nat → J3) (sg : SGT) (y : Nat → Nat) (n p l i d c : Nat) : J3 :=
  if sg 12 i = 4 then ju KT sg y p l (sg 13 i) (sg 15 i) (sg 16 i) d c
  else if fr y l (sg 15 i) = 0 then (if sg 16 i = 1 then (9, p, c) else (0, 0, c))
  else if (jw y p l (sg 15 i) (zO sg (sg 12 i) (sg 13 i)) (aO sg (sg 12 i) (sg 13 i))).1 = 0 then (if sg 12 i = 5 then jv KT sg y n (p + fr y l (sg 15 i)) (sg 14 i - 1) (sg 13 i) d c else jc KT sg y n (p + fr y l (sg 15 i)) (sg 12 i) (sg 13 i) d c)
  else j3 (jw y p l (sg 15 i) (zO sg (sg 12 i) (sg 13 i)) (aO sg (sg 12 i) (sg 13 i))) c
def jF (KT : Nat → Nat → Nat → Nat → J3) (sg : SGT) (y : Nat → Nat) (n p l d : Nat) : Nat → Nat → Nat → J3
  | 0, _, c => (0, 0, c)
  | r + 1, i, c => if (jf KT sg y n p l i d c).1 = 0 then jF KT sg y n p l d r (i + 1) (jf KT sg y n p l i d c).2.2 else jf KT sg y n p l i d c
def jG (KT : Nat → Nat → Nat → Nat → J3) (sg : SGT) (y : Nat → Nat) (n q t d c : Nat) : J3 := if (jr y n q).1 = 0 then (if 16 < d then (4, q, c) else if 200 ≤ c then (5, q, c) else if (jl y n (q + nb y 4 q)).1 = 0 then jF KT sg y n (q + nb y 4 q) (la y (q + nb y 4 q)) d (sg 10 t) (16 * t) (c + 1) else j3 (jl y n (q + nb y 4 q)) (c + 1)) else j3 (jr y n q) c
def jT (sg : SGT) (y : Nat → Nat) (n : Nat) : Nat → Nat → Nat → Nat → Nat → J3
  | 0, _, _, _, c => (0, 0, c)
  | m + 1, q, t, d, c => jG (jT sg y n m) sg y n q t d c
def jA (sg : SGT) (y : Nat → Nat) (n : Nat) : J3 := if n < 4 then (1, 0, 0) else jT sg y n 40 0 (sg 0 3) 1 0
section JFacts
variable {y : Nat → Nat} {n q p l s z a : Nat}
theorem jr_ok (h : (jr y n q).1 = 0) : 0 < nb y 4 q ∧ q + nb y 4 q + 4 ≤ n ∧ (q + nb y 4 q) % 4 = 0 := by
  unfold jr at h
  split at h
  · cases h
  · split at h
    · omega
    · cases h
theorem jl_ok (h : (jl y n p).1 = 0) : la y p + 4 ≤ n ∧ la y p % 2 = 0 ∧ 4 ≤ nb y 2 (la y p) ∧ la y p + nb y 2 (la y p) ≤ n ∧ 4 ≤ nb y 2 (la y p + 2) ∧ p + nb y 2 (la y p + 2) ≤ n := by
  unfold jl at h
  split at h
  · cases h
  · split at h
    · cases h
    · split at h
      · cases h
      · omega
theorem jw_ok (h : (jw y p l s z a).1 = 0) : 4 ≤ nb y 2 (l + 4 + 2 * s) ∧ nb y 2 (l + 4 + 2 * s) + z ≤ nb y 2 (l + 2) ∧ (p + nb y 2 (l + 4 + 2 * s)) % a = 0 := by
  unfold jw at h
  split at h
  · cases h
  · split at h
    · omega
    · cases h
theorem fr_ne (h : ¬ fr y l s = 0) : 6 + 2 * s ≤ nb y 2 l ∧ fr y l s = nb y 2 (l + 4 + 2 * s) := by
  unfold fr at h ⊢
  split at h
  · exact absurd rfl h
  · rename_i q
    rw [if_neg q]
    exact ⟨by omega, rfl⟩
end JFacts
