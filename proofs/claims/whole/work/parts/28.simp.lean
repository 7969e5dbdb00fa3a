/-! Rows of cells; reading behind writing -/
def hri (h : XH) (a : Nat) (f : Nat → Int32) : XH := (h.1, h.2.1, h.2.2.1, h.2.2.2.1, x1 h.2.2.2.2.1 a f, h.2.2.2.2.2.1, h.2.2.2.2.2.2)
def hrj (h : XH) (a : Nat) (f : Nat → Int64) : XH := (h.1, h.2.1, h.2.2.1, h.2.2.2.1, h.2.2.2.2.1, x1 h.2.2.2.2.2.1 a f, h.2.2.2.2.2.2)
def hrr (h : XH) (a : Nat) (f : Nat → Option Nat) : XH := (h.1, h.2.1, h.2.2.1, h.2.2.2.1, h.2.2.2.2.1, h.2.2.2.2.2.1, x1 h.2.2.2.2.2.2 a f)
theorem x2_x1 {α : Type} (f : Nat → Nat → α) (a k : Nat) (v : α) : x2 f a k v = x1 f a (fun j => if j = k then v else f a j) := by
  funext b j
  unfold x2 x1
  by_cases e : b = a
  · subst e; simp
  · simp [e]
theorem x1_x1 {α : Type} (f : Nat → α) (a : Nat) (v w : α) : x1 (x1 f a v) a w = x1 f a w := by
  funext b
  unfold x1
  by_cases e : b = a
  · rw [if_pos e, if_pos e]
  · rw [if_neg e, if_neg e, if_neg e]
theorem x1_self {α : Type} (f : Nat → α) (a : Nat) : x1 f a (f a) = f := by
  funext b
  unfold x1
  by_cases e : b = a
  · rw [if_pos e, e]
  · rw [if_neg e]
theorem hsi_row (h : XH) (a k : Nat) (v : Int32) : hsi h a k v = hri h a (upd (hi h a) k v) := by unfold hsi hri; rw [x2_x1]; rfl
theorem hsj_row (h : XH) (a k : Nat) (v : Int64) : hsj h a k v = hrj h a (vp_updL (hj h a) k v) := by unfold hsj hrj; rw [x2_x1]; rfl
theorem hsr_row (h : XH) (a k : Nat) (v : Option Nat) : hsr h a k v = hrr h a (va_up (hr h a) k v) := by unfold hsr hrr; rw [x2_x1]; rfl
section XSimp
variable {h : XH} {a b k j : Nat}
theorem hz_hsi {v : Int32} : hz (hsi h a k v) = hz h := rfl
theorem hw_hsi {v : Int32} : hw (hsi h a k v) = hw h := rfl
theorem hk_hsi {v : Int32} : hk (hsi h a k v) b = hk h b := rfl
theorem hn_hsi {v : Int32} : hn (hsi h a k v) b = hn h b := rfl
theorem hj_hsi {v : Int32} : hj (hsi h a k v) b = hj h b := rfl
theorem hr_hsi {v : Int32} : hr (hsi h a k v) b = hr h b := rfl
theorem hz_hsj {v : Int64} : hz (hsj h a k v) = hz h := rfl
theorem hw_hsj {v : Int64} : hw (hsj h a k v) = hw h := rfl
theorem hk_hsj {v : Int64} : hk (hsj h a k v) b = hk h b := rfl
theorem hn_hsj {v : Int64} : hn (hsj h a k v) b = hn h b := rfl
theorem hi_hsj {v : Int64} : hi (hsj h a k v) b = hi h b := rfl
theorem hr_hsj {v : Int64} : hr (hsj h a k v) b = hr h b := rfl
theorem hz_hsr {v : Option Nat} : hz (hsr h a k v) = hz h := rfl
theorem hw_hsr {v : Option Nat} : hw (hsr h a k v) = hw h := rfl
theorem hk_hsr {v : Option Nat} : hk (hsr h a k v) b = hk h b := rfl
theorem hn_hsr {v : Option Nat} : hn (hsr h a k v) b = hn h b := rfl
theorem hi_hsr {v : Option Nat} : hi (hsr h a k v) b = hi h b := rfl
theorem hj_hsr {v : Option Nat} : hj (hsr h a k v) b = hj h b := rfl
theorem hz_hri {f : Nat → Int32} : hz (hri h a f) = hz h := rfl
theorem hw_hri {f : Nat → Int32} : hw (hri h a f) = hw h := rfl
theorem hk_hri {f : Nat → Int32} : hk (hri h a f) b = hk h b := rfl
theorem hn_hri {f : Nat → Int32} : hn (hri h a f) b = hn h b := rfl
theorem hj_hri {f : Nat → Int32} : hj (hri h a f) b = hj h b := rfl
theorem hr_hri {f : Nat → Int32} : hr (hri h a f) b = hr h b := rfl
theorem hz_hrj {f : Nat → Int64} : hz (hrj h a f) = hz h := rfl
theorem hw_hrj {f : Nat → Int64} : hw (hrj h a f) = hw h := rfl
theorem hk_hrj {f : Nat → Int64} : hk (hrj h a f) b = hk h b := rfl
theorem hn_hrj {f : Nat → Int64} : hn (hrj h a f) b = hn h b := rfl
theorem hi_hrj {f : Nat → Int64} : hi (hrj h a f) b = hi h b := rfl
theorem hr_hrj {f : Nat → Int64} : hr (hrj h a f) b = hr h b := rfl
theorem hz_hrr {f : Nat → Option Nat} : hz (hrr h a f) = hz h := rfl
theorem hw_hrr {f : Nat → Option Nat} : hw (hrr h a f) = hw h := rfl
theorem hk_hrr {f : Nat → Option Nat} : hk (hrr h a f) b = hk h b := rfl
theorem hn_hrr {f : Nat → Option Nat} : hn (hrr h a f) b = hn h b := rfl
theorem hi_hrr {f : Nat → Option Nat} : hi (hrr h a f) b = hi h b := rfl
theorem hj_hrr {f : Nat → Option Nat} : hj (hrr h a f) b = hj h b := rfl
theorem hi_hsi {v : Int32} : hi (hsi h a k v) b j = if b = a ∧ j = k then v else hi h b j := rfl
theorem hi_hsi_ne {v : Int32} (e : b ≠ a) : hi (hsi h a k v) b = hi h b := funext fun j => by rw [hi_hsi, if_neg (fun z => e z.1)]
theorem hj_hsj {v : Int64} : hj (hsj h a k v) b j = if b = a ∧ j = k then v else hj h b j := rfl
theorem hj_hsj_ne {v : Int64} (e : b ≠ a) : hj (hsj h a k v) b = hj h b := funext fun j => by rw [hj_hsj, if_neg (fun z => e z.1)]
theorem hr_hsr {v : Option Nat} : hr (hsr h a k v) b j = if b = a ∧ j = k then v else hr h b j := rfl
theorem hr_hsr_ne {v : Option Nat} (e : b ≠ a) : hr (hsr h a k v) b = hr h b := funext fun j => by rw [hr_hsr, if_neg (fun z => e z.1)]
theorem hi_hri {f : Nat → Int32} : hi (hri h a f) b = if b = a then f else hi h b := rfl
theorem hi_hri_eq {f : Nat → Int32} : hi (hri h a f) a = f := if_pos rfl
theorem hi_hri_ne {f : Nat → Int32} (e : b ≠ a) : hi (hri h a f) b = hi h b := if_neg e
theorem hj_hrj {f : Nat → Int64} : hj (hrj h a f) b = if b = a then f else hj h b := rfl
theorem hj_hrj_eq {f : Nat → Int64} : hj (hrj h a f) a = f := if_pos rfl
theorem hj_hrj_ne {f : Nat → Int64} (e : b ≠ a) : hj (hrj h a f) b = hj h b := if_neg e
theorem hr_hrr {f : Nat → Option Nat} : hr (hrr h a f) b = if b = a then f else hr h b := rfl
theorem hr_hrr_eq {f : Nat → Option Nat} : hr (hrr h a f) a = f := if_pos rfl
theorem hr_hrr_ne {f : Nat → Option Nat} (e : b ≠ a) : hr (hrr h a f) b = hr h b := if_neg e
theorem hri_hri {f g : Nat → Int32} : hri (hri h a f) a g = hri h a g := by unfold hri; simp only [x1_x1]
theorem hrj_hrj {f g : Nat → Int64} : hrj (hrj h a f) a g = hrj h a g := by unfold hrj; simp only [x1_x1]
theorem hrr_hrr {f g : Nat → Option Nat} : hrr (hrr h a f) a g = hrr h a g := by unfold hrr; simp only [x1_x1]
theorem hri_self : hri h a (hi h a) = h := by unfold hri hi; simp only [x1_self]
theorem hrj_self : hrj h a (hj h a) = h := by unfold hrj hj; simp only [x1_self]
theorem hrr_self : hrr h a (hr h a) = h := by unfold hrr hr; simp only [x1_self]
end XSimp
section XRows
variable {l : Launch} {G : XG} {q : xEnt} {d pc : Nat} {L : List (Option Value)} {st : List Value} {h : XH}
theorem t_iast {a : Nat} {i : Int32} {x : Int32} (hc : xI q pc = some (.iastore, 1)) (ha : a < hz h) (hk0 : hk h a = 100) (hin : vp_in i (hn h a)) : XS l G q d (pc, L, .int x :: .int i :: .ref a :: st, h) (pc + 1, L, st, hri h a (upd (hi h a) i.toNatClampNeg x)) := by
  rw [← hsi_row]; exact s_iast hc ha hk0 hin
theorem t_bast {a : Nat} {i : Int32} {x : Int32} (hc : xI q pc = some (.bastore, 1)) (ha : a < hz h) (hk0 : hk h a = 102) (hin : vp_in i (hn h a)) : XS l G q d (pc, L, .int x :: .int i :: .ref a :: st, h) (pc + 1, L, st, hri h a (upd (hi h a) i.toNatClampNeg (vp_nar .byte x))) := by
  rw [← hsi_row]; exact s_bast hc ha hk0 hin
theorem t_zast {a : Nat} {i : Int32} {x : Int32} (hc : xI q pc = some (.bastore, 1)) (ha : a < hz h) (hk0 : hk h a = 103) (hin : vp_in i (hn h a)) : XS l G q d (pc, L, .int x :: .int i :: .ref a :: st, h) (pc + 1, L, st, hri h a (upd (hi h a) i.toNatClampNeg (vp_nar .boolean x))) := by
  rw [← hsi_row]; exact s_zast hc ha hk0 hin
theorem t_last {a : Nat} {i : Int32} {x : Int64} (hc : xI q pc = some (.lastore, 1)) (ha : a < hz h) (hk0 : hk h a = 101) (hin : vp_in i (hn h a)) : XS l G q d (pc, L, .long x :: .int i :: .ref a :: st, h) (pc + 1, L, st, hrj h a (vp_updL (hj h a) i.toNatClampNeg x)) := by
  rw [← hsj_row]; exact s_last hc ha hk0 hin
theorem t_aast104 {a b : Nat} {i : Int32} (hc : xI q pc = some (.aastore, 1)) (ha : a < hz h) (hk0 : hk h a = 104) (hin : vp_in i (hn h a)) (hb0 : b < hz h) (hkb : hk h b = 3) : XS l G q d (pc, L, .ref b :: .int i :: .ref a :: st, h) (pc + 1, L, st, hrr h a (va_up (hr h a) i.toNatClampNeg (some b))) := by
  rw [← hsr_row]; exact s_aast104 hc ha hk0 hin hb0 hkb
theorem t_aast105 {a b : Nat} {i : Int32} (hc : xI q pc = some (.aastore, 1)) (ha : a < hz h) (hk0 : hk h a = 105) (hin : vp_in i (hn h a)) (hb0 : b < hz h) (hkb : hk h b = 2) : XS l G q d (pc, L, .ref b :: .int i :: .ref a :: st, h) (pc + 1, L, st, hrr h a (va_up (hr h a) i.toNatClampNeg (some b))) := by
  rw [← hsr_row]; exact s_aast105 hc ha hk0 hin hb0 hkb
theorem s_inc {i : Nat} {x : Int32} (hc : xI q pc = some (.iinc i 1, 3)) (hx : L[i]? = some (some (.int x))) (hb : i < q.2.2.2.1) : XS l G q d (pc, L, st, h) (pc + 3, xset1 L i (.int (x + 1)), st, h) := s_iinc hc hx rfl hb
theorem s_dec {i : Nat} {x : Int32} (hc : xI q pc = some (.iinc i (-1), 3)) (hx : L[i]? = some (some (.int x))) (hb : i < q.2.2.2.1) : XS l G q d (pc, L, st, h) (pc + 3, xset1 L i (.int (x + (-1))), st, h) := s_iinc hc hx rfl hb
variable {q2 : xEnt} {d2 n idx b : Nat} {stk as : List Value} {P : XCfg → Prop} {Q : Option Value → XH → Prop}
theorem r_callv (hc : xI q pc = some (.invokevirtual idx, 3)) (hv : xVirt q2 n) (hl0 : xLm (xCls q.1) idx q2) (hX : XC l G q2 d2 (.ref b :: as) h Q) (hb0 : b < hz h) (hkb : hk h b = q2.1) (h13 : q2.1 < 13) (hstk : stk = as.reverse ++ .ref b :: st) (hn : as.length = n) (hd : d2 + 1 ≤ d) (hmx : q2.2.2.2.1 ≤ 21) (hcat : (st.map fun v => v.category).sum ≤ 8)
    (k : ∀ (v : Option Value) (h2 : XH), Q v h2 → XR l G q d (pc + 3, L, v.toList ++ st, h2) P) : XR l G q d (pc, L, stk, h) P := by
  obtain ⟨v, h2, hQ, hM⟩ := hX
  exact (s_callv hc hv hl0 hM hb0 hkb h13 hstk hn hd hmx hcat).go (k v h2 hQ)
theorem r_calls (hc : xI q pc = some (.invokestatic idx, 3)) (hv : xStat q2 n) (hl0 : xLm (xCls q.1) idx q2) (hX : XC l G q2 d2 as h Q) (hstk : stk = as.reverse ++ st) (hn : as.length = n) (hd : d2 + 1 ≤ d) (hmx : q2.2.2.2.1 ≤ 21) (hcat : (st.map fun v => v.category).sum ≤ 8)
    (k : ∀ (v : Option Value) (h2 : XH), Q v h2 → XR l G q d (pc + 3, L, v.toList ++ st, h2) P) : XR l G q d (pc, L, stk, h) P := by
  obtain ⟨v, h2, hQ, hM⟩ := hX
  exact (s_calls hc hv hl0 hM hstk hn hd hmx hcat).go (k v h2 hQ)
theorem r_callsn {host : String} (hc : xI q pc = some (.invokestatic idx, 3)) (hv : xStat q2 n) (hl0 : (xCls q.1, idx, q2.2.1, host) ∈ xNest) (hX : XC l G q2 d2 as h Q) (hstk : stk = as.reverse ++ st) (hn : as.length = n) (hd : d2 + 1 ≤ d) (hmx : q2.2.2.2.1 ≤ 21) (hcat : (st.map fun v => v.category).sum ≤ 8)
    (k : ∀ (v : Option Value) (h2 : XH), Q v h2 → XR l G q d (pc + 3, L, v.toList ++ st, h2) P) : XR l G q d (pc, L, stk, h) P := by
  obtain ⟨v, h2, hQ, hM⟩ := hX
  exact (s_callsn hc hv hl0 hM hstk hn hd hmx hcat).go (k v h2 hQ)
theorem r_calli (hc : xI q pc = some (.invokespecial idx, 3)) (hv : xInit q2 n) (hret : q2.2.2.2.2.1 = none) (hl0 : xLm (xCls q.1) idx q2) (hX : XC l G q2 d2 (.ref b :: as) h Q) (hstk : stk = as.reverse ++ .ref b :: st) (hn : as.length = n) (hd : d2 + 1 ≤ d) (hmx : q2.2.2.2.1 ≤ 21) (hcat : (st.map fun v => v.category).sum ≤ 8)
    (k : ∀ (v : Option Value) (h2 : XH), Q v h2 → XR l G q d (pc + 3, L, v.toList ++ st, h2) P) : XR l G q d (pc, L, stk, h) P := by
  obtain ⟨v, h2, hQ, hM⟩ := hX
  exact (s_calli hc hv hret hl0 hM hstk hn hd hmx hcat).go (k v h2 hQ)
theorem r_callin {host : String} (hc : xI q pc = some (.invokespecial idx, 3)) (hv : xInit q2 n) (hret : q2.2.2.2.2.1 = none) (hl0 : (xCls q.1, idx, q2.2.1, host) ∈ xNest) (hX : XC l G q2 d2 (.ref b :: as) h Q) (hstk : stk = as.reverse ++ .ref b :: st) (hn : as.length = n) (hd : d2 + 1 ≤ d) (hmx : q2.2.2.2.1 ≤ 21) (hcat : (st.map fun v => v.category).sum ≤ 8)
    (k : ∀ (v : Option Value) (h2 : XH), Q v h2 → XR l G q d (pc + 3, L, v.toList ++ st, h2) P) : XR l G q d (pc, L, stk, h) P := by
  obtain ⟨v, h2, hQ, hM⟩ := hX
  exact (s_callin hc hv hret hl0 hM hstk hn hd hmx hcat).go (k v h2 hQ)
end XRows
