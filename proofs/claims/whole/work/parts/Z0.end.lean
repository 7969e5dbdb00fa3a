/-! The start keeps the relation; what is owed; the claim -/
section En
variable {h : XH}
theorem SU.rx (A : SU h) : RX h := by
  obtain ⟨z, w, L, F, M⟩ := A
  obtain ⟨T, y1, y2, y3, y4, y5, y6, y7, y8, y9, y10⟩ := F
  obtain ⟨q1, q2, k0, r0, r1, r2, r3, r4, r5, r6, r7, -⟩ := T
  have m0 : ∀ j, j ≠ 67 → hi h 1262 j = 0 := fun j hj' => by rw [M j, if_neg hj']
  have m67 : hi h 1262 67 = -1 := by rw [M 67, if_pos rfl]
  have b0 : ∀ j, j ≠ 2 → j ≠ 10 → hi h 1244 j = 0 := fun j h2 h10 => by
    rw [y7 j]
    unfold upd
    by_cases c : j = 15
    · rw [if_pos c]
    · rw [if_neg c]
      by_cases c1 : j = 11
      · rw [if_pos c1]
      · rw [if_neg c1, if_neg h10]
        by_cases c2 : j = 9
        · rw [if_pos c2]
        · rw [if_neg c2]
          by_cases c3 : j = 7
          · rw [if_pos c3]
          · rw [if_neg c3, if_neg h2]
            by_cases c4 : j = 1
            · rw [if_pos c4]
            · rw [if_neg c4]
  have b2 : hi h 1244 2 = 4 := by rw [y7 2]; rfl
  have b10 : hi h 1244 10 = -1 := by rw [y7 10]; rfl
  obtain ⟨s1, ⟨g1, g2, g3, g4⟩, ⟨t1, t2, t3, t4⟩, ⟨u1, u2, u3, u4⟩, s4, s5⟩ := y4
  obtain ⟨s1', ⟨g1', g2', g3', g4'⟩, ⟨t1', t2', t3', t4'⟩, ⟨u1', u2', u3', u4'⟩, s4', s5'⟩ := y5
  have kc : KC h 12 := by
    refine ⟨Or.inl rfl, fun s hs => ?_⟩
    rcases hs with q | q <;> subst q
    · exact ⟨fun i hi' => g4 i hi', fun i hi' => t4 i hi', fun i hi' => u4 i hi'⟩
    · exact ⟨fun i hi' => g4' i hi', fun i hi' => t4' i hi', fun i hi' => u4' i hi'⟩
  refine ⟨12, fun _ _ => 0, fun _ => 0, L, ⟨r4, r5, Or.inl rfl⟩, ?_, ?_, ?_, ?_, Or.inl ⟨m0 7 (by decide), g3, t3, u3, s5, kc, m0 6 (by decide)⟩, ?_, ?_⟩
  · exact ⟨0, by omega, y1, m0 2 (by decide), fun k hk' => absurd hk' (Nat.not_lt_zero k)⟩
  · exact ⟨0, by omega, y3, m0 55 (by decide), fun k hk' => absurd hk' (Nat.not_lt_zero k)⟩
  · exact ⟨0, by omega, y2, m0 72 (by decide), fun k hk' => absurd hk' (Nat.not_lt_zero k)⟩
  · exact ⟨by rw [y10, m0 50 (by decide)], by rw [y10, m0 51 (by decide)], by rw [y10, m0 52 (by decide)], by rw [y10, m0 53 (by decide)], by rw [y10, m0 82 (by decide)]⟩
  · exact ⟨0, 0, ⟨by omega, b0 1 (by decide) (by decide), m0 57 (by decide), fun i hi' => absurd hi' (Nat.not_lt_zero i)⟩, ⟨4, 0, Or.inl rfl, b2, m0 58 (by decide), by omega, fun e => absurd (e.symm.trans (m0 7 (by decide))) (by decide)⟩, ⟨by omega, b0 7 (by decide) (by decide), m0 59 (by decide), fun i hi' => absurd hi' (Nat.not_lt_zero i)⟩, ⟨0, by omega, b0 9 (by decide) (by decide), m0 64 (by decide), fun i hi' => absurd hi' (Nat.not_lt_zero i)⟩, Or.inl ⟨b10, m67⟩⟩
  · exact Or.inl ⟨m0 81 (by decide), y9, y8, 0, by omega, m0 80 (by decide)⟩
theorem owed : Owed := by
  intro G hN h A
  have z := A.1
  have w := A.2.1
  by_cases c : 6 ≤ gN G
  · exact law_all hN c 512 0 100000 h (by omega) (by omega) A.rx (by omega) (by omega) (by omega)
  · refine ⟨h, ?_, by omega, by omega⟩
    show s_law_23 G (b_law_23 G 99999) _ _ = _
    unfold s_law_23
    refine o_pos ?_ rfl
    have d : gN G = 0 ∨ gN G = 1 ∨ gN G = 2 ∨ gN G = 3 ∨ gN G = 4 ∨ gN G = 5 := by omega
    rcases d with d | d | d | d | d | d <;> rw [d] <;> decide
end En
theorem i_vc : Claimed_1_1 ∧ Claimed_1_2 := i_vc_of owed
