/-! Cells from lo up to hi' stay: definitions, groups, schemas stay -/
def KR (h h2 : XH) (lo up : Nat) : Prop := ∀ b, lo ≤ b → b < up → hk h2 b = hk h b ∧ hn h2 b = hn h b ∧ (∀ j, hi h2 b j = hi h b j) ∧ (∀ j, hj h2 b j = hj h b j) ∧ ∀ j, hr h2 b j = hr h b j
theorem KP.kr {h h2 : XH} {n lo up : Nat} (K : KP h h2 n) (hle : up ≤ n) : KR h h2 lo up := fun b _ hb => K b (by omega)
theorem KR.rf {h : XH} {lo up : Nat} : KR h h lo up := fun _ _ _ => ⟨rfl, rfl, fun _ => rfl, fun _ => rfl, fun _ => rfl⟩
theorem KR.tr {h h2 h3 : XH} {lo up : Nat} (a : KR h h2 lo up) (b : KR h2 h3 lo up) : KR h h3 lo up := fun z h1 h2' => by
  obtain ⟨a1, a2, a3, a4, a5⟩ := a z h1 h2'
  obtain ⟨b1, b2, b3, b4, b5⟩ := b z h1 h2'
  exact ⟨b1.trans a1, b2.trans a2, fun j => (b3 j).trans (a3 j), fun j => (b4 j).trans (a4 j), fun j => (b5 j).trans (a5 j)⟩
theorem KR.sub {h h2 : XH} {lo up lo2 up2 : Nat} (a : KR h h2 lo up) (h1 : lo ≤ lo2) (h2' : up2 ≤ up) : KR h h2 lo2 up2 := fun z q1 q2 => a z (by omega) (by omega)
theorem KR.si {h : XH} {lo up a k : Nat} {v : Int32} (ha : a < lo ∨ up ≤ a) : KR h (hsi h a k v) lo up := fun z h1 h2' => ho_si z (by omega)
theorem KR.sj {h : XH} {lo up a k : Nat} {v : Int64} (ha : a < lo ∨ up ≤ a) : KR h (hsj h a k v) lo up := fun z h1 h2' => ho_sj z (by omega)
theorem KR.sr {h : XH} {lo up a k : Nat} {v : Option Nat} (ha : a < lo ∨ up ≤ a) : KR h (hsr h a k v) lo up := fun z h1 h2' => ho_sr z (by omega)
theorem KR.new {h : XH} {lo up kind n : Nat} (ha : up ≤ hz h) : KR h (hnew h kind n) lo up := fun z h1 h2' => ho_new z (by omega)
theorem DF.keepR {h h2 : XH} {a F LN : Nat} (D : DF h a F LN) (K : KR h h2 a (a + 4 + F)) (hle : a + 4 + F ≤ hz h2) (hm : hz h2 ≤ 1000000) : DF h2 a F LN := by
  obtain ⟨d1, d2, d3, d4, d5, d6, d7, d8, d9, d10, d11, d12, d13, d14, d15⟩ := D
  have e0 := K a (by omega) (by omega)
  have e1 := K (a + 1) (by omega) (by omega)
  have e2 := K (a + 2 + F) (by omega) (by omega)
  have e3 := K (a + 3 + F) (by omega) (by omega)
  refine ⟨hle, hm, d3, d4, by rw [e0.1]; exact d5, by rw [e0.2.2.2.2]; exact d6, by rw [e1.1]; exact d7, by rw [e1.2.1]; exact d8, fun i hi' => ?_, by rw [e0.2.2.2.2]; exact d10, by rw [e2.1]; exact d11, by rw [e2.2.1]; exact d12, by rw [e0.2.2.2.2]; exact d13, by rw [e3.1]; exact d14, by rw [e3.2.1]; exact d15⟩
  have e4 := K (a + 2 + i) (by omega) (by omega)
  exact ⟨by rw [e1.2.2.2.2]; exact (d9 i hi').1, by rw [e4.1]; exact (d9 i hi').2⟩
theorem GR.keepR {h h2 : XH} {g M F LN : Nat} (D : GR h g M F LN) (K : KR h h2 g (g + 2 + M * (F + 4))) (hle : g + 2 + M * (F + 4) ≤ hz h2) (hm : hz h2 ≤ 1000000) : GR h2 g M F LN := by
  obtain ⟨d1, d2, d3, d4, d5, d6, d7, d8⟩ := D
  have e0 := K g (by omega) (by omega)
  have e1 := K (g + 1) (by omega) (by omega)
  refine ⟨hle, hm, d3, by rw [e0.1]; exact d4, by rw [e0.2.2.2.2]; exact d5, by rw [e1.1]; exact d6, by rw [e1.2.1]; exact d7, fun i hi' => ?_⟩
  have hin := mul_in (S := F + 4) hi'
  exact ⟨by rw [e1.2.2.2.2]; exact (d8 i hi').1, (d8 i hi').2.keepR (K.sub (by omega) (by omega)) (by omega) hm⟩
