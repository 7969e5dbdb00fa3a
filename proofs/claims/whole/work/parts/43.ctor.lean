/-! What stays of the parts when their cells stay -/
theorem VA.keepR {h h2 : XH} {b : Nat} (B : VA h b (b + 1)) (K : KR h h2 b (b + 2)) (hle : b + 2 ≤ hz h2) (hm : hz h2 ≤ 1000000) : VA h2 b (b + 1) := by
  obtain ⟨d1, d2, d3, d4, d5, d6, d7⟩ := B
  have e0 := K b (by omega) (by omega)
  have e1 := K (b + 1) (by omega) (by omega)
  exact ⟨by omega, e0.1.trans d2, (e0.2.2.2.2 0).trans d3, by omega, e1.1.trans d5, e1.2.1.trans d6, hm⟩
theorem AR.keepR {h h2 : XH} {a k b kind n lo up : Nat} (D : AR h a k b kind n) (K : KR h h2 lo up) (ha : lo ≤ a) (ha2 : a < up) (hb : lo ≤ b) (hb2 : b < up) : AR h2 a k b kind n :=
  ⟨((K a ha ha2).2.2.2.2 k).trans D.1, (K b hb hb2).1.trans D.2.1, (K b hb hb2).2.1.trans D.2.2⟩
theorem LX.keepR {h h2 : XH} {a : Nat} (B : LX h a) (K : KR h h2 a (a + 5)) (hle : a + 5 ≤ hz h2) (hm : hz h2 ≤ 1000000) : LX h2 a := by
  obtain ⟨d1, d2, d3, d4, d5, d6, d7⟩ := B
  have ar : ∀ k b kind, AR h a k b kind 4001 → a ≤ b → b < a + 5 → AR h2 a k b kind 4001 := fun k b kind q q1 q2 => q.keepR K (by omega) (by omega) q1 q2
  exact ⟨hle, hm, (K a (by omega) (by omega)).1.trans d3, ar _ _ _ d4 (by omega) (by omega), ar _ _ _ d5 (by omega) (by omega), ar _ _ _ d6 (by omega) (by omega), ar _ _ _ d7 (by omega) (by omega)⟩
theorem RD.keepR {h h2 : XH} {a : Nat} (B : RD h a) (K : KR h h2 a (a + 7)) (hle : a + 7 ≤ hz h2) (hm : hz h2 ≤ 1000000) : RD h2 a := by
  obtain ⟨d1, d2, d3, d4, d5, d6, d7, d8, d9⟩ := B
  have ar : ∀ k b kind, AR h a k b kind 64 → a ≤ b → b < a + 7 → AR h2 a k b kind 64 := fun k b kind q q1 q2 => q.keepR K (by omega) (by omega) q1 q2
  have e0 := K a (by omega) (by omega)
  exact ⟨hle, hm, e0.1.trans d3, (e0.2.2.2.2 0).trans d4, d5.keepR (K.sub (by omega) (by omega)) (by omega) hm, ar _ _ _ d6 (by omega) (by omega), ar _ _ _ d7 (by omega) (by omega), ar _ _ _ d8 (by omega) (by omega), ar _ _ _ d9 (by omega) (by omega)⟩
theorem BU.keepR {h h2 : XH} {a : Nat} (B : BU h a) (K : KR h h2 a (a + 11)) (hle : a + 11 ≤ hz h2) (hm : hz h2 ≤ 1000000) : BU h2 a := by
  obtain ⟨d1, d2, d3, d4, d5, d6⟩ := B
  have e0 := K a (by omega) (by omega)
  exact ⟨hle, hm, e0.1.trans d3, (e0.2.2.2.2 0).trans d4, d5.keepR (K.sub (by omega) (by omega)) (by omega) hm, fun i hi' => (d6 i hi').keepR K (by omega) (by omega) (by omega) (by omega)⟩
theorem SC.keepR {h h2 : XH} {s : Nat} (B : SC h s) (K : KR h h2 s (s + 616)) (hle : s + 616 ≤ hz h2) (hm : hz h2 ≤ 1000000) : SC h2 s := by
  obtain ⟨d1, d2, d3, d4, d5, d6, d7, d8, d9, d10, d11, d12⟩ := B
  have e0 := K s (by omega) (by omega)
  have e1 := K (s + 615) (by omega) (by omega)
  exact ⟨hle, hm, e0.1.trans d3, (e0.2.2.2.2 0).trans d4, (e0.2.2.2.2 1).trans d5, (e0.2.2.2.2 2).trans d6, (e0.2.2.2.2 3).trans d7, e1.1.trans d8, e1.2.1.trans d9, d10.keepR (K.sub (by omega) (by omega)) (by omega) hm, d11.keepR (K.sub (by omega) (by omega)) (by omega) hm, d12.keepR (K.sub (by omega) (by omega)) (by omega) hm⟩
theorem SG.keepS {h h2 : XH} {s k g M F LN : Nat} {so : Int32} (B : SG h s k g M F LN so) (K : KR h h2 s (s + 616)) (h1 : s ≤ g) (hg : g + 2 + M * (F + 4) ≤ s + 616) (hle : s + 616 ≤ hz h2) (hm : hz h2 ≤ 1000000) : SG h2 s k g M F LN so := by
  obtain ⟨d1, d2, d3, d4⟩ := B
  refine ⟨((K s (by omega) (by omega)).2.2.2.2 k).trans d1, d2.keepR (K.sub (by omega) (by omega)) (by omega) hm, ((K g (by omega) (by omega)).2.2.1 1).trans d3, fun i hi' => ?_⟩
  have hin := mul_in (S := F + 4) hi'
  have e := (K (g + 2 + i * (F + 4)) (by omega) (by omega)).2.2.1
  exact ⟨(e 0).trans (d4 i hi').1, (e 1).trans (d4 i hi').2⟩
/-- a new schema -/
def S0 (h : XH) (s : Nat) : Prop := SC h s ∧ SG h s 0 (s + 1) 12 12 128 2 ∧ SG h s 1 (s + 195) 16 16 0 3 ∧ SG h s 2 (s + 517) 8 8 0 4 ∧ hi h s 4 = 0 ∧ hi h s 5 = -1
theorem S0.keepR {h h2 : XH} {s : Nat} (B : S0 h s) (K : KR h h2 s (s + 616)) (hle : s + 616 ≤ hz h2) (hm : hz h2 ≤ 1000000) : S0 h2 s := by
  obtain ⟨d1, d2, d3, d4, d5, d6⟩ := B
  have e := (K s (by omega) (by omega)).2.2.1
  exact ⟨d1.keepR K hle hm, d2.keepS K (by omega) (by omega) hle hm, d3.keepS K (by omega) (by omega) hle hm, d4.keepS K (by omega) (by omega) hle hm, (e 4).trans d5, (e 5).trans d6⟩
/-! FlatTables' constructor: one part more -/
def FS (X Y : XH) (z z1 w f : Nat) : Prop := hz Y = z1 ∧ hw Y = hw X + w ∧ KR X Y 1 z ∧ hk Y 0 = hk X 0 ∧ hr Y 0 f = some z ∧ (∀ j, j ≠ f → hr Y 0 j = hr X 0 j) ∧ ∀ j, hi Y 0 j = hi X 0 j
theorem FS.of {X h2 : XH} {z z1 w W f kc nf : Nat} (e : hz X = z) (p : 0 < z) (K : KP (hnew X kc nf) h2 z) (e1 : hz h2 = z1) (ew : hw h2 = hw (hnew X kc nf) + W) (ew2 : w = nf + W) : FS X (hsr h2 0 f (some z)) z z1 w f := by
  have K0 : KP X h2 z := (KP.new (by omega)).tr K
  have k0 := K0 0 p
  refine ⟨e1, ?_, ?_, k0.1, hr_hsr_eq, fun j hj' => ?_, fun j => k0.2.2.1 j⟩
  · rw [hw_hsr, ew, hnew_w]; omega
  · exact (K0.kr (Nat.le_refl _)).tr (KR.sr (Or.inl (by omega)))
  · rw [hr_hsr_nk hj']; exact k0.2.2.2.2 j
theorem k_bInit2 {l : Launch} {G : XG} {h : XH} {b d : Nat} (hb : hz h = b + 1) (kb : hk h b = 1) (hm : hz h < 1000000) : XC l G xEX1_init (d + 1) [.ref b] h (fun v h2 => v = none ∧ hz h2 = b + 2 ∧ hw h2 = hw h + 4000 ∧ KP h h2 b ∧ BY h2 b (b + 1) ∧ hi h2 b 1 = 0) := by
  refine (k_bInit (by omega) kb hm).mono ?_
  rintro v h2 ⟨rfl, rfl⟩
  have m2 := hnew_at (h := h) (kind := 102) (n := 4000) (b := b) (by omega)
  refine ⟨rfl, ?_, rfl, (KP.new (by omega)).tr ((KP.sr (by omega)).tr (KP.si (by omega))), ⟨?_, ?_, ?_, ?_, ?_, ?_, ?_⟩, ?_⟩
  · show hz h + 1 = _; omega
  · show b < hz h + 1; omega
  · exact m2.1.trans kb
  · rw [hr_hsi, hr_hsr_eq, hb]
  · show b + 1 < hz h + 1; omega
  · rw [← hb]; exact hnew_k (h := h) (kind := 102) (n := 4000)
  · rw [← hb]; exact hnew_n (h := h) (kind := 102) (n := 4000)
  · show hz h + 1 ≤ _; omega
  · rw [hi_hsi, if_pos ⟨rfl, rfl⟩]
theorem k_vInit2 {l : Launch} {G : XG} {h : XH} {b d : Nat} (hb : hz h = b + 1) (kb : hk h b = 10) (hm : hz h < 1000000) : XC l G xEX10_init (d + 1) [.ref b] h (fun v h2 => v = none ∧ hz h2 = b + 2 ∧ hw h2 = hw h + 600 ∧ KP h h2 b ∧ VA h2 b (b + 1) ∧ hi h2 b 1 = 0) := by
  refine (k_vInit (by omega) kb hm).mono ?_
  rintro v h2 ⟨rfl, rfl⟩
  have m2 := hnew_at (h := h) (kind := 101) (n := 600) (b := b) (by omega)
  refine ⟨rfl, ?_, rfl, (KP.new (by omega)).tr ((KP.sr (by omega)).tr (KP.si (by omega))), ⟨?_, ?_, ?_, ?_, ?_, ?_, ?_⟩, ?_⟩
  · show hz h + 1 = _; omega
  · show b < hz h + 1; omega
  · exact m2.1.trans kb
  · rw [hr_hsi, hr_hsr_eq, hb]
  · show b + 1 < hz h + 1; omega
  · rw [← hb]; exact hnew_k (h := h) (kind := 101) (n := 600)
  · rw [← hb]; exact hnew_n (h := h) (kind := 101) (n := 600)
  · show hz h + 1 ≤ _; omega
  · rw [hi_hsi, if_pos ⟨rfl, rfl⟩]
def FT (h : XH) (s t : Nat) : Prop := 1262 ≤ hz h ∧ hz h ≤ 1000000 ∧ hk h 0 = 11 ∧ hr h 0 0 = some 1 ∧ hr h 0 1 = some 3 ∧ hr h 0 2 = some 5 ∧ hr h 0 3 = some 7 ∧ hr h 0 4 = some s ∧ hr h 0 5 = some t ∧ hr h 0 6 = some 1244 ∧ hr h 0 7 = some 1255 ∧ BY h 1 2 ∧ BY h 3 4 ∧ VA h 5 6 ∧ LX h 7 ∧ SC h 12 ∧ SC h 628 ∧ BU h 1244 ∧ RD h 1255 ∧ (s = 12 ∧ t = 628 ∨ s = 628 ∧ t = 12)
/-- a new FlatTables -/
def FN0 (h : XH) : Prop := FT h 12 628 ∧ hi h 1 1 = 0 ∧ hi h 3 1 = 0 ∧ hi h 5 1 = 0 ∧ S0 h 12 ∧ S0 h 628 ∧ hi h 1245 1 = 0 ∧ (∀ j, hi h 1244 j = (upd (upd (upd (upd (upd (upd (upd (fun _ => 0) 1 (0)) 2 (4)) 7 (0)) 9 (0)) 10 (-1)) 11 (0)) 15 (0)) j) ∧ hi h 1256 1 = 0 ∧ hi h 1255 5 = -1 ∧ ∀ j, hi h 0 j = 0
set_option maxRecDepth 20000 in
theorem k_tInit {l : Launch} {G : XG} {h : XH} {d : Nat} (hz0 : hz h = 1) (ka : hk h 0 = 11) (z0 : ∀ j, hi h 0 j = 0) : XC l G xEX11_init (d + 6) [.ref 0] h (fun v h2 => v = none ∧ hz h2 = 1262 ∧ hw h2 = hw h + 50942 ∧ FN0 h2) := by
  have ha1 : 0 < hz h := by omega
  refine XC.init xnX11_init (Nat.le_of_ble_eq_true rfl) ?_
  refine XS.go (s_aloadn rfl rfl rfl) ?_
  refine XS.go (s_objInit rfl (lg_1 32 rfl rfl) (lg_1 33 rfl rfl) (lg_1 34 rfl rfl) (by omega) (Nat.le_of_ble_eq_true rfl)) ?_
  have ez0 : hz h = 1 := hz0
  have ew0 : hw h = hw h + 0 := rfl
  have hl0 : 0 < hz h := by omega
  have hx0 : hz h < 1000000 := by omega
  refine XS.go (s_aloadn rfl rfl rfl) ?_
  refine XS.go (s_new (ci := 1) rfl (lg_1 35 rfl rfl) (by decide) rfl hx0) ?_
  refine XS.go (s_dup rfl rfl) ?_
  rw [ez0]
  refine r_callin rfl xnX1_init rfl (List.mem_of_getElem? (i := 0) rfl) (show XC l G xEX1_init (d + 1) [.ref 1] _ _ from (k_bInit2 (h := hnew h 1 2) (b := 1) (d := d) (show hz h + 1 = _ by omega) (ez0 ▸ hnew_k (h := h) (kind := 1) (n := 2)) (show hz h + 1 < 1000000 by omega))) rfl rfl (by omega) (by decide) (Nat.le_of_ble_eq_true rfl) ?_
  rintro _ qh0 ⟨rfl, r1, r2, r3, r4, r5⟩
  refine XS.go (s_putr rfl xf11_10 (show 0 < hz qh0 by omega) ((r3 0 (by decide)).1.trans ((hnew_at (h := h) (kind := 1) (n := 2) hl0).1.trans ka)) (by decide) rfl (Or.inr ⟨rfl, rfl⟩)) ?_
  have rp : BY qh0 1 2 ∧ hi qh0 1 1 = 0 := ⟨r4, r5⟩
  have rk : KR qh0 (hsr qh0 0 0 (some 1)) 1 3 := KR.sr (Or.inl (by decide))
  refine XR.gen (fun X => FS h X 1 3 4002 0 ∧ (BY X 1 2 ∧ hi X 1 1 = 0)) ⟨FS.of ez0 (by decide) r3 r1 r2 rfl, ⟨BY.keepR (b := 1) rp.1 rk (by rw [hz_hsr]; omega) (by rw [hz_hsr]; omega), ((rk 1 (by decide) (by decide)).2.2.1 1).trans rp.2⟩⟩ (fun qX1 hX1 => ?_)
  obtain ⟨⟨ez1, sw1, sK1, skk1, sr1, sq1, si1⟩, sp1⟩ := hX1
  have sk1 : hk qX1 0 = 11 := skk1.trans ka
  clear r1 r2 r3 r4 r5 rp rk hl0 hx0
  have hl1 : 0 < hz qX1 := by omega
  have hx1 : hz qX1 < 1000000 := by omega
  refine XS.go (s_aloadn rfl rfl rfl) ?_
  refine XS.go (s_new (ci := 1) rfl (lg_1 35 rfl rfl) (by decide) rfl hx1) ?_
  refine XS.go (s_dup rfl rfl) ?_
  rw [ez1]
  refine r_callin rfl xnX1_init rfl (List.mem_of_getElem? (i := 0) rfl) (show XC l G xEX1_init (d + 1) [.ref 3] _ _ from (k_bInit2 (h := hnew qX1 1 2) (b := 3) (d := d) (show hz qX1 + 1 = _ by omega) (ez1 ▸ hnew_k (h := qX1) (kind := 1) (n := 2)) (show hz qX1 + 1 < 1000000 by omega))) rfl rfl (by omega) (by decide) (Nat.le_of_ble_eq_true rfl) ?_
  rintro _ qh1 ⟨rfl, r1, r2, r3, r4, r5⟩
  refine XS.go (s_putr rfl xf11_16 (show 0 < hz qh1 by omega) ((r3 0 (by decide)).1.trans ((hnew_at (h := qX1) (kind := 1) (n := 2) hl1).1.trans sk1)) (by decide) rfl (Or.inr ⟨rfl, rfl⟩)) ?_
  have rp : BY qh1 3 4 ∧ hi qh1 3 1 = 0 := ⟨r4, r5⟩
  have rk : KR qh1 (hsr qh1 0 1 (some 3)) 3 5 := KR.sr (Or.inl (by decide))
  refine XR.gen (fun X => FS qX1 X 3 5 4002 1 ∧ (BY X 3 4 ∧ hi X 3 1 = 0)) ⟨FS.of ez1 (by decide) r3 r1 r2 rfl, ⟨BY.keepR (b := 3) rp.1 rk (by rw [hz_hsr]; omega) (by rw [hz_hsr]; omega), ((rk 3 (by decide) (by decide)).2.2.1 1).trans rp.2⟩⟩ (fun qX2 hX2 => ?_)
  obtain ⟨⟨ez2, sw2, sK2, skk2, sr2, sq2, si2⟩, sp2⟩ := hX2
  have sk2 : hk qX2 0 = 11 := skk2.trans sk1
  clear r1 r2 r3 r4 r5 rp rk hl1 hx1
  have hl2 : 0 < hz qX2 := by omega
  have hx2 : hz qX2 < 1000000 := by omega
  refine XS.go (s_aloadn rfl rfl rfl) ?_
  refine XS.go (s_new (ci := 10) rfl (lg_1 53 rfl rfl) (by decide) rfl hx2) ?_
  refine XS.go (s_dup rfl rfl) ?_
  rw [ez2]
  refine r_callin rfl xnX10_init rfl (List.mem_of_getElem? (i := 1) rfl) (show XC l G xEX10_init (d + 1) [.ref 5] _ _ from (k_vInit2 (h := hnew qX2 10 2) (b := 5) (d := d) (show hz qX2 + 1 = _ by omega) (ez2 ▸ hnew_k (h := qX2) (kind := 10) (n := 2)) (show hz qX2 + 1 < 1000000 by omega))) rfl rfl (by omega) (by decide) (Nat.le_of_ble_eq_true rfl) ?_
  rintro _ qh2 ⟨rfl, r1, r2, r3, r4, r5⟩
  refine XS.go (s_putr rfl xf11_22 (show 0 < hz qh2 by omega) ((r3 0 (by decide)).1.trans ((hnew_at (h := qX2) (kind := 10) (n := 2) hl2).1.trans sk2)) (by decide) rfl (Or.inr ⟨rfl, rfl⟩)) ?_
  have rp : VA qh2 5 6 ∧ hi qh2 5 1 = 0 := ⟨r4, r5⟩
  have rk : KR qh2 (hsr qh2 0 2 (some 5)) 5 7 := KR.sr (Or.inl (by decide))
  refine XR.gen (fun X => FS qX2 X 5 7 602 2 ∧ (VA X 5 6 ∧ hi X 5 1 = 0)) ⟨FS.of ez2 (by decide) r3 r1 r2 rfl, ⟨VA.keepR (b := 5) rp.1 rk (by rw [hz_hsr]; omega) (by rw [hz_hsr]; omega), ((rk 5 (by decide) (by decide)).2.2.1 1).trans rp.2⟩⟩ (fun qX3 hX3 => ?_)
  obtain ⟨⟨ez3, sw3, sK3, skk3, sr3, sq3, si3⟩, sp3⟩ := hX3
  have sk3 : hk qX3 0 = 11 := skk3.trans sk2
  clear r1 r2 r3 r4 r5 rp rk hl2 hx2
  have hl3 : 0 < hz qX3 := by omega
  have hx3 : hz qX3 < 1000000 := by omega
  refine XS.go (s_aloadn rfl rfl rfl) ?_
  refine XS.go (s_new (ci := 6) rfl (lg_1 68 rfl rfl) (by decide) rfl hx3) ?_
  refine XS.go (s_dup rfl rfl) ?_
  rw [ez3]
  refine r_callin rfl xnX6_init rfl (List.mem_of_getElem? (i := 2) rfl) (show XC l G xEX6_init (d + 1) [.ref 7] _ _ from (k_lInit (h := hnew qX3 6 6) (a := 7) (d := d) (show hz qX3 + 1 = _ by omega) (ez3 ▸ hnew_k (h := qX3) (kind := 6) (n := 6)) (by decide))) rfl rfl (by omega) (by decide) (Nat.le_of_ble_eq_true rfl) ?_
  rintro _ qh3 ⟨rfl, r1, r2, r3, r4, -⟩
  refine XS.go (s_putr rfl xf11_29 (show 0 < hz qh3 by omega) ((r3 0 (by decide)).1.trans ((hnew_at (h := qX3) (kind := 6) (n := 6) hl3).1.trans sk3)) (by decide) rfl (Or.inr ⟨rfl, rfl⟩)) ?_
  have rp : LX qh3 7 := r4
  have rk : KR qh3 (hsr qh3 0 3 (some 7)) 7 12 := KR.sr (Or.inl (by decide))
  refine XR.gen (fun X => FS qX3 X 7 12 16010 3 ∧ (LX X 7)) ⟨FS.of ez3 (by decide) r3 r1 r2 rfl, LX.keepR (a := 7) rp rk (by rw [hz_hsr]; omega) (by rw [hz_hsr]; omega)⟩ (fun qX4 hX4 => ?_)
  obtain ⟨⟨ez4, sw4, sK4, skk4, sr4, sq4, si4⟩, sp4⟩ := hX4
  have sk4 : hk qX4 0 = 11 := skk4.trans sk3
  clear r1 r2 r3 r4 rp rk hl3 hx3
  have hl4 : 0 < hz qX4 := by omega
  have hx4 : hz qX4 < 1000000 := by omega
  refine XS.go (s_aloadn rfl rfl rfl) ?_
  refine XS.go (s_new (ci := 9) rfl (lg_1 94 rfl rfl) (by decide) rfl hx4) ?_
  refine XS.go (s_dup rfl rfl) ?_
  rw [ez4]
  refine r_callin rfl xnX9_init rfl (List.mem_of_getElem? (i := 3) rfl) (show XC l G xEX9_init (d + 4) [.ref 12] _ _ from (k_sInit (h := hnew qX4 9 6) (s := 12) (d := d) (show hz qX4 + 1 = _ by omega) (ez4 ▸ hnew_k (h := qX4) (kind := 9) (n := 6)) (by decide))) rfl rfl (by omega) (by decide) (Nat.le_of_ble_eq_true rfl) ?_
  rintro _ qh4 ⟨rfl, r1, r2, r3, r4⟩
  refine XS.go (s_putr rfl xf11_36 (show 0 < hz qh4 by omega) ((r3 0 (by decide)).1.trans ((hnew_at (h := qX4) (kind := 9) (n := 6) hl4).1.trans sk4)) (by decide) rfl (Or.inl rfl)) ?_
  have rp : S0 qh4 12 := r4
  have rk : KR qh4 (hsr qh4 0 4 (some 12)) 12 628 := KR.sr (Or.inl (by decide))
  refine XR.gen (fun X => FS qX4 X 12 628 8228 4 ∧ (S0 X 12)) ⟨FS.of ez4 (by decide) r3 r1 r2 rfl, S0.keepR (s := 12) rp rk (by rw [hz_hsr]; omega) (by rw [hz_hsr]; omega)⟩ (fun qX5 hX5 => ?_)
  obtain ⟨⟨ez5, sw5, sK5, skk5, sr5, sq5, si5⟩, sp5⟩ := hX5
  have sk5 : hk qX5 0 = 11 := skk5.trans sk4
  clear r1 r2 r3 r4 rp rk hl4 hx4
  have hl5 : 0 < hz qX5 := by omega
  have hx5 : hz qX5 < 1000000 := by omega
  refine XS.go (s_aloadn rfl rfl rfl) ?_
  refine XS.go (s_new (ci := 9) rfl (lg_1 94 rfl rfl) (by decide) rfl hx5) ?_
  refine XS.go (s_dup rfl rfl) ?_
  rw [ez5]
  refine r_callin rfl xnX9_init rfl (List.mem_of_getElem? (i := 3) rfl) (show XC l G xEX9_init (d + 4) [.ref 628] _ _ from (k_sInit (h := hnew qX5 9 6) (s := 628) (d := d) (show hz qX5 + 1 = _ by omega) (ez5 ▸ hnew_k (h := qX5) (kind := 9) (n := 6)) (by decide))) rfl rfl (by omega) (by decide) (Nat.le_of_ble_eq_true rfl) ?_
  rintro _ qh5 ⟨rfl, r1, r2, r3, r4⟩
  refine XS.go (s_putr rfl xf11_40 (show 0 < hz qh5 by omega) ((r3 0 (by decide)).1.trans ((hnew_at (h := qX5) (kind := 9) (n := 6) hl5).1.trans sk5)) (by decide) rfl (Or.inl rfl)) ?_
  have rp : S0 qh5 628 := r4
  have rk : KR qh5 (hsr qh5 0 5 (some 628)) 628 1244 := KR.sr (Or.inl (by decide))
  refine XR.gen (fun X => FS qX5 X 628 1244 8228 5 ∧ (S0 X 628)) ⟨FS.of ez5 (by decide) r3 r1 r2 rfl, S0.keepR (s := 628) rp rk (by rw [hz_hsr]; omega) (by rw [hz_hsr]; omega)⟩ (fun qX6 hX6 => ?_)
  obtain ⟨⟨ez6, sw6, sK6, skk6, sr6, sq6, si6⟩, sp6⟩ := hX6
  have sk6 : hk qX6 0 = 11 := skk6.trans sk5
  clear r1 r2 r3 r4 rp rk hl5 hx5
  have hl6 : 0 < hz qX6 := by omega
  have hx6 : hz qX6 < 1000000 := by omega
  refine XS.go (s_aloadn rfl rfl rfl) ?_
  refine XS.go (s_new (ci := 0) rfl (lg_2 41 rfl rfl) (by decide) rfl hx6) ?_
  refine XS.go (s_dup rfl rfl) ?_
  rw [ez6]
  refine r_callin rfl xnX0_init rfl (List.mem_of_getElem? (i := 5) rfl) (show XC l G xEX0_init (d + 2) [.ref 1244] _ _ from (k_uInit (h := hnew qX6 0 16) (a := 1244) (d := d) (show hz qX6 + 1 = _ by omega) (ez6 ▸ hnew_k (h := qX6) (kind := 0) (n := 16)) (fun j => ez6 ▸ hnew_i (h := qX6) (kind := 0) (n := 16) (j := j)) (by decide))) rfl rfl (by omega) (by decide) (Nat.le_of_ble_eq_true rfl) ?_
  rintro _ qh6 ⟨rfl, r1, r2, r3, r4, r5, r6⟩
  refine XS.go (s_putr rfl xf11_46 (show 0 < hz qh6 by omega) ((r3 0 (by decide)).1.trans ((hnew_at (h := qX6) (kind := 0) (n := 16) hl6).1.trans sk6)) (by decide) rfl (Or.inr ⟨rfl, rfl⟩)) ?_
  have rp : BU qh6 1244 ∧ hi qh6 1245 1 = 0 ∧ ∀ j, hi qh6 1244 j = (upd (upd (upd (upd (upd (upd (upd (fun _ => 0) 1 (0)) 2 (4)) 7 (0)) 9 (0)) 10 (-1)) 11 (0)) 15 (0)) j := ⟨r4, r5, r6⟩
  have rk : KR qh6 (hsr qh6 0 6 (some 1244)) 1244 1255 := KR.sr (Or.inl (by decide))
  refine XR.gen (fun X => FS qX6 X 1244 1255 5600 6 ∧ (BU X 1244 ∧ hi X 1245 1 = 0 ∧ ∀ j, hi X 1244 j = (upd (upd (upd (upd (upd (upd (upd (fun _ => 0) 1 (0)) 2 (4)) 7 (0)) 9 (0)) 10 (-1)) 11 (0)) 15 (0)) j)) ⟨FS.of ez6 (by decide) r3 r1 r2 rfl, ⟨BU.keepR (a := 1244) rp.1 rk (by rw [hz_hsr]; omega) (by rw [hz_hsr]; omega), ((rk 1245 (by decide) (by decide)).2.2.1 1).trans rp.2.1, fun j => ((rk 1244 (by decide) (by decide)).2.2.1 j).trans (rp.2.2 j)⟩⟩ (fun qX7 hX7 => ?_)
  obtain ⟨⟨ez7, sw7, sK7, skk7, sr7, sq7, si7⟩, sp7⟩ := hX7
  have sk7 : hk qX7 0 = 11 := skk7.trans sk6
  clear r1 r2 r3 r4 r5 r6 rp rk hl6 hx6
  have hl7 : 0 < hz qX7 := by omega
  have hx7 : hz qX7 < 1000000 := by omega
  refine XS.go (s_aloadn rfl rfl rfl) ?_
  refine XS.go (s_new (ci := 8) rfl (lg_2 103 rfl rfl) (by decide) rfl hx7) ?_
  refine XS.go (s_dup rfl rfl) ?_
  rw [ez7]
  refine r_callin rfl xnX8_init rfl (List.mem_of_getElem? (i := 7) rfl) (show XC l G xEX8_init (d + 2) [.ref 1255] _ _ from (k_rInit (h := hnew qX7 8 12) (a := 1255) (d := d) (show hz qX7 + 1 = _ by omega) (ez7 ▸ hnew_k (h := qX7) (kind := 8) (n := 12)) (by decide))) rfl rfl (by omega) (by decide) (Nat.le_of_ble_eq_true rfl) ?_
  rintro _ qh7 ⟨rfl, r1, r2, r3, r4, r5, r6⟩
  refine XS.go (s_putr rfl xf11_53 (show 0 < hz qh7 by omega) ((r3 0 (by decide)).1.trans ((hnew_at (h := qX7) (kind := 8) (n := 12) hl7).1.trans sk7)) (by decide) rfl (Or.inr ⟨rfl, rfl⟩)) ?_
  have rp : RD qh7 1255 ∧ hi qh7 1256 1 = 0 ∧ hi qh7 1255 5 = -1 := ⟨r4, r5, r6⟩
  have rk : KR qh7 (hsr qh7 0 7 (some 1255)) 1255 1262 := KR.sr (Or.inl (by decide))
  refine XR.gen (fun X => FS qX7 X 1255 1262 4270 7 ∧ (RD X 1255 ∧ hi X 1256 1 = 0 ∧ hi X 1255 5 = -1)) ⟨FS.of ez7 (by decide) r3 r1 r2 rfl, ⟨RD.keepR (a := 1255) rp.1 rk (by rw [hz_hsr]; omega) (by rw [hz_hsr]; omega), ((rk 1256 (by decide) (by decide)).2.2.1 1).trans rp.2.1, ((rk 1255 (by decide) (by decide)).2.2.1 5).trans rp.2.2⟩⟩ (fun qX8 hX8 => ?_)
  obtain ⟨⟨ez8, sw8, sK8, skk8, sr8, sq8, si8⟩, sp8⟩ := hX8
  have sk8 : hk qX8 0 = 11 := skk8.trans sk7
  clear r1 r2 r3 r4 r5 r6 rp rk hl7 hx7
  have hl8 : 0 < hz qX8 := by omega
  refine XS.go (s_aloadn rfl rfl rfl) ?_
  refine XS.go (s_iconst (v := 0) rfl rfl) ?_
  refine XS.go (s_puti rfl xf11_57 (by first | (with_reducible exact hl8) | (simp only [hz_hsi, hk_hsi]; with_reducible exact hl8)) (by first | (with_reducible exact sk8) | (simp only [hz_hsi, hk_hsi]; with_reducible exact sk8)) (by decide) rfl (Or.inl rfl)) ?_
  refine XS.go (s_aloadn rfl rfl rfl) ?_
  refine XS.go (s_iconst (v := 0) rfl rfl) ?_
  refine XS.go (s_puti rfl xf11_61 (by first | (with_reducible exact hl8) | (simp only [hz_hsi, hk_hsi]; with_reducible exact hl8)) (by first | (with_reducible exact sk8) | (simp only [hz_hsi, hk_hsi]; with_reducible exact sk8)) (by decide) rfl (Or.inl rfl)) ?_
  refine XS.go (s_aloadn rfl rfl rfl) ?_
  refine XS.go (s_iconst (v := 0) rfl rfl) ?_
  refine XS.go (s_puti rfl xf11_64 (by first | (with_reducible exact hl8) | (simp only [hz_hsi, hk_hsi]; with_reducible exact hl8)) (by first | (with_reducible exact sk8) | (simp only [hz_hsi, hk_hsi]; with_reducible exact sk8)) (by decide) rfl (Or.inl rfl)) ?_
  refine XS.go (s_aloadn rfl rfl rfl) ?_
  refine XS.go (s_iconst (v := 0) rfl rfl) ?_
  refine XS.go (s_puti rfl xf11_67 (by first | (with_reducible exact hl8) | (simp only [hz_hsi, hk_hsi]; with_reducible exact hl8)) (by first | (with_reducible exact sk8) | (simp only [hz_hsi, hk_hsi]; with_reducible exact sk8)) (by decide) rfl (Or.inl rfl)) ?_
  refine XS.go (s_aloadn rfl rfl rfl) ?_
  refine XS.go (s_iconst (v := 0) rfl rfl) ?_
  refine XS.go (s_puti rfl xf11_70 (by first | (with_reducible exact hl8) | (simp only [hz_hsi, hk_hsi]; with_reducible exact hl8)) (by first | (with_reducible exact sk8) | (simp only [hz_hsi, hk_hsi]; with_reducible exact sk8)) (by decide) rfl (Or.inl rfl)) ?_
  have zz : ∀ j, hi qX8 0 j = 0 := fun j => (si8 j).trans ((si7 j).trans ((si6 j).trans ((si5 j).trans ((si4 j).trans ((si3 j).trans ((si2 j).trans ((si1 j).trans (z0 j))))))))
  refine XR.gen (fun X => hz X = 1262 ∧ hw X = hw qX8 ∧ KR qX8 X 1 1262 ∧ hk X 0 = 11 ∧ (∀ j, hr X 0 j = hr qX8 0 j) ∧ ∀ j, hi X 0 j = 0) ⟨?_, ?_, ?_, ?_, ?_, ?_⟩ (fun qY hY => ?_)
  · simp only [hz_hsi]; exact ez8
  · simp only [hw_hsi]
  · repeat (first | (with_reducible exact KR.rf) | (with_reducible refine KR.tr ?_ (KR.si (Or.inl (by decide)))))
  · simp only [hk_hsi]; exact sk8
  · intro j; simp only [hr_hsi]
  · intro j; simp only [hi_hsi, zz]; simp
  obtain ⟨t1, t2, t3, t4, t5, t6⟩ := hY
  have c8 : KR qX8 qY 1 1262 := t3
  have c7 : KR qX7 qY 1 1255 := (sK8).tr (c8.sub (Nat.le_refl _) (by decide))
  have c6 : KR qX6 qY 1 1244 := (sK7).tr (c7.sub (Nat.le_refl _) (by decide))
  have c5 : KR qX5 qY 1 628 := (sK6).tr (c6.sub (Nat.le_refl _) (by decide))
  have c4 : KR qX4 qY 1 12 := (sK5).tr (c5.sub (Nat.le_refl _) (by decide))
  have c3 : KR qX3 qY 1 7 := (sK4).tr (c4.sub (Nat.le_refl _) (by decide))
  have c2 : KR qX2 qY 1 5 := (sK3).tr (c3.sub (Nat.le_refl _) (by decide))
  have c1 : KR qX1 qY 1 3 := (sK2).tr (c2.sub (Nat.le_refl _) (by decide))
  have em : hz qY ≤ 1000000 := by omega
  have kp1 : KR qX1 qY 1 3 := c1.sub (by decide) (Nat.le_refl _)
  have fp1 : BY qY 1 2 ∧ hi qY 1 1 = 0 := ⟨BY.keepR (b := 1) sp1.1 kp1 (by omega) em, ((kp1 1 (by decide) (by decide)).2.2.1 1).trans sp1.2⟩
  have kp2 : KR qX2 qY 3 5 := c2.sub (by decide) (Nat.le_refl _)
  have fp2 : BY qY 3 4 ∧ hi qY 3 1 = 0 := ⟨BY.keepR (b := 3) sp2.1 kp2 (by omega) em, ((kp2 3 (by decide) (by decide)).2.2.1 1).trans sp2.2⟩
  have kp3 : KR qX3 qY 5 7 := c3.sub (by decide) (Nat.le_refl _)
  have fp3 : VA qY 5 6 ∧ hi qY 5 1 = 0 := ⟨VA.keepR (b := 5) sp3.1 kp3 (by omega) em, ((kp3 5 (by decide) (by decide)).2.2.1 1).trans sp3.2⟩
  have kp4 : KR qX4 qY 7 12 := c4.sub (by decide) (Nat.le_refl _)
  have fp4 : LX qY 7 := LX.keepR (a := 7) sp4 kp4 (by omega) em
  have kp5 : KR qX5 qY 12 628 := c5.sub (by decide) (Nat.le_refl _)
  have fp5 : S0 qY 12 := S0.keepR (s := 12) sp5 kp5 (by omega) em
  have kp6 : KR qX6 qY 628 1244 := c6.sub (by decide) (Nat.le_refl _)
  have fp6 : S0 qY 628 := S0.keepR (s := 628) sp6 kp6 (by omega) em
  have kp7 : KR qX7 qY 1244 1255 := c7.sub (by decide) (Nat.le_refl _)
  have fp7 : BU qY 1244 ∧ hi qY 1245 1 = 0 ∧ ∀ j, hi qY 1244 j = (upd (upd (upd (upd (upd (upd (upd (fun _ => 0) 1 (0)) 2 (4)) 7 (0)) 9 (0)) 10 (-1)) 11 (0)) 15 (0)) j := ⟨BU.keepR (a := 1244) sp7.1 kp7 (by omega) em, ((kp7 1245 (by decide) (by decide)).2.2.1 1).trans sp7.2.1, fun j => ((kp7 1244 (by decide) (by decide)).2.2.1 j).trans (sp7.2.2 j)⟩
  have kp8 : KR qX8 qY 1255 1262 := c8.sub (by decide) (Nat.le_refl _)
  have fp8 : RD qY 1255 ∧ hi qY 1256 1 = 0 ∧ hi qY 1255 5 = -1 := ⟨RD.keepR (a := 1255) sp8.1 kp8 (by omega) em, ((kp8 1256 (by decide) (by decide)).2.2.1 1).trans sp8.2.1, ((kp8 1255 (by decide) (by decide)).2.2.1 5).trans sp8.2.2⟩
  have rf0 : hr qY 0 0 = some 1 := (t5 0).trans ((sq8 0 (by decide)).trans ((sq7 0 (by decide)).trans ((sq6 0 (by decide)).trans ((sq5 0 (by decide)).trans ((sq4 0 (by decide)).trans ((sq3 0 (by decide)).trans ((sq2 0 (by decide)).trans (sr1))))))))
  have rf1 : hr qY 0 1 = some 3 := (t5 1).trans ((sq8 1 (by decide)).trans ((sq7 1 (by decide)).trans ((sq6 1 (by decide)).trans ((sq5 1 (by decide)).trans ((sq4 1 (by decide)).trans ((sq3 1 (by decide)).trans (sr2)))))))
  have rf2 : hr qY 0 2 = some 5 := (t5 2).trans ((sq8 2 (by decide)).trans ((sq7 2 (by decide)).trans ((sq6 2 (by decide)).trans ((sq5 2 (by decide)).trans ((sq4 2 (by decide)).trans (sr3))))))
  have rf3 : hr qY 0 3 = some 7 := (t5 3).trans ((sq8 3 (by decide)).trans ((sq7 3 (by decide)).trans ((sq6 3 (by decide)).trans ((sq5 3 (by decide)).trans (sr4)))))
  have rf4 : hr qY 0 4 = some 12 := (t5 4).trans ((sq8 4 (by decide)).trans ((sq7 4 (by decide)).trans ((sq6 4 (by decide)).trans (sr5))))
  have rf5 : hr qY 0 5 = some 628 := (t5 5).trans ((sq8 5 (by decide)).trans ((sq7 5 (by decide)).trans (sr6)))
  have rf6 : hr qY 0 6 = some 1244 := (t5 6).trans ((sq8 6 (by decide)).trans (sr7))
  have rf7 : hr qY 0 7 = some 1255 := (t5 7).trans (sr8)
  have FF : FT qY 12 628 := ⟨by omega, em, t4, rf0, rf1, rf2, rf3, rf4, rf5, rf6, rf7, fp1.1, fp2.1, fp3.1, fp4, fp5.1, fp6.1, fp7.1, fp8.1, Or.inl ⟨rfl, rfl⟩⟩
  have ew : hw qY = hw h + 50942 := by omega
  exact XR.retv rfl rfl (fun hret => ⟨_, hret, rfl, t1, ew, FF, fp1.2, fp2.2, fp3.2, fp5, fp6, fp7.2.1, fp7.2.2, fp8.2.1, fp8.2.2, t6⟩)
