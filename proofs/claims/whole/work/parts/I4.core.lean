/-! schema(): the parser made; the class up to its end -/

theorem KP.sj2 {h g : XH} {m t k : Nat} {v : Int64} (K : KP h g m) (ht : m ≤ t) : KP h (hsj g t k v) m := K.tr (KP.sj ht)
section In
variable {S t n : Nat} {g h u p : XH}
theorem e_p_init (L : LY g) (hS : S = 12 ∨ S = 628) (ht : t = hz g) (hm : hz g + 3 < 1000000) : ∃ u, f_p_init t 7 S (hnew g 7 9) = some ((), u) ∧ KP g u t ∧ hz u = t + 3 ∧ hw u = hw g + 339 ∧ PO u t S ∧ hi u t 5 = 0 ∧ hi u t 3 = 0 := by
  have t17 : 1317 ≤ t := by rw [ht]; exact L.1
  obtain ⟨a, ea⟩ : ∃ a, a = hnew g 7 9 := ⟨_, rfl⟩
  have za : hz a = t + 1 := by rw [ea, hnew_z, ht]
  have wa : hw a = hw g + 9 := by rw [ea, hnew_w]
  have ka : hk a t = 7 := by rw [ea, ht, hnew_k]
  have Ka : KP g a t := by rw [ea]; exact KP.new (by omega)
  obtain ⟨b, eb⟩ : ∃ b, b = hnew a 104 321 := ⟨_, rfl⟩
  have zb : hz b = t + 2 := by rw [eb, hnew_z, za]
  have wb : hw b = hw g + 330 := by rw [eb, hnew_w, wa]
  have nb' : ∀ c, c ≠ t + 1 → hk b c = hk a c := fun c hc => by rw [eb]; exact (ho_new c (by omega)).1
  have kb1 : hk b (t + 1) = 104 := by rw [eb, ← za, hnew_k]
  have nb1 : hn b (t + 1) = 321 := by rw [eb, ← za, hnew_n]
  have kbt : hk b t = 7 := by rw [nb' t (by omega)]; exact ka
  have Kb : KP g b t := Ka.tr (by rw [eb]; exact KP.new (by omega))
  obtain ⟨c, ec⟩ : ∃ c, c = hsi (hsr b t 2 (some (t + 1))) t 3 0 := ⟨_, rfl⟩
  have zc : hz c = t + 2 := by rw [ec, hz_hsi, hz_hsr]; exact zb
  have wc : hw c = hw g + 330 := by rw [ec, hw_hsi, hw_hsr]; exact wb
  have kc' : ∀ x, hk c x = hk b x := fun x => by rw [ec, hk_hsi, hk_hsr]
  have nc' : ∀ x, hn c x = hn b x := fun x => by rw [ec, hn_hsi, hn_hsr]
  have rc2 : hr c t 2 = some (t + 1) := by rw [ec, hr_hsi, hr_hsr_eq]
  have ic3 : hi c t 3 = 0 := by rw [ec, hi_at]
  have Kc : KP g c t := by rw [ec]; exact (Kb.sr2 (Nat.le_refl _)).si2 (Nat.le_refl _)
  obtain ⟨d, ed⟩ : ∃ d, d = hnew c 3 9 := ⟨_, rfl⟩
  have zd : hz d = t + 3 := by rw [ed, hnew_z, zc]
  have wd : hw d = hw g + 339 := by rw [ed, hnew_w, wc]
  have kd2 : hk d (t + 2) = 3 := by rw [ed, ← zc, hnew_k]
  have nd' : ∀ x, x ≠ t + 2 → hk d x = hk c x ∧ hn d x = hn c x ∧ (∀ j, hi d x j = hi c x j) ∧ ∀ j, hr d x j = hr c x j := fun x hx => by
    have := ho_new (h := c) (kind := 3) (n := 9) x (by omega)
    rw [ed]
    exact ⟨this.1, this.2.1, this.2.2.1, this.2.2.2.2⟩
  have Kd : KP g d t := Kc.tr (by rw [ed]; exact KP.new (by omega))
  obtain ⟨e, ee⟩ : ∃ e, e = hsj (hsi (hsi (hsi (hsi (hsi (hsi (hsj (hsj d (t + 2) 0 (0 : Int64)) (t + 2) 1 (0 : Int64)) (t + 2) 2 (-1)) (t + 2) 3 (-1)) (t + 2) 4 0) (t + 2) 5 (-1)) (t + 2) 6 0) (t + 2) 7 0) (t + 2) 8 (0 : Int64) := ⟨_, rfl⟩
  have fe : f_f_init (t + 2) d = some ((), e) := by
    rw [ee]
    exact o_pos ⟨by omega, kd2⟩ rfl
  have ze : hz e = t + 3 := by rw [ee]; simp only [hz_hsi, hz_hsj]; exact zd
  have we : hw e = hw g + 339 := by rw [ee]; simp only [hw_hsi, hw_hsj]; exact wd
  have ke : ∀ x, hk e x = hk d x := fun x => by rw [ee]; simp only [hk_hsi, hk_hsj]
  have ne' : ∀ x, hn e x = hn d x := fun x => by rw [ee]; simp only [hn_hsi, hn_hsj]
  have re : ∀ x, hr e x = hr d x := fun x => by rw [ee]; simp only [hr_hsi, hr_hsj]
  have ie : hi e t = hi d t := by
    rw [ee]
    simp (maxSteps := 4000000) (disch := omega) only [hi_hsj, hi_hsi_ne]
  have Ke : KP g e t := by
    rw [ee]
    exact ((((((((Kd.sj2 (by omega)).sj2 (by omega)).si2 (by omega)).si2 (by omega)).si2 (by omega)).si2 (by omega)).si2 (by omega)).si2 (by omega)).sj2 (by omega)
  obtain ⟨v, ev⟩ : ∃ v, v = hsr (hsr (hsi (hsi (hsi (hsi (hsr e t 4 (some (t + 2))) t 5 0) t 6 0) t 7 0) t 8 0) t 0 (some 7)) t 1 (some S) := ⟨_, rfl⟩
  have zv : hz v = t + 3 := by rw [ev]; simp only [hz_hsi, hz_hsr]; exact ze
  have kv : ∀ x, hk v x = hk e x := fun x => by rw [ev]; simp only [hk_hsi, hk_hsr]
  have nv : ∀ x, hn v x = hn e x := fun x => by rw [ev]; simp only [hn_hsi, hn_hsr]
  have Kv : KP g v t := by
    rw [ev]
    exact ((((((Ke.sr2 (Nat.le_refl _)).si2 (Nat.le_refl _)).si2 (Nat.le_refl _)).si2 (Nat.le_refl _)).si2 (Nat.le_refl _)).sr2 (Nat.le_refl _)).sr2 (Nat.le_refl _)
  have kt : hk e t = 7 := by rw [ke, (nd' t (by omega)).1, kc']; exact kbt
  refine ⟨v, ?_, Kv, zv, by rw [ev]; simp only [hw_hsi, hw_hsr]; exact we, ⟨L.keep (Kv.le t17) (by omega) (by omega), t17, by omega, hS, by rw [kv]; exact kt, ?_, ?_, ?_, ?_, ?_, ?_, ?_, ?_, ?_⟩, ?_, ?_⟩
  · unfold f_p_init
    rw [← ea, za, ← eb, ← ec, zc, ← ed]
    have c1 : t < hz (hsr b t 2 (some (t + 1))) ∧ hk (hsr b t 2 (some (t + 1))) t = 7 := ⟨by rw [hz_hsr]; omega, by rw [hk_hsr]; exact kbt⟩
    have c2 : t < hz (hsr e t 4 (some (t + 2))) ∧ hk (hsr e t 4 (some (t + 2))) t = 7 := ⟨by rw [hz_hsr]; omega, by rw [hk_hsr]; exact kt⟩
    have c3 : t < hz (hsr (hsi (hsi (hsi (hsi (hsr e t 4 (some (t + 2))) t 5 0) t 6 0) t 7 0) t 8 0) t 0 (some 7)) ∧ hk (hsr (hsi (hsi (hsi (hsi (hsr e t 4 (some (t + 2))) t 5 0) t 6 0) t 7 0) t 8 0) t 0 (some 7)) t = 7 := ⟨by simp only [hz_hsr, hz_hsi]; omega, by simp only [hk_hsr, hk_hsi]; exact kt⟩
    refine o_pos (by omega) (o_pos ⟨by omega, kbt⟩ (o_pos t17 (o_pos c1 (o_pos (by omega) (o_pos ⟨by omega, kd2⟩ (o_bind fe (o_pos ⟨show t < hz e by omega, kt⟩ (o_pos t17 (o_pos c2 (o_pos t17 (o_pos c3 (o_pos t17 ?_))))))))))))
    rw [ev]
  · rw [ev, hr_hsr_nk (by decide), hr_hsr_eq]
  · rw [ev, hr_hsr_eq]
  · rw [ev, hr_hsr_nk (by decide), hr_hsr_nk (by decide), hr_hsi, hr_hsi, hr_hsi, hr_hsi, hr_hsr_nk (by decide), re, (nd' t (by omega)).2.2.2]; exact rc2
  · rw [ev, hr_hsr_nk (by decide), hr_hsr_nk (by decide), hr_hsi, hr_hsi, hr_hsi, hr_hsi, hr_hsr_eq]
  · rw [kv, ke, (nd' _ (by omega)).1, kc']; exact kb1
  · rw [nv, ne', (nd' _ (by omega)).2.1, nc']; exact nb1
  · rw [kv, ke]; exact kd2
  · rw [ev, hi_hsr, hi_hsr, hi_nk (by decide), hi_at]
  · rw [ev, hi_hsr, hi_hsr, hi_at]
  · rw [ev, hi_hsr, hi_hsr, hi_nk (by decide), hi_nk (by decide), hi_nk (by decide), hi_at]
  · rw [ev, hi_hsr, hi_hsr, hi_nk (by decide), hi_nk (by decide), hi_nk (by decide), hi_nk (by decide), hi_hsr, ie, (nd' t (by omega)).2.2.1]; exact ic3
end In
/-- behind the parse, where it went well -/
def tS (t : Nat) (u : XH) : Option (Sum Int32 Nat × XH) := (Option.bind (hr u 0 4) fun b18 => (Option.bind (hr u 0 5) fun b20 => (Option.bind (f_u_empty (hsr (hsr (hsi (hsi u 0 8 (hi u t 7)) 0 9 (hi (hsi u 0 8 (hi u t 7)) t 8)) 0 4 (some b20)) 0 5 (some b18))) fun r24 => (Option.bind (f_r_drop r24.2) fun r27 => (Option.bind (hr r27.2 0 4) fun b30 => (if b30 < hz r27.2 ∧ hk r27.2 b30 = 9 then (Option.bind (hr r27.2 b30 1) fun b33 => (if b33 < hz r27.2 ∧ hk r27.2 b33 = 4 then (some (Sum.inl (hi r27.2 b33 1), r27.2)) else none)) else none))))))
/-- where it didn't -/
def tN (t : Nat) (u : XH) : Option (Sum Int32 Nat × XH) := (if hz (hsi (hsi u 0 8 (hi u t 7)) 0 9 (hi (hsi u 0 8 (hi u t 7)) t 8)) < 1000000 then (some (Sum.inr 0, hthr (hsi (hsi u 0 8 (hi u t 7)) 0 9 (hi (hsi u 0 8 (hi u t 7)) t 8)))) else none)
def cfP (S a k : Nat) : Prop := (a = 1 ∧ k = 1) ∨ a = 7 ∨ a = 8 ∨ a = 9 ∨ (S ≤ a ∧ a < S + 615)
/-- what the class touched up to there -/
def CF (S : Nat) (g u : XH) : Prop := (hz u = hz g + 3 ∧ hw u = hw g + 339 ∧ LY u ∧ KC u S) ∧ hi u 1 1 = 0 ∧ (∀ a k, a < hz g → ¬ a = S + 615 → hr u a k = hr g a k) ∧ (∀ a k, a < hz g → ¬ (a = 10 ∨ a = 11 ∨ a = 1316 ∨ (S ≤ a ∧ a < S + 615)) → hj u a k = hj g a k) ∧ ∀ a k, a < hz g → ¬ cfP S a k → hi u a k = hi g a k
def pfP (a k : Nat) : Prop := (a = 1262 ∧ 12 ≤ k ∧ k ≤ 46) ∨ (1266 ≤ a ∧ a ≤ 1297)
section Co
variable {S n : Nat} {g h : XH}
theorem core1 (L : LY g) (K : KC g S) (hS : S = 12 ∨ S = 628) (h5 : hr g 0 5 = some S) (hm : hz g + 10 < 1000000) (e11 : hi g 1 1 = nI n) (n4 : n ≤ 4000) (Lh : LY h) (M : MTx h (cb g 2) n) : (∃ u p sg sd, f_t_schema g = tS (hz g) u ∧ f_m_parse h = some ((), p) ∧ CS u S sg sd ∧ MS p sg sd ∧ WF sg sd ∧ NM2 u p S sg ∧ (hi u (hz g) 7 = 0 ∧ hi u (hz g) 8 = 0) ∧ hi p 1262 14 = 0 ∧ CF S g u ∧ FRX pfP nJ nW h p) ∨ (∃ u p, f_t_schema g = tN (hz g) u ∧ f_m_parse h = some ((), p) ∧ FLT u p (hz g) ∧ CF S g u ∧ FRX pfP nJ nW h p) := by
  obtain ⟨t, ht⟩ : ∃ t, t = hz g := ⟨_, rfl⟩
  rw [← ht]
  have t17 : 1317 ≤ t := by rw [ht]; exact L.1
  -- the lexers
  obtain ⟨ga, ega⟩ : ∃ ga, ga = hsi (hsi g 7 4 0) 7 5 0 := ⟨_, rfl⟩
  have Fa : FRJ lP lJ g ga := by rw [ega]; exact (FRJ.refl.si (Or.inl ⟨rfl, Or.inl rfl⟩)).si (Or.inl ⟨rfl, Or.inr rfl⟩)
  have La : LY ga := by rw [Fa.ly]; exact L
  obtain ⟨ha, eha⟩ : ∃ ha, ha = hsi (hsi (hsi (hsi (hsi (hsi (hsi h 1262 14 0) 1262 13 0) 1262 16 0) 1262 20 0) 1262 31 0) 1262 41 0) 1262 46 0 := ⟨_, rfl⟩
  have Ga : FRX pfP nJ nW h ha := by
    rw [eha]
    exact FRX.si (FRX.si (FRX.si (FRX.si (FRX.si (FRX.si (FRX.si FRX.refl (by simp [pfP])) (by simp [pfP])) (by simp [pfP])) (by simp [pfP])) (by simp [pfP])) (by simp [pfP])) (by simp [pfP])
  have va : hi ha 1262 13 = 0 ∧ hi ha 1262 14 = 0 ∧ hi ha 1262 16 = 0 ∧ hi ha 1262 20 = 0 ∧ hi ha 1262 31 = 0 ∧ hi ha 1262 41 = 0 ∧ hi ha 1262 46 = 0 := by
    rw [eha]
    simp (disch := decide) only [hi_nk, hi_at, and_self]
  obtain ⟨hb, ehb⟩ : ∃ hb, hb = hsi ha 1262 12 0 := ⟨_, rfl⟩
  have Gb : FRX pfP nJ nW h hb := by rw [ehb]; exact Ga.si (by simp [pfP])
  have Ma : MTx hb (cb g 2) n := by
    obtain ⟨m1, m2, m3, m4⟩ := M
    exact ⟨by rw [Gb.at (by simp [pfP])]; exact m1, m2, m3, fun k hk' => by rw [Gb.at (by simp [pfP])]; exact m4 k hk'⟩
  have Ca : CTx ga (cb g 2) n := ⟨La, by rw [Fa.at (by unfold lP; omega)]; exact e11, n4, fun k => Fa.cbq (by unfold lP; omega)⟩
  obtain ⟨gb, pb, c, x1, x2, x3, x4, x5⟩ := lex_all (T := cb g 2) (n := n) n 0 0 100000 100000 ga hb (by omega) (by omega) (by omega) (by omega) (by omega) Ca Ma (by rw [ega, hi_nk (by decide), hi_at]; rfl) (by rw [ega, hi_at]; rfl) (by rw [ehb, hi_at]; rfl) (fun i hi' => absurd hi' (Nat.not_lt_zero i))
  have Fb : FRJ lP lJ g gb := Fa.trans x3
  have Lb : LY gb := by rw [Fb.ly]; exact L
  have Gp : FRX pfP nJ nW h pb := Gb.trans (x4.x (fun a k z => by unfold mLx at z; unfold pfP; omega) (fun k => Or.inl rfl))
  have bm : ∀ k, k ≠ 12 → hi pb 1262 k = hi ha 1262 k := fun k hk' => by rw [x4.at (by unfold mLx; omega), ehb, hi_nk hk']
  have Lp : LY pb := Lh.frx Gp fun _ _ _ _ z => z
  have Mp : MTx pb (cb g 2) n := by
    obtain ⟨m1, m2, m3, m4⟩ := M
    exact ⟨by rw [Gp.at (by simp [pfP])]; exact m1, m2, m3, fun k hk' => by rw [Gp.at (by simp [pfP])]; exact m4 k hk'⟩
  -- the parser
  obtain ⟨gc, egc⟩ : ∃ gc, gc = hsi gb 1 1 0 := ⟨_, rfl⟩
  have Lc : LY gc := by rw [egc, LY_si]; exact Lb
  have zc : hz gc = t := by rw [egc, hz_hsi, Fb.1.1, ht]
  have wc : hw gc = hw g := by rw [egc, hw_hsi, Fb.1.2.1]
  have rc : ∀ a, hr gc a = hr g a := fun a => by rw [egc, hr_hsi, Fb.1.2.2.2.2]
  obtain ⟨v, v1, v2, v3, v4, v5, v6, v7⟩ := e_p_init (t := t) Lc hS zc.symm (by omega)
  have ih : ∀ a, a < t → hi v a = hi gc a := fun a ha' => v2.hi ha'
  have jh : ∀ a, a < t → hj v a = hj gc a := fun a ha' => v2.hj ha'
  have ic : ∀ a k, ¬ (a = 1 ∧ k = 1) → hi gc a k = hi gb a k := fun a k hc => by rw [egc, hi_hsi, if_neg hc]
  have row : ∀ a, a ≠ 1 → a < t → hi v a = hi gb a := fun a h1 h2 => by rw [ih a h2, egc, hi_hsi_ne h1]
  have rowj : ∀ a, a < t → hj v a = hj gb a := fun a h2 => by rw [jh a h2, egc]; rfl
  have Kv : KC v S := K.cg fun a h1 h2 => by
    rw [row a (by omega) (by omega)]
    exact Fb.row fun k => by unfold lP; omega
  have TKv : TOKS (cb g 2) n v pb c := x5.cg (by rw [row 7 (by decide) (by omega)]) (row 8 (by decide) (by omega)) (row 9 (by decide) (by omega)) (rowj 10 (by omega)) (rowj 11 (by omega)) rfl rfl rfl rfl rfl
  have PP := parse2 v5 TKv Mp Kv Lp v6 v7 ⟨by rw [bm 13 (by decide)]; exact va.1, by rw [bm 14 (by decide)]; exact va.2.1, by rw [bm 16 (by decide)]; exact va.2.2.1, by rw [bm 20 (by decide)]; exact va.2.2.2.1, by rw [bm 31 (by decide)]; exact va.2.2.2.2.1, by rw [bm 41 (by decide)]; exact va.2.2.2.2.2.1, by rw [bm 46 (by decide)]; exact va.2.2.2.2.2.2⟩
  have mp : ∀ {X : Option (Unit × XH)}, b_m_parse_39 100000 pb = X → f_m_parse h = X := by
    intro X e
    unfold f_m_parse f_m_cut
    rw [← eha, ← ehb]
    exact o_bind x2 e
  have cp : ∀ {r : Int32} {u : XH} {X : Option (Sum Int32 Nat × XH)}, f_p_parse t v = some (r, u) → (t < hz u ∧ hk u t = 7) → (if ¬ r = 0 then tS t u else tN t u) = X → f_t_schema g = X := by
    intro r u X e1 e2 e3
    unfold f_t_schema f_x_takeAll
    rw [← ega]
    refine o_bind x1 ?_
    show (if hz (hsi gb 1 1 0) < 1000000 then (Option.bind (hr (hnew (hsi gb 1 1 0) 7 9) 0 5) fun b6 => (if (hz (hsi gb 1 1 0)) < hz (hnew (hsi gb 1 1 0) 7 9) ∧ hk (hnew (hsi gb 1 1 0) 7 9) (hz (hsi gb 1 1 0)) = 7 then (Option.bind (f_p_init (hz (hsi gb 1 1 0)) 7 b6 (hnew (hsi gb 1 1 0) 7 9)) fun r9 => (if (hz (hsi gb 1 1 0)) < hz r9.2 ∧ hk r9.2 (hz (hsi gb 1 1 0)) = 7 then (Option.bind (f_p_parse (hz (hsi gb 1 1 0)) r9.2) fun r13 => (if (hz (hsi gb 1 1 0)) < hz r13.2 ∧ hk r13.2 (hz (hsi gb 1 1 0)) = 7 then (if ¬ r13.1 = 0 then (tS (hz (hsi gb 1 1 0)) r13.2) else (tN (hz (hsi gb 1 1 0)) r13.2)) else none)) else none)) else none)) else none) = X
    rw [← egc, zc]
    have k7 : hk (hnew gc 7 9) t = 7 := by rw [← zc, hnew_k]
    refine o_pos (by omega) (o_bind (v := S) ?_ (o_pos ⟨by rw [hnew_z, zc]; omega, k7⟩ (o_bind v1 (o_pos v5.tk (o_bind e1 (o_pos e2 e3))))))
    rw [(ho_new (h := gc) (kind := 7) (n := 9) 0 (by omega)).2.2.2.2, rc]
    exact h5
  have cf : ∀ {u : XH}, FC S t v u → CF S g u := by
    intro u F
    refine ⟨⟨by rw [F.1.1, v3, ht], by rw [F.1.2.1, v4, wc], F.ly v5.1 hS t17, F.kc Kv v5.1 t17⟩, ?_, fun a k h1 h2 => ?_, fun a k h1 h2 => ?_, fun a k h1 h2 => ?_⟩
    · rw [F.at (by unfold vP; omega), ih 1 (by omega), egc, hi_at]
    · rw [F.rf (by unfold vW; omega), v2.hr (by omega), rc]
    · rw [F.lg (by unfold vJ; omega), jh a (by omega), egc, hj_hsi, Fb.2.1 a (by unfold lJ; omega)]
    · unfold cfP at h2
      rw [F.at (by unfold vP; omega), ih a (by omega), ic a k (by omega), Fb.at (by unfold lP; omega)]
  have pf : ∀ {p : XH}, FMx pb p → FRX pfP nJ nW h p := fun G => Gp.trans (G.mono (fun a k z => by unfold nM at z; unfold pfP; omega) (fun _ _ z => z) (fun _ _ z => z))
  have tku : ∀ {u : XH}, FC S t v u → (t < hz u ∧ hk u t = 7) := fun F => ⟨by rw [F.1.1]; exact v5.tk.1, by rw [F.1.2.2.1]; exact v5.tk.2⟩
  rcases PP with ⟨u, p, sg, sd, y1, y2, y3, y4, y5, y6, y7, y8, y9, y10⟩ | ⟨u, p, y1, y2, y3, y4, y5⟩
  · exact Or.inl ⟨u, p, sg, sd, cp y1 (tku y9) (o_pos one0 rfl), mp y2, y3, y4, y5, y6, y7, y8, cf y9, pf y10⟩
  · exact Or.inr ⟨u, p, cp y1 (tku y4) (o_neg (not_not_intro rfl) rfl), mp y2, y3, cf y4, pf y5⟩
end Co
