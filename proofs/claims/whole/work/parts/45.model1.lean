/-! The model's small methods, as functions over the heap -/
def v_thrown (h : XH) : Int32 := (hi h 1262 0)
set_option maxRecDepth 20000 in
theorem k_thrown {l : Launch} {G : XG} {h : XH} {d : Nat} (L0 : LY h) : XC l G xEX12_thrown d [.ref 1262] h (fun v h2 => h = h2 ∧ v = some (.int (v_thrown h))) := by
  refine XC.virt xvX12_thrown (Nat.le_of_ble_eq_true rfl) ?_
  refine XS.go (s_aloadn rfl rfl rfl) ?_
  refine XS.go (s_getie rfl xf12_175 (LY.lt L0 (by decide)) (LY.k1262 L0) (by decide) rfl rfl) ?_
  refine XR.reti rfl rfl (fun hret => ⟨_, hret, ?_⟩)
  exact ⟨rfl, rfl⟩
def v_end (h : XH) (n : Int32) : Int32 := (if n < 0 then 0 else (if n ≤ (hi h 1262 2) then 1 else 0))
def m_end (h : XH) (n : Int32) : XH := (if n < 0 then (hsi h 1262 0 0) else (if n ≤ (hi h 1262 2) then (hsi (hsi h 1262 0 0) 1262 2 n) else (hsi h 1262 0 0)))
set_option maxRecDepth 20000 in
theorem k_end {l : Launch} {G : XG} {h : XH} {d : Nat} {n : Int32} (L0 : LY h) : XC l G xEX12_end d [.ref 1262, .int n] h (fun v h2 => h2 = m_end h n ∧ v = some (.int (v_end h n))) := by
  refine XC.virt xvX12_end (Nat.le_of_ble_eq_true rfl) ?_
  refine XS.go (s_aloadn rfl rfl rfl) ?_
  refine XS.go (s_iconst (v := 0) rfl rfl) ?_
  refine XS.go (s_puti rfl xf12_175 (LY.lt L0 (by decide)) (LY.k1262 L0) (by decide) rfl (Or.inl rfl)) ?_
  refine XS.go (s_iloadn rfl rfl rfl) ?_
  refine r_if_lt (tgt := 17) rfl rfl (fun qc6_1 => ?_) (fun qc6_1 => ?_)
  · skip
    refine XS.go (s_iconst (v := 0) rfl rfl) ?_
    refine XR.retz rfl rfl (by decide) (fun hret => ⟨_, hret, ?_⟩)
    exact ⟨(by unfold m_end; rw [if_pos qc6_1]), (by unfold v_end; rw [if_pos qc6_1])⟩
  · skip
    refine XS.go (s_iloadn rfl rfl rfl) ?_
    refine XS.go (s_aloadn rfl rfl rfl) ?_
    refine XS.go (s_getie rfl xf12_178 (LY.lt (by simp only [LY_si, LY_sj]; exact L0) (by decide)) (LY.k1262 (by simp only [LY_si, LY_sj]; exact L0)) (by decide) rfl (hi_hsi_nk (by decide))) ?_
    refine r_icmp_le (tgt := 19) rfl rfl (fun qc14_2 => ?_) (fun qc14_2 => ?_)
    · skip
      refine XS.go (s_aloadn rfl rfl rfl) ?_
      refine XS.go (s_iloadn rfl rfl rfl) ?_
      refine XS.go (s_puti rfl xf12_178 (LY.lt (by simp only [LY_si, LY_sj]; exact L0) (by decide)) (LY.k1262 (by simp only [LY_si, LY_sj]; exact L0)) (by decide) rfl (Or.inl rfl)) ?_
      refine XS.go (s_iconst (v := 1) rfl rfl) ?_
      refine XR.retz rfl rfl (by decide) (fun hret => ⟨_, hret, ?_⟩)
      exact ⟨(by unfold m_end; rw [if_neg qc6_1, if_pos qc14_2]), (by unfold v_end; rw [if_neg qc6_1, if_pos qc14_2])⟩
    · skip
      refine XS.go (s_iconst (v := 0) rfl rfl) ?_
      refine XR.retz rfl rfl (by decide) (fun hret => ⟨_, hret, ?_⟩)
      exact ⟨(by unfold m_end; rw [if_neg qc6_1, if_neg qc14_2]), (by unfold v_end; rw [if_neg qc6_1, if_neg qc14_2])⟩
theorem LY_m_end {h : XH} {n : Int32} : LY (m_end h n) = LY h := by
  unfold m_end
  (repeat' split) <;> simp only [LY_si, LY_sj]
def v_isDigit (c : Int32) : Int32 := (if c < 48 then 0 else (if 57 < c then 0 else 1))
set_option maxRecDepth 20000 in
theorem k_isDigit {l : Launch} {G : XG} {h : XH} {d : Nat} {c : Int32} : XC l G xEX12_isDigit d [.int c] h (fun v h2 => h = h2 ∧ v = some (.int (v_isDigit c))) := by
  refine XC.stat xsX12_isDigit (Nat.le_of_ble_eq_true rfl) ?_
  refine XS.go (s_iloadn rfl rfl rfl) ?_
  refine XS.go (s_bipush (v := 48) rfl rfl) ?_
  refine r_icmp_lt (tgt := 16) rfl rfl (fun qc3_1 => ?_) (fun qc3_1 => ?_)
  · skip
    refine XS.go (s_iconst (v := 0) rfl rfl) ?_
    refine XR.retz rfl rfl (by decide) (fun hret => ⟨_, hret, ?_⟩)
    exact ⟨rfl, (by unfold v_isDigit; rw [if_pos qc3_1])⟩
  · skip
    refine XS.go (s_iloadn rfl rfl rfl) ?_
    refine XS.go (s_bipush (v := 57) rfl rfl) ?_
    refine r_icmp_gt (tgt := 16) rfl rfl (fun qc9_2 => ?_) (fun qc9_2 => ?_)
    · skip
      refine XS.go (s_iconst (v := 0) rfl rfl) ?_
      refine XR.retz rfl rfl (by decide) (fun hret => ⟨_, hret, ?_⟩)
      exact ⟨rfl, (by unfold v_isDigit; rw [if_neg qc3_1, if_pos qc9_2])⟩
    · skip
      refine XS.go (s_iconst (v := 1) rfl rfl) ?_
      refine XS.go (s_goto (tgt := 17) rfl rfl) ?_
      refine XR.retz rfl rfl (by decide) (fun hret => ⟨_, hret, ?_⟩)
      exact ⟨rfl, (by unfold v_isDigit; rw [if_neg qc3_1, if_neg qc9_2])⟩
def v_isLetter (c : Int32) : Int32 := (if c < 97 then (if c < 65 then (if ¬ c = 95 then 0 else 1) else (if c ≤ 90 then 1 else (if ¬ c = 95 then 0 else 1))) else (if c ≤ 122 then 1 else (if c < 65 then (if ¬ c = 95 then 0 else 1) else (if c ≤ 90 then 1 else (if ¬ c = 95 then 0 else 1)))))
set_option maxRecDepth 20000 in
theorem k_isLetter {l : Launch} {G : XG} {h : XH} {d : Nat} {c : Int32} : XC l G xEX12_isLetter d [.int c] h (fun v h2 => h = h2 ∧ v = some (.int (v_isLetter c))) := by
  refine XC.stat xsX12_isLetter (Nat.le_of_ble_eq_true rfl) ?_
  refine XS.go (s_iloadn rfl rfl rfl) ?_
  refine XS.go (s_bipush (v := 97) rfl rfl) ?_
  refine r_icmp_lt (tgt := 12) rfl rfl (fun qc3_1 => ?_) (fun qc3_1 => ?_)
  · skip
    refine XS.go (s_iloadn rfl rfl rfl) ?_
    refine XS.go (s_bipush (v := 65) rfl rfl) ?_
    refine r_icmp_lt (tgt := 24) rfl rfl (fun qc15_2 => ?_) (fun qc15_2 => ?_)
    · skip
      refine XS.go (s_iloadn rfl rfl rfl) ?_
      refine XS.go (s_bipush (v := 95) rfl rfl) ?_
      refine r_icmp_ne (tgt := 34) rfl rfl (fun qc27_3 => ?_) (fun qc27_3 => ?_)
      · skip
        refine XS.go (s_iconst (v := 0) rfl rfl) ?_
        refine XR.retz rfl rfl (by decide) (fun hret => ⟨_, hret, ?_⟩)
        exact ⟨rfl, (by unfold v_isLetter; rw [if_pos qc3_1, if_pos qc15_2, if_pos qc27_3])⟩
      · skip
        refine XS.go (s_iconst (v := 1) rfl rfl) ?_
        refine XS.go (s_goto (tgt := 35) rfl rfl) ?_
        refine XR.retz rfl rfl (by decide) (fun hret => ⟨_, hret, ?_⟩)
        exact ⟨rfl, (by unfold v_isLetter; rw [if_pos qc3_1, if_pos qc15_2, if_neg qc27_3])⟩
    · skip
      refine XS.go (s_iloadn rfl rfl rfl) ?_
      refine XS.go (s_bipush (v := 90) rfl rfl) ?_
      refine r_icmp_le (tgt := 30) rfl rfl (fun qc21_4 => ?_) (fun qc21_4 => ?_)
      · skip
        refine XS.go (s_iconst (v := 1) rfl rfl) ?_
        refine XS.go (s_goto (tgt := 35) rfl rfl) ?_
        refine XR.retz rfl rfl (by decide) (fun hret => ⟨_, hret, ?_⟩)
        exact ⟨rfl, (by unfold v_isLetter; rw [if_pos qc3_1, if_neg qc15_2, if_pos qc21_4])⟩
      · skip
        refine XS.go (s_iloadn rfl rfl rfl) ?_
        refine XS.go (s_bipush (v := 95) rfl rfl) ?_
        refine r_icmp_ne (tgt := 34) rfl rfl (fun qc27_5 => ?_) (fun qc27_5 => ?_)
        · skip
          refine XS.go (s_iconst (v := 0) rfl rfl) ?_
          refine XR.retz rfl rfl (by decide) (fun hret => ⟨_, hret, ?_⟩)
          exact ⟨rfl, (by unfold v_isLetter; rw [if_pos qc3_1, if_neg qc15_2, if_neg qc21_4, if_pos qc27_5])⟩
        · skip
          refine XS.go (s_iconst (v := 1) rfl rfl) ?_
          refine XS.go (s_goto (tgt := 35) rfl rfl) ?_
          refine XR.retz rfl rfl (by decide) (fun hret => ⟨_, hret, ?_⟩)
          exact ⟨rfl, (by unfold v_isLetter; rw [if_pos qc3_1, if_neg qc15_2, if_neg qc21_4, if_neg qc27_5])⟩
  · skip
    refine XS.go (s_iloadn rfl rfl rfl) ?_
    refine XS.go (s_bipush (v := 122) rfl rfl) ?_
    refine r_icmp_le (tgt := 30) rfl rfl (fun qc9_6 => ?_) (fun qc9_6 => ?_)
    · skip
      refine XS.go (s_iconst (v := 1) rfl rfl) ?_
      refine XS.go (s_goto (tgt := 35) rfl rfl) ?_
      refine XR.retz rfl rfl (by decide) (fun hret => ⟨_, hret, ?_⟩)
      exact ⟨rfl, (by unfold v_isLetter; rw [if_neg qc3_1, if_pos qc9_6])⟩
    · skip
      refine XS.go (s_iloadn rfl rfl rfl) ?_
      refine XS.go (s_bipush (v := 65) rfl rfl) ?_
      refine r_icmp_lt (tgt := 24) rfl rfl (fun qc15_7 => ?_) (fun qc15_7 => ?_)
      · skip
        refine XS.go (s_iloadn rfl rfl rfl) ?_
        refine XS.go (s_bipush (v := 95) rfl rfl) ?_
        refine r_icmp_ne (tgt := 34) rfl rfl (fun qc27_8 => ?_) (fun qc27_8 => ?_)
        · skip
          refine XS.go (s_iconst (v := 0) rfl rfl) ?_
          refine XR.retz rfl rfl (by decide) (fun hret => ⟨_, hret, ?_⟩)
          exact ⟨rfl, (by unfold v_isLetter; rw [if_neg qc3_1, if_neg qc9_6, if_pos qc15_7, if_pos qc27_8])⟩
        · skip
          refine XS.go (s_iconst (v := 1) rfl rfl) ?_
          refine XS.go (s_goto (tgt := 35) rfl rfl) ?_
          refine XR.retz rfl rfl (by decide) (fun hret => ⟨_, hret, ?_⟩)
          exact ⟨rfl, (by unfold v_isLetter; rw [if_neg qc3_1, if_neg qc9_6, if_pos qc15_7, if_neg qc27_8])⟩
      · skip
        refine XS.go (s_iloadn rfl rfl rfl) ?_
        refine XS.go (s_bipush (v := 90) rfl rfl) ?_
        refine r_icmp_le (tgt := 30) rfl rfl (fun qc21_9 => ?_) (fun qc21_9 => ?_)
        · skip
          refine XS.go (s_iconst (v := 1) rfl rfl) ?_
          refine XS.go (s_goto (tgt := 35) rfl rfl) ?_
          refine XR.retz rfl rfl (by decide) (fun hret => ⟨_, hret, ?_⟩)
          exact ⟨rfl, (by unfold v_isLetter; rw [if_neg qc3_1, if_neg qc9_6, if_neg qc15_7, if_pos qc21_9])⟩
        · skip
          refine XS.go (s_iloadn rfl rfl rfl) ?_
          refine XS.go (s_bipush (v := 95) rfl rfl) ?_
          refine r_icmp_ne (tgt := 34) rfl rfl (fun qc27_10 => ?_) (fun qc27_10 => ?_)
          · skip
            refine XS.go (s_iconst (v := 0) rfl rfl) ?_
            refine XR.retz rfl rfl (by decide) (fun hret => ⟨_, hret, ?_⟩)
            exact ⟨rfl, (by unfold v_isLetter; rw [if_neg qc3_1, if_neg qc9_6, if_neg qc15_7, if_neg qc21_9, if_pos qc27_10])⟩
          · skip
            refine XS.go (s_iconst (v := 1) rfl rfl) ?_
            refine XS.go (s_goto (tgt := 35) rfl rfl) ?_
            refine XR.retz rfl rfl (by decide) (fun hret => ⟨_, hret, ?_⟩)
            exact ⟨rfl, (by unfold v_isLetter; rw [if_neg qc3_1, if_neg qc9_6, if_neg qc15_7, if_neg qc21_9, if_neg qc27_10])⟩
def v_upTo (p : Int32) (a : Int32) : Int32 := ((((p + a) - 1) / a) * a)
set_option maxRecDepth 20000 in
theorem k_upTo {l : Launch} {G : XG} {h : XH} {d : Nat} {p : Int32} {a : Int32} (ha : ¬ a = 0) : XC l G xEX12_upTo d [.int p, .int a] h (fun v h2 => h = h2 ∧ v = some (.int (v_upTo p a))) := by
  refine XC.stat xsX12_upTo (Nat.le_of_ble_eq_true rfl) ?_
  refine XS.go (s_iloadn rfl rfl rfl) ?_
  refine XS.go (s_iloadn rfl rfl rfl) ?_
  refine XS.go (s_iadd rfl) ?_
  refine XS.go (s_iconst (v := 1) rfl rfl) ?_
  refine XS.go (s_isub rfl) ?_
  refine XS.go (s_iloadn rfl rfl rfl) ?_
  refine XS.go (s_idiv (by decide) rfl) ?_
  refine XS.go (s_iloadn rfl rfl rfl) ?_
  refine XS.go (s_imul rfl) ?_
  refine XR.reti rfl rfl (fun hret => ⟨_, hret, ?_⟩)
  exact ⟨rfl, rfl⟩
def v_bytesOf (c : Int32) : Int32 := (if 2 < c then (if 4 < c then (if c ≤ 6 then 4 else (if ¬ c = 9 then 8 else 4)) else 2) else 1)
set_option maxRecDepth 20000 in
theorem k_bytesOf {l : Launch} {G : XG} {h : XH} {d : Nat} {c : Int32} : XC l G xEX12_bytesOf d [.int c] h (fun v h2 => h = h2 ∧ v = some (.int (v_bytesOf c))) := by
  refine XC.stat xsX12_bytesOf (Nat.le_of_ble_eq_true rfl) ?_
  refine XS.go (s_iloadn rfl rfl rfl) ?_
  refine XS.go (s_iconst (v := 2) rfl rfl) ?_
  refine r_icmp_gt (tgt := 9) rfl rfl (fun qc2_1 => ?_) (fun qc2_1 => ?_)
  · skip
    refine XS.go (s_iloadn rfl rfl rfl) ?_
    refine XS.go (s_iconst (v := 4) rfl rfl) ?_
    refine r_icmp_gt (tgt := 18) rfl rfl (fun qc11_2 => ?_) (fun qc11_2 => ?_)
    · skip
      refine XS.go (s_iloadn rfl rfl rfl) ?_
      refine XS.go (s_bipush (v := 6) rfl rfl) ?_
      refine r_icmp_le (tgt := 30) rfl rfl (fun qc21_3 => ?_) (fun qc21_3 => ?_)
      · skip
        refine XS.go (s_iconst (v := 4) rfl rfl) ?_
        refine XS.go (s_goto (tgt := 36) rfl rfl) ?_
        refine XR.reti rfl rfl (fun hret => ⟨_, hret, ?_⟩)
        exact ⟨rfl, (by unfold v_bytesOf; rw [if_pos qc2_1, if_pos qc11_2, if_pos qc21_3])⟩
      · skip
        refine XS.go (s_iloadn rfl rfl rfl) ?_
        refine XS.go (s_bipush (v := 9) rfl rfl) ?_
        refine r_icmp_ne (tgt := 34) rfl rfl (fun qc27_4 => ?_) (fun qc27_4 => ?_)
        · skip
          refine XS.go (s_bipush (v := 8) rfl rfl) ?_
          refine XR.reti rfl rfl (fun hret => ⟨_, hret, ?_⟩)
          exact ⟨rfl, (by unfold v_bytesOf; rw [if_pos qc2_1, if_pos qc11_2, if_neg qc21_3, if_pos qc27_4])⟩
        · skip
          refine XS.go (s_iconst (v := 4) rfl rfl) ?_
          refine XS.go (s_goto (tgt := 36) rfl rfl) ?_
          refine XR.reti rfl rfl (fun hret => ⟨_, hret, ?_⟩)
          exact ⟨rfl, (by unfold v_bytesOf; rw [if_pos qc2_1, if_pos qc11_2, if_neg qc21_3, if_neg qc27_4])⟩
    · skip
      refine XS.go (s_iconst (v := 2) rfl rfl) ?_
      refine XS.go (s_goto (tgt := 36) rfl rfl) ?_
      refine XR.reti rfl rfl (fun hret => ⟨_, hret, ?_⟩)
      exact ⟨rfl, (by unfold v_bytesOf; rw [if_pos qc2_1, if_neg qc11_2])⟩
  · skip
    refine XS.go (s_iconst (v := 1) rfl rfl) ?_
    refine XS.go (s_goto (tgt := 36) rfl rfl) ?_
    refine XR.reti rfl rfl (fun hret => ⟨_, hret, ?_⟩)
    exact ⟨rfl, (by unfold v_bytesOf; rw [if_neg qc2_1])⟩
def m_lexeme (h : XH) (a : Int32) (b : Int32) (c : Int32) (e : Int32) : XH := (hsi (hsi (hsi (hsi (hsi h 1266 (Int32.toNatClampNeg (hi h 1262 12)) a) 1267 (Int32.toNatClampNeg (hi h 1262 12)) b) 1268 (Int32.toNatClampNeg (hi h 1262 12)) c) 1269 (Int32.toNatClampNeg (hi h 1262 12)) e) 1262 12 ((hi h 1262 12) + 1))
set_option maxRecDepth 20000 in
theorem k_lexeme {l : Launch} {G : XG} {h : XH} {d : Nat} {a : Int32} {b : Int32} {c : Int32} {e : Int32} (L0 : LY h) {x12 : Nat} (ex12 : hi h 1262 12 = nI x12) (lx12 : x12 < 4001) : XC l G xEX12_lexeme d [.ref 1262, .int a, .int b, .int c, .int e] h (fun v h2 => h2 = m_lexeme h a b c e ∧ v = none) := by
  refine XC.virt xvX12_lexeme (Nat.le_of_ble_eq_true rfl) ?_
  refine XS.go (s_aloadn rfl rfl rfl) ?_
  refine XS.go (s_getr rfl xf12_19 (LY.lt L0 (by decide)) (LY.k1262 L0) (by decide) rfl (LY.r1262_8 L0)) ?_
  refine XS.go (s_aloadn rfl rfl rfl) ?_
  refine XS.go (s_getie rfl xf12_184 (LY.lt L0 (by decide)) (LY.k1262 L0) (by decide) rfl rfl) ?_
  refine XS.go (s_iloadn rfl rfl rfl) ?_
  refine XS.go (s_iast rfl (LY.lt L0 (by decide)) (LY.k1266 L0) (inN (LY.n1266 L0) ex12 lx12 (by decide))) ?_
  refine XS.go (s_aloadn rfl rfl rfl) ?_
  refine XS.go (s_getr rfl xf12_22 (LY.lt (by simp only [LY_si, LY_sj]; exact L0) (by decide)) (LY.k1262 (by simp only [LY_si, LY_sj]; exact L0)) (by decide) rfl (LY.r1262_9 (by simp only [LY_si, LY_sj]; exact L0))) ?_
  refine XS.go (s_aloadn rfl rfl rfl) ?_
  refine XS.go (s_getie rfl xf12_184 (LY.lt (by simp only [LY_si, LY_sj]; exact L0) (by decide)) (LY.k1262 (by simp only [LY_si, LY_sj]; exact L0)) (by decide) rfl (hi_hsi_na (by decide))) ?_
  refine XS.go (s_iloadn rfl rfl rfl) ?_
  refine XS.go (s_iast rfl (LY.lt (by simp only [LY_si, LY_sj]; exact L0) (by decide)) (LY.k1267 (by simp only [LY_si, LY_sj]; exact L0)) (inN (LY.n1267 (by simp only [LY_si, LY_sj]; exact L0)) ex12 lx12 (by decide))) ?_
  refine XS.go (s_aloadn rfl rfl rfl) ?_
  refine XS.go (s_getr rfl xf12_25 (LY.lt (by simp only [LY_si, LY_sj]; exact L0) (by decide)) (LY.k1262 (by simp only [LY_si, LY_sj]; exact L0)) (by decide) rfl (LY.r1262_10 (by simp only [LY_si, LY_sj]; exact L0))) ?_
  refine XS.go (s_aloadn rfl rfl rfl) ?_
  refine XS.go (s_getie rfl xf12_184 (LY.lt (by simp only [LY_si, LY_sj]; exact L0) (by decide)) (LY.k1262 (by simp only [LY_si, LY_sj]; exact L0)) (by decide) rfl ((hi_hsi_na (by decide)).trans (hi_hsi_na (by decide)))) ?_
  refine XS.go (s_iloadn rfl rfl rfl) ?_
  refine XS.go (s_iast rfl (LY.lt (by simp only [LY_si, LY_sj]; exact L0) (by decide)) (LY.k1268 (by simp only [LY_si, LY_sj]; exact L0)) (inN (LY.n1268 (by simp only [LY_si, LY_sj]; exact L0)) ex12 lx12 (by decide))) ?_
  refine XS.go (s_aloadn rfl rfl rfl) ?_
  refine XS.go (s_getr rfl xf12_28 (LY.lt (by simp only [LY_si, LY_sj]; exact L0) (by decide)) (LY.k1262 (by simp only [LY_si, LY_sj]; exact L0)) (by decide) rfl (LY.r1262_11 (by simp only [LY_si, LY_sj]; exact L0))) ?_
  refine XS.go (s_aloadn rfl rfl rfl) ?_
  refine XS.go (s_getie rfl xf12_184 (LY.lt (by simp only [LY_si, LY_sj]; exact L0) (by decide)) (LY.k1262 (by simp only [LY_si, LY_sj]; exact L0)) (by decide) rfl ((hi_hsi_na (by decide)).trans ((hi_hsi_na (by decide)).trans (hi_hsi_na (by decide))))) ?_
  refine XS.go (s_iload rfl rfl) ?_
  refine XS.go (s_iast rfl (LY.lt (by simp only [LY_si, LY_sj]; exact L0) (by decide)) (LY.k1269 (by simp only [LY_si, LY_sj]; exact L0)) (inN (LY.n1269 (by simp only [LY_si, LY_sj]; exact L0)) ex12 lx12 (by decide))) ?_
  refine XS.go (s_aloadn rfl rfl rfl) ?_
  refine XS.go (s_dup rfl rfl) ?_
  refine XS.go (s_getie rfl xf12_184 (LY.lt (by simp only [LY_si, LY_sj]; exact L0) (by decide)) (LY.k1262 (by simp only [LY_si, LY_sj]; exact L0)) (by decide) rfl ((hi_hsi_na (by decide)).trans ((hi_hsi_na (by decide)).trans ((hi_hsi_na (by decide)).trans (hi_hsi_na (by decide)))))) ?_
  refine XS.go (s_iconst (v := 1) rfl rfl) ?_
  refine XS.go (s_iadd rfl) ?_
  refine XS.go (s_puti rfl xf12_184 (LY.lt (by simp only [LY_si, LY_sj]; exact L0) (by decide)) (LY.k1262 (by simp only [LY_si, LY_sj]; exact L0)) (by decide) rfl (Or.inl rfl)) ?_
  refine XR.retv rfl rfl (fun hret => ⟨_, hret, ?_⟩)
  exact ⟨rfl, rfl⟩
theorem LY_m_lexeme {h : XH} {a : Int32} {b : Int32} {c : Int32} {e : Int32} : LY (m_lexeme h a b c e) = LY h := by
  unfold m_lexeme
  (repeat' split) <;> simp only [LY_si, LY_sj]
def m_flaw (h : XH) (a : Int32) : XH := (if ¬ (hi h 1262 14) = 0 then h else (hsi (hsi h 1262 14 a) 1262 15 (hi h 1267 (Int32.toNatClampNeg (hi h 1262 13)))))
set_option maxRecDepth 20000 in
theorem k_flaw {l : Launch} {G : XG} {h : XH} {d : Nat} {a : Int32} (L0 : LY h) {x13 : Nat} (ex13 : hi h 1262 13 = nI x13) (lx13 : x13 < 4001) : XC l G xEX12_flaw d [.ref 1262, .int a] h (fun v h2 => h2 = m_flaw h a ∧ v = none) := by
  refine XC.virt xvX12_flaw (Nat.le_of_ble_eq_true rfl) ?_
  refine XS.go (s_aloadn rfl rfl rfl) ?_
  refine XS.go (s_getie rfl xf12_221 (LY.lt L0 (by decide)) (LY.k1262 L0) (by decide) rfl rfl) ?_
  refine r_if_ne (tgt := 25) rfl rfl (fun qc4_1 => ?_) (fun qc4_1 => ?_)
  · skip
    refine XR.retv rfl rfl (fun hret => ⟨_, hret, ?_⟩)
    exact ⟨(by unfold m_flaw; rw [if_pos qc4_1]), rfl⟩
  · skip
    refine XS.go (s_aloadn rfl rfl rfl) ?_
    refine XS.go (s_iloadn rfl rfl rfl) ?_
    refine XS.go (s_puti rfl xf12_221 (LY.lt L0 (by decide)) (LY.k1262 L0) (by decide) rfl (Or.inl rfl)) ?_
    refine XS.go (s_aloadn rfl rfl rfl) ?_
    refine XS.go (s_aloadn rfl rfl rfl) ?_
    refine XS.go (s_getr rfl xf12_22 (LY.lt (by simp only [LY_si, LY_sj]; exact L0) (by decide)) (LY.k1262 (by simp only [LY_si, LY_sj]; exact L0)) (by decide) rfl (LY.r1262_9 (by simp only [LY_si, LY_sj]; exact L0))) ?_
    refine XS.go (s_aloadn rfl rfl rfl) ?_
    refine XS.go (s_getie rfl xf12_224 (LY.lt (by simp only [LY_si, LY_sj]; exact L0) (by decide)) (LY.k1262 (by simp only [LY_si, LY_sj]; exact L0)) (by decide) rfl (hi_hsi_nk (by decide))) ?_
    refine XS.go (s_ialde rfl (LY.lt (by simp only [LY_si, LY_sj]; exact L0) (by decide)) (LY.k1267 (by simp only [LY_si, LY_sj]; exact L0)) (inN (LY.n1267 (by simp only [LY_si, LY_sj]; exact L0)) ex13 lx13 (by decide)) (hi_hsi_na (by decide))) ?_
    refine XS.go (s_puti rfl xf12_227 (LY.lt (by simp only [LY_si, LY_sj]; exact L0) (by decide)) (LY.k1262 (by simp only [LY_si, LY_sj]; exact L0)) (by decide) rfl (Or.inl rfl)) ?_
    refine XR.retv rfl rfl (fun hret => ⟨_, hret, ?_⟩)
    exact ⟨(by unfold m_flaw; rw [if_neg qc4_1]), rfl⟩
theorem LY_m_flaw {h : XH} {a : Int32} : LY (m_flaw h a) = LY h := by
  unfold m_flaw
  (repeat' split) <;> simp only [LY_si, LY_sj]
def m_misfit (h : XH) : XH := (if ¬ (hi h 1266 (Int32.toNatClampNeg (hi h 1262 13))) = 1 then (m_flaw h 2) else (m_flaw h 1))
set_option maxRecDepth 20000 in
theorem k_misfit {l : Launch} {G : XG} {h : XH} {d : Nat} (L0 : LY h) {x13 : Nat} (ex13 : hi h 1262 13 = nI x13) (lx13 : x13 < 4001) : XC l G xEX12_misfit (d + 1) [.ref 1262] h (fun v h2 => h2 = m_misfit h ∧ v = none) := by
  refine XC.virt xvX12_misfit (Nat.le_of_ble_eq_true rfl) ?_
  refine XS.go (s_aloadn rfl rfl rfl) ?_
  refine XS.go (s_aloadn rfl rfl rfl) ?_
  refine XS.go (s_getr rfl xf12_19 (LY.lt L0 (by decide)) (LY.k1262 L0) (by decide) rfl (LY.r1262_8 L0)) ?_
  refine XS.go (s_aloadn rfl rfl rfl) ?_
  refine XS.go (s_getie rfl xf12_224 (LY.lt L0 (by decide)) (LY.k1262 L0) (by decide) rfl rfl) ?_
  refine XS.go (s_ialde rfl (LY.lt L0 (by decide)) (LY.k1266 L0) (inN (LY.n1266 L0) ex13 lx13 (by decide)) rfl) ?_
  refine XS.go (s_iconst (v := 1) rfl rfl) ?_
  refine r_icmp_ne (tgt := 18) rfl rfl (fun qc11_1 => ?_) (fun qc11_1 => ?_)
  · skip
    refine XS.go (s_iconst (v := 2) rfl rfl) ?_
    refine r_callv rfl xvX12_flaw xm12_230 (k_flaw (d := d) L0 ex13 lx13) (LY.lt L0 (by decide)) (LY.k1262 L0) (by decide) rfl rfl (by omega) (by decide) (Nat.le_of_ble_eq_true rfl) ?_
    rintro _ _ ⟨rfl, rfl⟩
    refine XR.retv rfl rfl (fun hret => ⟨_, hret, ?_⟩)
    exact ⟨(by unfold m_misfit; rw [if_pos qc11_1]), rfl⟩
  · skip
    refine XS.go (s_iconst (v := 1) rfl rfl) ?_
    refine XS.go (s_goto (tgt := 19) rfl rfl) ?_
    refine r_callv rfl xvX12_flaw xm12_230 (k_flaw (d := d) L0 ex13 lx13) (LY.lt L0 (by decide)) (LY.k1262 L0) (by decide) rfl rfl (by omega) (by decide) (Nat.le_of_ble_eq_true rfl) ?_
    rintro _ _ ⟨rfl, rfl⟩
    refine XR.retv rfl rfl (fun hret => ⟨_, hret, ?_⟩)
    exact ⟨(by unfold m_misfit; rw [if_neg qc11_1]), rfl⟩
theorem LY_m_misfit {h : XH} : LY (m_misfit h) = LY h := by
  unfold m_misfit
  (repeat' split) <;> simp only [LY_si, LY_sj, LY_m_flaw]
def v_isSign (h : XH) (c : Int32) : Int32 := (if ¬ (hi h 1262 14) = 0 then 0 else (if ¬ (hi h 1266 (Int32.toNatClampNeg (hi h 1262 13))) = 4 then 0 else (if ¬ (hi h 1269 (Int32.toNatClampNeg (hi h 1262 13))) = c then 0 else 1)))
set_option maxRecDepth 20000 in
theorem k_isSign {l : Launch} {G : XG} {h : XH} {d : Nat} {c : Int32} (L0 : LY h) {x13 : Nat} (ex13 : hi h 1262 13 = nI x13) (lx13 : x13 < 4001) : XC l G xEX12_isSign d [.ref 1262, .int c] h (fun v h2 => h = h2 ∧ v = some (.int (v_isSign h c))) := by
  refine XC.virt xvX12_isSign (Nat.le_of_ble_eq_true rfl) ?_
  refine XS.go (s_aloadn rfl rfl rfl) ?_
  refine XS.go (s_getie rfl xf12_221 (LY.lt L0 (by decide)) (LY.k1262 L0) (by decide) rfl rfl) ?_
  refine r_if_ne (tgt := 37) rfl rfl (fun qc4_1 => ?_) (fun qc4_1 => ?_)
  · skip
    refine XS.go (s_iconst (v := 0) rfl rfl) ?_
    refine XR.retz rfl rfl (by decide) (fun hret => ⟨_, hret, ?_⟩)
    exact ⟨rfl, (by unfold v_isSign; rw [if_pos qc4_1])⟩
  · skip
    refine XS.go (s_aloadn rfl rfl rfl) ?_
    refine XS.go (s_getr rfl xf12_19 (LY.lt L0 (by decide)) (LY.k1262 L0) (by decide) rfl (LY.r1262_8 L0)) ?_
    refine XS.go (s_aloadn rfl rfl rfl) ?_
    refine XS.go (s_getie rfl xf12_224 (LY.lt L0 (by decide)) (LY.k1262 L0) (by decide) rfl rfl) ?_
    refine XS.go (s_ialde rfl (LY.lt L0 (by decide)) (LY.k1266 L0) (inN (LY.n1266 L0) ex13 lx13 (by decide)) rfl) ?_
    refine XS.go (s_iconst (v := 4) rfl rfl) ?_
    refine r_icmp_ne (tgt := 37) rfl rfl (fun qc17_2 => ?_) (fun qc17_2 => ?_)
    · skip
      refine XS.go (s_iconst (v := 0) rfl rfl) ?_
      refine XR.retz rfl rfl (by decide) (fun hret => ⟨_, hret, ?_⟩)
      exact ⟨rfl, (by unfold v_isSign; rw [if_neg qc4_1, if_pos qc17_2])⟩
    · skip
      refine XS.go (s_aloadn rfl rfl rfl) ?_
      refine XS.go (s_getr rfl xf12_28 (LY.lt L0 (by decide)) (LY.k1262 L0) (by decide) rfl (LY.r1262_11 L0)) ?_
      refine XS.go (s_aloadn rfl rfl rfl) ?_
      refine XS.go (s_getie rfl xf12_224 (LY.lt L0 (by decide)) (LY.k1262 L0) (by decide) rfl rfl) ?_
      refine XS.go (s_ialde rfl (LY.lt L0 (by decide)) (LY.k1269 L0) (inN (LY.n1269 L0) ex13 lx13 (by decide)) rfl) ?_
      refine XS.go (s_iloadn rfl rfl rfl) ?_
      refine r_icmp_ne (tgt := 37) rfl rfl (fun qc30_3 => ?_) (fun qc30_3 => ?_)
      · skip
        refine XS.go (s_iconst (v := 0) rfl rfl) ?_
        refine XR.retz rfl rfl (by decide) (fun hret => ⟨_, hret, ?_⟩)
        exact ⟨rfl, (by unfold v_isSign; rw [if_neg qc4_1, if_neg qc17_2, if_pos qc30_3])⟩
      · skip
        refine XS.go (s_iconst (v := 1) rfl rfl) ?_
        refine XS.go (s_goto (tgt := 38) rfl rfl) ?_
        refine XR.retz rfl rfl (by decide) (fun hret => ⟨_, hret, ?_⟩)
        exact ⟨rfl, (by unfold v_isSign; rw [if_neg qc4_1, if_neg qc17_2, if_neg qc30_3])⟩
def v_isWord (h : XH) (c : Int32) : Int32 := (if ¬ (hi h 1262 14) = 0 then 0 else (if ¬ (hi h 1266 (Int32.toNatClampNeg (hi h 1262 13))) = 2 then 0 else (if ¬ (hi h 1269 (Int32.toNatClampNeg (hi h 1262 13))) = c then 0 else 1)))
set_option maxRecDepth 20000 in
theorem k_isWord {l : Launch} {G : XG} {h : XH} {d : Nat} {c : Int32} (L0 : LY h) {x13 : Nat} (ex13 : hi h 1262 13 = nI x13) (lx13 : x13 < 4001) : XC l G xEX12_isWord d [.ref 1262, .int c] h (fun v h2 => h = h2 ∧ v = some (.int (v_isWord h c))) := by
  refine XC.virt xvX12_isWord (Nat.le_of_ble_eq_true rfl) ?_
  refine XS.go (s_aloadn rfl rfl rfl) ?_
  refine XS.go (s_getie rfl xf12_221 (LY.lt L0 (by decide)) (LY.k1262 L0) (by decide) rfl rfl) ?_
  refine r_if_ne (tgt := 37) rfl rfl (fun qc4_1 => ?_) (fun qc4_1 => ?_)
  · skip
    refine XS.go (s_iconst (v := 0) rfl rfl) ?_
    refine XR.retz rfl rfl (by decide) (fun hret => ⟨_, hret, ?_⟩)
    exact ⟨rfl, (by unfold v_isWord; rw [if_pos qc4_1])⟩
  · skip
    refine XS.go (s_aloadn rfl rfl rfl) ?_
    refine XS.go (s_getr rfl xf12_19 (LY.lt L0 (by decide)) (LY.k1262 L0) (by decide) rfl (LY.r1262_8 L0)) ?_
    refine XS.go (s_aloadn rfl rfl rfl) ?_
    refine XS.go (s_getie rfl xf12_224 (LY.lt L0 (by decide)) (LY.k1262 L0) (by decide) rfl rfl) ?_
    refine XS.go (s_ialde rfl (LY.lt L0 (by decide)) (LY.k1266 L0) (inN (LY.n1266 L0) ex13 lx13 (by decide)) rfl) ?_
    refine XS.go (s_iconst (v := 2) rfl rfl) ?_
    refine r_icmp_ne (tgt := 37) rfl rfl (fun qc17_2 => ?_) (fun qc17_2 => ?_)
    · skip
      refine XS.go (s_iconst (v := 0) rfl rfl) ?_
      refine XR.retz rfl rfl (by decide) (fun hret => ⟨_, hret, ?_⟩)
      exact ⟨rfl, (by unfold v_isWord; rw [if_neg qc4_1, if_pos qc17_2])⟩
    · skip
      refine XS.go (s_aloadn rfl rfl rfl) ?_
      refine XS.go (s_getr rfl xf12_28 (LY.lt L0 (by decide)) (LY.k1262 L0) (by decide) rfl (LY.r1262_11 L0)) ?_
      refine XS.go (s_aloadn rfl rfl rfl) ?_
      refine XS.go (s_getie rfl xf12_224 (LY.lt L0 (by decide)) (LY.k1262 L0) (by decide) rfl rfl) ?_
      refine XS.go (s_ialde rfl (LY.lt L0 (by decide)) (LY.k1269 L0) (inN (LY.n1269 L0) ex13 lx13 (by decide)) rfl) ?_
      refine XS.go (s_iloadn rfl rfl rfl) ?_
      refine r_icmp_ne (tgt := 37) rfl rfl (fun qc30_3 => ?_) (fun qc30_3 => ?_)
      · skip
        refine XS.go (s_iconst (v := 0) rfl rfl) ?_
        refine XR.retz rfl rfl (by decide) (fun hret => ⟨_, hret, ?_⟩)
        exact ⟨rfl, (by unfold v_isWord; rw [if_neg qc4_1, if_neg qc17_2, if_pos qc30_3])⟩
      · skip
        refine XS.go (s_iconst (v := 1) rfl rfl) ?_
        refine XS.go (s_goto (tgt := 38) rfl rfl) ?_
        refine XR.retz rfl rfl (by decide) (fun hret => ⟨_, hret, ?_⟩)
        exact ⟨rfl, (by unfold v_isWord; rw [if_neg qc4_1, if_neg qc17_2, if_neg qc30_3])⟩
def v_isScalar (h : XH) : Int32 := (if ¬ (hi h 1262 14) = 0 then 0 else (if ¬ (hi h 1266 (Int32.toNatClampNeg (hi h 1262 13))) = 2 then 0 else (if (hi h 1269 (Int32.toNatClampNeg (hi h 1262 13))) < 0 then 0 else (if 11 ≤ (hi h 1269 (Int32.toNatClampNeg (hi h 1262 13))) then 0 else 1))))
set_option maxRecDepth 20000 in
theorem k_isScalar {l : Launch} {G : XG} {h : XH} {d : Nat} (L0 : LY h) {x13 : Nat} (ex13 : hi h 1262 13 = nI x13) (lx13 : x13 < 4001) : XC l G xEX12_isScalar d [.ref 1262] h (fun v h2 => h = h2 ∧ v = some (.int (v_isScalar h))) := by
  refine XC.virt xvX12_isScalar (Nat.le_of_ble_eq_true rfl) ?_
  refine XS.go (s_aloadn rfl rfl rfl) ?_
  refine XS.go (s_getie rfl xf12_221 (LY.lt L0 (by decide)) (LY.k1262 L0) (by decide) rfl rfl) ?_
  refine r_if_ne (tgt := 50) rfl rfl (fun qc4_1 => ?_) (fun qc4_1 => ?_)
  · skip
    refine XS.go (s_iconst (v := 0) rfl rfl) ?_
    refine XR.retz rfl rfl (by decide) (fun hret => ⟨_, hret, ?_⟩)
    exact ⟨rfl, (by unfold v_isScalar; rw [if_pos qc4_1])⟩
  · skip
    refine XS.go (s_aloadn rfl rfl rfl) ?_
    refine XS.go (s_getr rfl xf12_19 (LY.lt L0 (by decide)) (LY.k1262 L0) (by decide) rfl (LY.r1262_8 L0)) ?_
    refine XS.go (s_aloadn rfl rfl rfl) ?_
    refine XS.go (s_getie rfl xf12_224 (LY.lt L0 (by decide)) (LY.k1262 L0) (by decide) rfl rfl) ?_
    refine XS.go (s_ialde rfl (LY.lt L0 (by decide)) (LY.k1266 L0) (inN (LY.n1266 L0) ex13 lx13 (by decide)) rfl) ?_
    refine XS.go (s_iconst (v := 2) rfl rfl) ?_
    refine r_icmp_ne (tgt := 50) rfl rfl (fun qc17_2 => ?_) (fun qc17_2 => ?_)
    · skip
      refine XS.go (s_iconst (v := 0) rfl rfl) ?_
      refine XR.retz rfl rfl (by decide) (fun hret => ⟨_, hret, ?_⟩)
      exact ⟨rfl, (by unfold v_isScalar; rw [if_neg qc4_1, if_pos qc17_2])⟩
    · skip
      refine XS.go (s_aloadn rfl rfl rfl) ?_
      refine XS.go (s_getr rfl xf12_28 (LY.lt L0 (by decide)) (LY.k1262 L0) (by decide) rfl (LY.r1262_11 L0)) ?_
      refine XS.go (s_aloadn rfl rfl rfl) ?_
      refine XS.go (s_getie rfl xf12_224 (LY.lt L0 (by decide)) (LY.k1262 L0) (by decide) rfl rfl) ?_
      refine XS.go (s_ialde rfl (LY.lt L0 (by decide)) (LY.k1269 L0) (inN (LY.n1269 L0) ex13 lx13 (by decide)) rfl) ?_
      refine r_if_lt (tgt := 50) rfl rfl (fun qc29_3 => ?_) (fun qc29_3 => ?_)
      · skip
        refine XS.go (s_iconst (v := 0) rfl rfl) ?_
        refine XR.retz rfl rfl (by decide) (fun hret => ⟨_, hret, ?_⟩)
        exact ⟨rfl, (by unfold v_isScalar; rw [if_neg qc4_1, if_neg qc17_2, if_pos qc29_3])⟩
      · skip
        refine XS.go (s_aloadn rfl rfl rfl) ?_
        refine XS.go (s_getr rfl xf12_28 (LY.lt L0 (by decide)) (LY.k1262 L0) (by decide) rfl (LY.r1262_11 L0)) ?_
        refine XS.go (s_aloadn rfl rfl rfl) ?_
        refine XS.go (s_getie rfl xf12_224 (LY.lt L0 (by decide)) (LY.k1262 L0) (by decide) rfl rfl) ?_
        refine XS.go (s_ialde rfl (LY.lt L0 (by decide)) (LY.k1269 L0) (inN (LY.n1269 L0) ex13 lx13 (by decide)) rfl) ?_
        refine XS.go (s_bipush (v := 11) rfl rfl) ?_
        refine r_icmp_ge (tgt := 50) rfl rfl (fun qc43_4 => ?_) (fun qc43_4 => ?_)
        · skip
          refine XS.go (s_iconst (v := 0) rfl rfl) ?_
          refine XR.retz rfl rfl (by decide) (fun hret => ⟨_, hret, ?_⟩)
          exact ⟨rfl, (by unfold v_isScalar; rw [if_neg qc4_1, if_neg qc17_2, if_neg qc29_3, if_pos qc43_4])⟩
        · skip
          refine XS.go (s_iconst (v := 1) rfl rfl) ?_
          refine XS.go (s_goto (tgt := 51) rfl rfl) ?_
          refine XR.retz rfl rfl (by decide) (fun hret => ⟨_, hret, ?_⟩)
          exact ⟨rfl, (by unfold v_isScalar; rw [if_neg qc4_1, if_neg qc17_2, if_neg qc29_3, if_neg qc43_4])⟩
def v_isName (h : XH) : Int32 := (if ¬ (hi h 1262 14) = 0 then 0 else (if ¬ (hi h 1266 (Int32.toNatClampNeg (hi h 1262 13))) = 2 then 0 else (if ¬ (hi h 1269 (Int32.toNatClampNeg (hi h 1262 13))) = (-1) then 0 else 1)))
set_option maxRecDepth 20000 in
theorem k_isName {l : Launch} {G : XG} {h : XH} {d : Nat} (L0 : LY h) {x13 : Nat} (ex13 : hi h 1262 13 = nI x13) (lx13 : x13 < 4001) : XC l G xEX12_isName d [.ref 1262] h (fun v h2 => h = h2 ∧ v = some (.int (v_isName h))) := by
  refine XC.virt xvX12_isName (Nat.le_of_ble_eq_true rfl) ?_
  refine XS.go (s_aloadn rfl rfl rfl) ?_
  refine XS.go (s_getie rfl xf12_221 (LY.lt L0 (by decide)) (LY.k1262 L0) (by decide) rfl rfl) ?_
  refine r_if_ne (tgt := 37) rfl rfl (fun qc4_1 => ?_) (fun qc4_1 => ?_)
  · skip
    refine XS.go (s_iconst (v := 0) rfl rfl) ?_
    refine XR.retz rfl rfl (by decide) (fun hret => ⟨_, hret, ?_⟩)
    exact ⟨rfl, (by unfold v_isName; rw [if_pos qc4_1])⟩
  · skip
    refine XS.go (s_aloadn rfl rfl rfl) ?_
    refine XS.go (s_getr rfl xf12_19 (LY.lt L0 (by decide)) (LY.k1262 L0) (by decide) rfl (LY.r1262_8 L0)) ?_
    refine XS.go (s_aloadn rfl rfl rfl) ?_
    refine XS.go (s_getie rfl xf12_224 (LY.lt L0 (by decide)) (LY.k1262 L0) (by decide) rfl rfl) ?_
    refine XS.go (s_ialde rfl (LY.lt L0 (by decide)) (LY.k1266 L0) (inN (LY.n1266 L0) ex13 lx13 (by decide)) rfl) ?_
    refine XS.go (s_iconst (v := 2) rfl rfl) ?_
    refine r_icmp_ne (tgt := 37) rfl rfl (fun qc17_2 => ?_) (fun qc17_2 => ?_)
    · skip
      refine XS.go (s_iconst (v := 0) rfl rfl) ?_
      refine XR.retz rfl rfl (by decide) (fun hret => ⟨_, hret, ?_⟩)
      exact ⟨rfl, (by unfold v_isName; rw [if_neg qc4_1, if_pos qc17_2])⟩
    · skip
      refine XS.go (s_aloadn rfl rfl rfl) ?_
      refine XS.go (s_getr rfl xf12_28 (LY.lt L0 (by decide)) (LY.k1262 L0) (by decide) rfl (LY.r1262_11 L0)) ?_
      refine XS.go (s_aloadn rfl rfl rfl) ?_
      refine XS.go (s_getie rfl xf12_224 (LY.lt L0 (by decide)) (LY.k1262 L0) (by decide) rfl rfl) ?_
      refine XS.go (s_ialde rfl (LY.lt L0 (by decide)) (LY.k1269 L0) (inN (LY.n1269 L0) ex13 lx13 (by decide)) rfl) ?_
      refine XS.go (s_iconst (v := (-1)) rfl rfl) ?_
      refine r_icmp_ne (tgt := 37) rfl rfl (fun qc30_3 => ?_) (fun qc30_3 => ?_)
      · skip
        refine XS.go (s_iconst (v := 0) rfl rfl) ?_
        refine XR.retz rfl rfl (by decide) (fun hret => ⟨_, hret, ?_⟩)
        exact ⟨rfl, (by unfold v_isName; rw [if_neg qc4_1, if_neg qc17_2, if_pos qc30_3])⟩
      · skip
        refine XS.go (s_iconst (v := 1) rfl rfl) ?_
        refine XS.go (s_goto (tgt := 38) rfl rfl) ?_
        refine XR.retz rfl rfl (by decide) (fun hret => ⟨_, hret, ?_⟩)
        exact ⟨rfl, (by unfold v_isName; rw [if_neg qc4_1, if_neg qc17_2, if_neg qc30_3])⟩
def m_take (h : XH) : XH := (if ¬ (hi h 1262 14) = 0 then h else (hsi h 1262 13 ((hi h 1262 13) + 1)))
set_option maxRecDepth 20000 in
theorem k_take {l : Launch} {G : XG} {h : XH} {d : Nat} (L0 : LY h) : XC l G xEX12_take d [.ref 1262] h (fun v h2 => h2 = m_take h ∧ v = none) := by
  refine XC.virt xvX12_take (Nat.le_of_ble_eq_true rfl) ?_
  refine XS.go (s_aloadn rfl rfl rfl) ?_
  refine XS.go (s_getie rfl xf12_221 (LY.lt L0 (by decide)) (LY.k1262 L0) (by decide) rfl rfl) ?_
  refine r_if_ne (tgt := 17) rfl rfl (fun qc4_1 => ?_) (fun qc4_1 => ?_)
  · skip
    refine XR.retv rfl rfl (fun hret => ⟨_, hret, ?_⟩)
    exact ⟨(by unfold m_take; rw [if_pos qc4_1]), rfl⟩
  · skip
    refine XS.go (s_aloadn rfl rfl rfl) ?_
    refine XS.go (s_dup rfl rfl) ?_
    refine XS.go (s_getie rfl xf12_224 (LY.lt L0 (by decide)) (LY.k1262 L0) (by decide) rfl rfl) ?_
    refine XS.go (s_iconst (v := 1) rfl rfl) ?_
    refine XS.go (s_iadd rfl) ?_
    refine XS.go (s_puti rfl xf12_224 (LY.lt L0 (by decide)) (LY.k1262 L0) (by decide) rfl (Or.inl rfl)) ?_
    refine XR.retv rfl rfl (fun hret => ⟨_, hret, ?_⟩)
    exact ⟨(by unfold m_take; rw [if_neg qc4_1]), rfl⟩
theorem LY_m_take {h : XH} : LY (m_take h) = LY h := by
  unfold m_take
  (repeat' split) <;> simp only [LY_si, LY_sj]
def v_fault (h : XH) (a : Int32) : Int32 := (if ¬ a = 0 then (if ¬ a = 1 then (if ¬ a = 2 then (if ¬ a = 3 then (-1) else (hi h 1262 53)) else (hi h 1262 52)) else (hi h 1262 51)) else (hi h 1262 50))
def m_fault (h : XH) (a : Int32) : XH := (hsi h 1262 0 0)
set_option maxRecDepth 20000 in
theorem k_fault {l : Launch} {G : XG} {h : XH} {d : Nat} {a : Int32} (L0 : LY h) : XC l G xEX12_fault d [.ref 1262, .int a] h (fun v h2 => h2 = m_fault h a ∧ v = some (.int (v_fault h a))) := by
  refine XC.virt xvX12_fault (Nat.le_of_ble_eq_true rfl) ?_
  refine XS.go (s_aloadn rfl rfl rfl) ?_
  refine XS.go (s_iconst (v := 0) rfl rfl) ?_
  refine XS.go (s_puti rfl xf12_175 (LY.lt L0 (by decide)) (LY.k1262 L0) (by decide) rfl (Or.inl rfl)) ?_
  refine XS.go (s_iloadn rfl rfl rfl) ?_
  refine r_if_ne (tgt := 16) rfl rfl (fun qc6_1 => ?_) (fun qc6_1 => ?_)
  · skip
    refine XS.go (s_iloadn rfl rfl rfl) ?_
    refine XS.go (s_iconst (v := 1) rfl rfl) ?_
    refine r_icmp_ne (tgt := 28) rfl rfl (fun qc18_2 => ?_) (fun qc18_2 => ?_)
    · skip
      refine XS.go (s_iloadn rfl rfl rfl) ?_
      refine XS.go (s_iconst (v := 2) rfl rfl) ?_
      refine r_icmp_ne (tgt := 40) rfl rfl (fun qc30_3 => ?_) (fun qc30_3 => ?_)
      · skip
        refine XS.go (s_iloadn rfl rfl rfl) ?_
        refine XS.go (s_iconst (v := 3) rfl rfl) ?_
        refine r_icmp_ne (tgt := 52) rfl rfl (fun qc42_4 => ?_) (fun qc42_4 => ?_)
        · skip
          refine XS.go (s_iconst (v := (-1)) rfl rfl) ?_
          refine XR.reti rfl rfl (fun hret => ⟨_, hret, ?_⟩)
          exact ⟨rfl, (by unfold v_fault; rw [if_pos qc6_1, if_pos qc18_2, if_pos qc30_3, if_pos qc42_4])⟩
        · skip
          refine XS.go (s_aloadn rfl rfl rfl) ?_
          refine XS.go (s_getie rfl xf12_366 (LY.lt (by simp only [LY_si, LY_sj]; exact L0) (by decide)) (LY.k1262 (by simp only [LY_si, LY_sj]; exact L0)) (by decide) rfl (hi_hsi_nk (by decide))) ?_
          refine XS.go (s_goto (tgt := 53) rfl rfl) ?_
          refine XR.reti rfl rfl (fun hret => ⟨_, hret, ?_⟩)
          exact ⟨rfl, (by unfold v_fault; rw [if_pos qc6_1, if_pos qc18_2, if_pos qc30_3, if_neg qc42_4])⟩
      · skip
        refine XS.go (s_aloadn rfl rfl rfl) ?_
        refine XS.go (s_getie rfl xf12_363 (LY.lt (by simp only [LY_si, LY_sj]; exact L0) (by decide)) (LY.k1262 (by simp only [LY_si, LY_sj]; exact L0)) (by decide) rfl (hi_hsi_nk (by decide))) ?_
        refine XS.go (s_goto (tgt := 53) rfl rfl) ?_
        refine XR.reti rfl rfl (fun hret => ⟨_, hret, ?_⟩)
        exact ⟨rfl, (by unfold v_fault; rw [if_pos qc6_1, if_pos qc18_2, if_neg qc30_3])⟩
    · skip
      refine XS.go (s_aloadn rfl rfl rfl) ?_
      refine XS.go (s_getie rfl xf12_347 (LY.lt (by simp only [LY_si, LY_sj]; exact L0) (by decide)) (LY.k1262 (by simp only [LY_si, LY_sj]; exact L0)) (by decide) rfl (hi_hsi_nk (by decide))) ?_
      refine XS.go (s_goto (tgt := 53) rfl rfl) ?_
      refine XR.reti rfl rfl (fun hret => ⟨_, hret, ?_⟩)
      exact ⟨rfl, (by unfold v_fault; rw [if_pos qc6_1, if_neg qc18_2])⟩
  · skip
    refine XS.go (s_aloadn rfl rfl rfl) ?_
    refine XS.go (s_getie rfl xf12_344 (LY.lt (by simp only [LY_si, LY_sj]; exact L0) (by decide)) (LY.k1262 (by simp only [LY_si, LY_sj]; exact L0)) (by decide) rfl (hi_hsi_nk (by decide))) ?_
    refine XS.go (s_goto (tgt := 53) rfl rfl) ?_
    refine XR.reti rfl rfl (fun hret => ⟨_, hret, ?_⟩)
    exact ⟨rfl, (by unfold v_fault; rw [if_neg qc6_1])⟩
theorem LY_m_fault {h : XH} {a : Int32} : LY (m_fault h a) = LY h := by
  unfold m_fault
  (repeat' split) <;> simp only [LY_si, LY_sj]
def v_isStruct (h : XH) (a : Int32) : Int32 := (if (hi h 1262 7) = 0 then 0 else (if a < 0 then 0 else (if (hi h 1262 20) ≤ a then 0 else 1)))
set_option maxRecDepth 20000 in
theorem k_isStruct {l : Launch} {G : XG} {h : XH} {d : Nat} {a : Int32} (L0 : LY h) : XC l G xEX12_isStruct d [.ref 1262, .int a] h (fun v h2 => h = h2 ∧ v = some (.int (v_isStruct h a))) := by
  refine XC.virt xvX12_isStruct (Nat.le_of_ble_eq_true rfl) ?_
  refine XS.go (s_aloadn rfl rfl rfl) ?_
  refine XS.go (s_getze rfl xf12_353 (LY.lt L0 (by decide)) (LY.k1262 L0) (by decide) rfl rfl) ?_
  refine r_if_eq (tgt := 23) rfl rfl (fun qc4_1 => ?_) (fun qc4_1 => ?_)
  · skip
    refine XS.go (s_iconst (v := 0) rfl rfl) ?_
    refine XR.retz rfl rfl (by decide) (fun hret => ⟨_, hret, ?_⟩)
    exact ⟨rfl, (by unfold v_isStruct; rw [if_pos qc4_1])⟩
  · skip
    refine XS.go (s_iloadn rfl rfl rfl) ?_
    refine r_if_lt (tgt := 23) rfl rfl (fun qc8_2 => ?_) (fun qc8_2 => ?_)
    · skip
      refine XS.go (s_iconst (v := 0) rfl rfl) ?_
      refine XR.retz rfl rfl (by decide) (fun hret => ⟨_, hret, ?_⟩)
      exact ⟨rfl, (by unfold v_isStruct; rw [if_neg qc4_1, if_pos qc8_2])⟩
    · skip
      refine XS.go (s_iloadn rfl rfl rfl) ?_
      refine XS.go (s_aloadn rfl rfl rfl) ?_
      refine XS.go (s_getie rfl xf12_254 (LY.lt L0 (by decide)) (LY.k1262 L0) (by decide) rfl rfl) ?_
      refine r_icmp_ge (tgt := 23) rfl rfl (fun qc16_3 => ?_) (fun qc16_3 => ?_)
      · skip
        refine XS.go (s_iconst (v := 0) rfl rfl) ?_
        refine XR.retz rfl rfl (by decide) (fun hret => ⟨_, hret, ?_⟩)
        exact ⟨rfl, (by unfold v_isStruct; rw [if_neg qc4_1, if_neg qc8_2, if_pos qc16_3])⟩
      · skip
        refine XS.go (s_iconst (v := 1) rfl rfl) ?_
        refine XS.go (s_goto (tgt := 24) rfl rfl) ?_
        refine XR.retz rfl rfl (by decide) (fun hret => ⟨_, hret, ?_⟩)
        exact ⟨rfl, (by unfold v_isStruct; rw [if_neg qc4_1, if_neg qc8_2, if_neg qc16_3])⟩
def v_isTable (h : XH) (a : Int32) : Int32 := (if (hi h 1262 7) = 0 then 0 else (if a < 0 then 0 else (if (hi h 1262 31) ≤ a then 0 else 1)))
set_option maxRecDepth 20000 in
theorem k_isTable {l : Launch} {G : XG} {h : XH} {d : Nat} {a : Int32} (L0 : LY h) : XC l G xEX12_isTable d [.ref 1262, .int a] h (fun v h2 => h = h2 ∧ v = some (.int (v_isTable h a))) := by
  refine XC.virt xvX12_isTable (Nat.le_of_ble_eq_true rfl) ?_
  refine XS.go (s_aloadn rfl rfl rfl) ?_
  refine XS.go (s_getze rfl xf12_353 (LY.lt L0 (by decide)) (LY.k1262 L0) (by decide) rfl rfl) ?_
  refine r_if_eq (tgt := 23) rfl rfl (fun qc4_1 => ?_) (fun qc4_1 => ?_)
  · skip
    refine XS.go (s_iconst (v := 0) rfl rfl) ?_
    refine XR.retz rfl rfl (by decide) (fun hret => ⟨_, hret, ?_⟩)
    exact ⟨rfl, (by unfold v_isTable; rw [if_pos qc4_1])⟩
  · skip
    refine XS.go (s_iloadn rfl rfl rfl) ?_
    refine r_if_lt (tgt := 23) rfl rfl (fun qc8_2 => ?_) (fun qc8_2 => ?_)
    · skip
      refine XS.go (s_iconst (v := 0) rfl rfl) ?_
      refine XR.retz rfl rfl (by decide) (fun hret => ⟨_, hret, ?_⟩)
      exact ⟨rfl, (by unfold v_isTable; rw [if_neg qc4_1, if_pos qc8_2])⟩
    · skip
      refine XS.go (s_iloadn rfl rfl rfl) ?_
      refine XS.go (s_aloadn rfl rfl rfl) ?_
      refine XS.go (s_getie rfl xf12_257 (LY.lt L0 (by decide)) (LY.k1262 L0) (by decide) rfl rfl) ?_
      refine r_icmp_ge (tgt := 23) rfl rfl (fun qc16_3 => ?_) (fun qc16_3 => ?_)
      · skip
        refine XS.go (s_iconst (v := 0) rfl rfl) ?_
        refine XR.retz rfl rfl (by decide) (fun hret => ⟨_, hret, ?_⟩)
        exact ⟨rfl, (by unfold v_isTable; rw [if_neg qc4_1, if_neg qc8_2, if_pos qc16_3])⟩
      · skip
        refine XS.go (s_iconst (v := 1) rfl rfl) ?_
        refine XS.go (s_goto (tgt := 24) rfl rfl) ?_
        refine XR.retz rfl rfl (by decide) (fun hret => ⟨_, hret, ?_⟩)
        exact ⟨rfl, (by unfold v_isTable; rw [if_neg qc4_1, if_neg qc8_2, if_neg qc16_3])⟩
def m_empty (h : XH) : XH := (hsi (hsi (hsi (hsi (hsi h 1262 57 0) 1262 58 4) 1262 59 0) 1262 64 0) 1262 67 (-1))
set_option maxRecDepth 20000 in
theorem k_empty {l : Launch} {G : XG} {h : XH} {d : Nat} (L0 : LY h) : XC l G xEX12_empty d [.ref 1262] h (fun v h2 => h2 = m_empty h ∧ v = none) := by
  refine XC.virt xvX12_empty (Nat.le_of_ble_eq_true rfl) ?_
  refine XS.go (s_aloadn rfl rfl rfl) ?_
  refine XS.go (s_iconst (v := 0) rfl rfl) ?_
  refine XS.go (s_puti rfl xf12_382 (LY.lt L0 (by decide)) (LY.k1262 L0) (by decide) rfl (Or.inl rfl)) ?_
  refine XS.go (s_aloadn rfl rfl rfl) ?_
  refine XS.go (s_iconst (v := 4) rfl rfl) ?_
  refine XS.go (s_puti rfl xf12_385 (LY.lt (by simp only [LY_si, LY_sj]; exact L0) (by decide)) (LY.k1262 (by simp only [LY_si, LY_sj]; exact L0)) (by decide) rfl (Or.inl rfl)) ?_
  refine XS.go (s_aloadn rfl rfl rfl) ?_
  refine XS.go (s_iconst (v := 0) rfl rfl) ?_
  refine XS.go (s_puti rfl xf12_388 (LY.lt (by simp only [LY_si, LY_sj]; exact L0) (by decide)) (LY.k1262 (by simp only [LY_si, LY_sj]; exact L0)) (by decide) rfl (Or.inl rfl)) ?_
  refine XS.go (s_aloadn rfl rfl rfl) ?_
  refine XS.go (s_iconst (v := 0) rfl rfl) ?_
  refine XS.go (s_puti rfl xf12_391 (LY.lt (by simp only [LY_si, LY_sj]; exact L0) (by decide)) (LY.k1262 (by simp only [LY_si, LY_sj]; exact L0)) (by decide) rfl (Or.inl rfl)) ?_
  refine XS.go (s_aloadn rfl rfl rfl) ?_
  refine XS.go (s_iconst (v := (-1)) rfl rfl) ?_
  refine XS.go (s_puti rfl xf12_140 (LY.lt (by simp only [LY_si, LY_sj]; exact L0) (by decide)) (LY.k1262 (by simp only [LY_si, LY_sj]; exact L0)) (by decide) rfl (Or.inl rfl)) ?_
  refine XR.retv rfl rfl (fun hret => ⟨_, hret, ?_⟩)
  exact ⟨rfl, rfl⟩
theorem LY_m_empty {h : XH} : LY (m_empty h) = LY h := by
  unfold m_empty
  (repeat' split) <;> simp only [LY_si, LY_sj]
def m_aligned (h : XH) (a : Int32) : XH := (if a ≤ (hi h 1262 58) then (hsi h 1262 58 (hi h 1262 58)) else (hsi h 1262 58 a))
set_option maxRecDepth 20000 in
theorem k_aligned {l : Launch} {G : XG} {h : XH} {d : Nat} {a : Int32} (L0 : LY h) : XC l G xEX12_aligned d [.ref 1262, .int a] h (fun v h2 => h2 = m_aligned h a ∧ v = none) := by
  refine XC.virt xvX12_aligned (Nat.le_of_ble_eq_true rfl) ?_
  refine XS.go (s_aloadn rfl rfl rfl) ?_
  refine XS.go (s_iloadn rfl rfl rfl) ?_
  refine XS.go (s_aloadn rfl rfl rfl) ?_
  refine XS.go (s_getie rfl xf12_385 (LY.lt L0 (by decide)) (LY.k1262 L0) (by decide) rfl rfl) ?_
  refine r_icmp_le (tgt := 13) rfl rfl (fun qc6_1 => ?_) (fun qc6_1 => ?_)
  · skip
    refine XS.go (s_aloadn rfl rfl rfl) ?_
    refine XS.go (s_getie rfl xf12_385 (LY.lt L0 (by decide)) (LY.k1262 L0) (by decide) rfl rfl) ?_
    refine XS.go (s_puti rfl xf12_385 (LY.lt L0 (by decide)) (LY.k1262 L0) (by decide) rfl (Or.inl rfl)) ?_
    refine XR.retv rfl rfl (fun hret => ⟨_, hret, ?_⟩)
    exact ⟨(by unfold m_aligned; rw [if_pos qc6_1]), rfl⟩
  · skip
    refine XS.go (s_iloadn rfl rfl rfl) ?_
    refine XS.go (s_goto (tgt := 17) rfl rfl) ?_
    refine XS.go (s_puti rfl xf12_385 (LY.lt L0 (by decide)) (LY.k1262 L0) (by decide) rfl (Or.inl rfl)) ?_
    refine XR.retv rfl rfl (fun hret => ⟨_, hret, ?_⟩)
    exact ⟨(by unfold m_aligned; rw [if_neg qc6_1]), rfl⟩
theorem LY_m_aligned {h : XH} {a : Int32} : LY (m_aligned h a) = LY h := by
  unfold m_aligned
  (repeat' split) <;> simp only [LY_si, LY_sj]
def v_thing (h : XH) (a : Int32) (b : Int32) (c : Int32) : Int32 := (((hi h 1262 59) + 1) - 1)
def m_thing (h : XH) (a : Int32) (b : Int32) (c : Int32) : XH := (hsi (hsi (hsi (hsi (hsi h 1300 (Int32.toNatClampNeg (hi h 1262 59)) a) 1301 (Int32.toNatClampNeg (hi h 1262 59)) b) 1302 (Int32.toNatClampNeg (hi h 1262 59)) c) 1303 (Int32.toNatClampNeg (hi h 1262 59)) (hi h 1262 57)) 1262 59 ((hi h 1262 59) + 1))
set_option maxRecDepth 20000 in
theorem k_thing {l : Launch} {G : XG} {h : XH} {d : Nat} {a : Int32} {b : Int32} {c : Int32} (L0 : LY h) {x59 : Nat} (ex59 : hi h 1262 59 = nI x59) (lx59 : x59 < 300) : XC l G xEX12_thing d [.ref 1262, .int a, .int b, .int c] h (fun v h2 => h2 = m_thing h a b c ∧ v = some (.int (v_thing h a b c))) := by
  refine XC.virt xvX12_thing (Nat.le_of_ble_eq_true rfl) ?_
  refine XS.go (s_aloadn rfl rfl rfl) ?_
  refine XS.go (s_getr rfl xf12_122 (LY.lt L0 (by decide)) (LY.k1262 L0) (by decide) rfl (LY.r1262_60 L0)) ?_
  refine XS.go (s_aloadn rfl rfl rfl) ?_
  refine XS.go (s_getie rfl xf12_388 (LY.lt L0 (by decide)) (LY.k1262 L0) (by decide) rfl rfl) ?_
  refine XS.go (s_iloadn rfl rfl rfl) ?_
  refine XS.go (s_iast rfl (LY.lt L0 (by decide)) (LY.k1300 L0) (inN (LY.n1300 L0) ex59 lx59 (by decide))) ?_
  refine XS.go (s_aloadn rfl rfl rfl) ?_
  refine XS.go (s_getr rfl xf12_125 (LY.lt (by simp only [LY_si, LY_sj]; exact L0) (by decide)) (LY.k1262 (by simp only [LY_si, LY_sj]; exact L0)) (by decide) rfl (LY.r1262_61 (by simp only [LY_si, LY_sj]; exact L0))) ?_
  refine XS.go (s_aloadn rfl rfl rfl) ?_
  refine XS.go (s_getie rfl xf12_388 (LY.lt (by simp only [LY_si, LY_sj]; exact L0) (by decide)) (LY.k1262 (by simp only [LY_si, LY_sj]; exact L0)) (by decide) rfl (hi_hsi_na (by decide))) ?_
  refine XS.go (s_iloadn rfl rfl rfl) ?_
  refine XS.go (s_iast rfl (LY.lt (by simp only [LY_si, LY_sj]; exact L0) (by decide)) (LY.k1301 (by simp only [LY_si, LY_sj]; exact L0)) (inN (LY.n1301 (by simp only [LY_si, LY_sj]; exact L0)) ex59 lx59 (by decide))) ?_
  refine XS.go (s_aloadn rfl rfl rfl) ?_
  refine XS.go (s_getr rfl xf12_128 (LY.lt (by simp only [LY_si, LY_sj]; exact L0) (by decide)) (LY.k1262 (by simp only [LY_si, LY_sj]; exact L0)) (by decide) rfl (LY.r1262_62 (by simp only [LY_si, LY_sj]; exact L0))) ?_
  refine XS.go (s_aloadn rfl rfl rfl) ?_
  refine XS.go (s_getie rfl xf12_388 (LY.lt (by simp only [LY_si, LY_sj]; exact L0) (by decide)) (LY.k1262 (by simp only [LY_si, LY_sj]; exact L0)) (by decide) rfl ((hi_hsi_na (by decide)).trans (hi_hsi_na (by decide)))) ?_
  refine XS.go (s_iloadn rfl rfl rfl) ?_
  refine XS.go (s_iast rfl (LY.lt (by simp only [LY_si, LY_sj]; exact L0) (by decide)) (LY.k1302 (by simp only [LY_si, LY_sj]; exact L0)) (inN (LY.n1302 (by simp only [LY_si, LY_sj]; exact L0)) ex59 lx59 (by decide))) ?_
  refine XS.go (s_aloadn rfl rfl rfl) ?_
  refine XS.go (s_getr rfl xf12_131 (LY.lt (by simp only [LY_si, LY_sj]; exact L0) (by decide)) (LY.k1262 (by simp only [LY_si, LY_sj]; exact L0)) (by decide) rfl (LY.r1262_63 (by simp only [LY_si, LY_sj]; exact L0))) ?_
  refine XS.go (s_aloadn rfl rfl rfl) ?_
  refine XS.go (s_getie rfl xf12_388 (LY.lt (by simp only [LY_si, LY_sj]; exact L0) (by decide)) (LY.k1262 (by simp only [LY_si, LY_sj]; exact L0)) (by decide) rfl ((hi_hsi_na (by decide)).trans ((hi_hsi_na (by decide)).trans (hi_hsi_na (by decide))))) ?_
  refine XS.go (s_aloadn rfl rfl rfl) ?_
  refine XS.go (s_getie rfl xf12_382 (LY.lt (by simp only [LY_si, LY_sj]; exact L0) (by decide)) (LY.k1262 (by simp only [LY_si, LY_sj]; exact L0)) (by decide) rfl ((hi_hsi_na (by decide)).trans ((hi_hsi_na (by decide)).trans (hi_hsi_na (by decide))))) ?_
  refine XS.go (s_iast rfl (LY.lt (by simp only [LY_si, LY_sj]; exact L0) (by decide)) (LY.k1303 (by simp only [LY_si, LY_sj]; exact L0)) (inN (LY.n1303 (by simp only [LY_si, LY_sj]; exact L0)) ex59 lx59 (by decide))) ?_
  refine XS.go (s_aloadn rfl rfl rfl) ?_
  refine XS.go (s_dup rfl rfl) ?_
  refine XS.go (s_getie rfl xf12_388 (LY.lt (by simp only [LY_si, LY_sj]; exact L0) (by decide)) (LY.k1262 (by simp only [LY_si, LY_sj]; exact L0)) (by decide) rfl ((hi_hsi_na (by decide)).trans ((hi_hsi_na (by decide)).trans ((hi_hsi_na (by decide)).trans (hi_hsi_na (by decide)))))) ?_
  refine XS.go (s_iconst (v := 1) rfl rfl) ?_
  refine XS.go (s_iadd rfl) ?_
  refine XS.go (s_puti rfl xf12_388 (LY.lt (by simp only [LY_si, LY_sj]; exact L0) (by decide)) (LY.k1262 (by simp only [LY_si, LY_sj]; exact L0)) (by decide) rfl (Or.inl rfl)) ?_
  refine XS.go (s_aloadn rfl rfl rfl) ?_
  refine XS.go (s_getie rfl xf12_388 (LY.lt (by simp only [LY_si, LY_sj]; exact L0) (by decide)) (LY.k1262 (by simp only [LY_si, LY_sj]; exact L0)) (by decide) rfl hi_hsi_eq) ?_
  refine XS.go (s_iconst (v := 1) rfl rfl) ?_
  refine XS.go (s_isub rfl) ?_
  refine XR.reti rfl rfl (fun hret => ⟨_, hret, ?_⟩)
  exact ⟨rfl, rfl⟩
theorem LY_m_thing {h : XH} {a : Int32} {b : Int32} {c : Int32} : LY (m_thing h a b c) = LY h := by
  unfold m_thing
  (repeat' split) <;> simp only [LY_si, LY_sj]
def v_clear (h : XH) : Int32 := (hi h 1262 57)
def m_clear (h : XH) : XH := (m_empty (hsi h 1262 0 0))
set_option maxRecDepth 20000 in
theorem k_clear {l : Launch} {G : XG} {h : XH} {d : Nat} (L0 : LY h) : XC l G xEX12_clear (d + 1) [.ref 1262] h (fun v h2 => h2 = m_clear h ∧ v = some (.int (v_clear h))) := by
  refine XC.virt xvX12_clear (Nat.le_of_ble_eq_true rfl) ?_
  refine XS.go (s_aloadn rfl rfl rfl) ?_
  refine XS.go (s_iconst (v := 0) rfl rfl) ?_
  refine XS.go (s_puti rfl xf12_175 (LY.lt L0 (by decide)) (LY.k1262 L0) (by decide) rfl (Or.inl rfl)) ?_
  refine XS.go (s_aloadn rfl rfl rfl) ?_
  refine XS.go (s_getie rfl xf12_382 (LY.lt (by simp only [LY_si, LY_sj]; exact L0) (by decide)) (LY.k1262 (by simp only [LY_si, LY_sj]; exact L0)) (by decide) rfl (hi_hsi_nk (by decide))) ?_
  refine XS.go (s_istoren rfl rfl (Nat.le_of_ble_eq_true rfl)) ?_
  refine XS.go (s_aloadn rfl rfl rfl) ?_
  refine r_callv rfl xvX12_empty xm12_357 (k_empty (d := d) (by simp only [LY_si, LY_sj]; exact L0)) (LY.lt (by simp only [LY_si, LY_sj]; exact L0) (by decide)) (LY.k1262 (by simp only [LY_si, LY_sj]; exact L0)) (by decide) rfl rfl (by omega) (by decide) (Nat.le_of_ble_eq_true rfl) ?_
  rintro _ _ ⟨rfl, rfl⟩
  refine XS.go (s_iloadn rfl rfl rfl) ?_
  refine XR.reti rfl rfl (fun hret => ⟨_, hret, ?_⟩)
  exact ⟨rfl, rfl⟩
theorem LY_m_clear {h : XH} : LY (m_clear h) = LY h := by
  unfold m_clear
  (repeat' split) <;> simp only [LY_si, LY_sj, LY_m_empty]
def v_count (h : XH) (a : Int32) : Int32 := (if a = 0 then (hi h 1262 2) else (if a = 1 then (hi h 1262 55) else (if a = 2 then (hi h 1262 57) else (if a = 3 then (hi h 1262 59) else (if a = 4 then (hi h 1262 67) else (if a = 5 then (hi h 1262 72) else (if a = 6 then (if (hi h 1262 81) = 0 then 0 else (hi h 1262 80)) else (if a = 7 then (hi h 1262 64) else (if a = 8 then (hi h 1262 82) else (-1))))))))))
def m_count (h : XH) (a : Int32) : XH := (hsi h 1262 0 0)
set_option maxRecDepth 20000 in
theorem k_count {l : Launch} {G : XG} {h : XH} {d : Nat} {a : Int32} (L0 : LY h) : XC l G xEX12_count d [.ref 1262, .int a] h (fun v h2 => h2 = m_count h a ∧ v = some (.int (v_count h a))) := by
  refine XC.virt xvX12_count (Nat.le_of_ble_eq_true rfl) ?_
  refine XS.go (s_aloadn rfl rfl rfl) ?_
  refine XS.go (s_iconst (v := 0) rfl rfl) ?_
  refine XS.go (s_puti rfl xf12_175 (LY.lt L0 (by decide)) (LY.k1262 L0) (by decide) rfl (Or.inl rfl)) ?_
  refine XS.go (s_iloadn rfl rfl rfl) ?_
  by_cases qs6_1_0 : a = 0
  · refine XS.go (s_tswI (tgt := 56) rfl (by rw [qs6_1_0]; decide) (by rw [qs6_1_0]; decide) (by rw [qs6_1_0]; rfl) rfl) ?_
    refine XS.go (s_aloadn rfl rfl rfl) ?_
    refine XS.go (s_getie rfl xf12_178 (LY.lt (by simp only [LY_si, LY_sj]; exact L0) (by decide)) (LY.k1262 (by simp only [LY_si, LY_sj]; exact L0)) (by decide) rfl (hi_hsi_nk (by decide))) ?_
    refine XR.reti rfl rfl (fun hret => ⟨_, hret, ?_⟩)
    exact ⟨rfl, (by unfold v_count; rw [if_pos qs6_1_0])⟩
  by_cases qs6_1_1 : a = 1
  · refine XS.go (s_tswI (tgt := 61) rfl (by rw [qs6_1_1]; decide) (by rw [qs6_1_1]; decide) (by rw [qs6_1_1]; rfl) rfl) ?_
    refine XS.go (s_aloadn rfl rfl rfl) ?_
    refine XS.go (s_getie rfl xf12_379 (LY.lt (by simp only [LY_si, LY_sj]; exact L0) (by decide)) (LY.k1262 (by simp only [LY_si, LY_sj]; exact L0)) (by decide) rfl (hi_hsi_nk (by decide))) ?_
    refine XR.reti rfl rfl (fun hret => ⟨_, hret, ?_⟩)
    exact ⟨rfl, (by unfold v_count; rw [if_neg qs6_1_0, if_pos qs6_1_1])⟩
  by_cases qs6_1_2 : a = 2
  · refine XS.go (s_tswI (tgt := 66) rfl (by rw [qs6_1_2]; decide) (by rw [qs6_1_2]; decide) (by rw [qs6_1_2]; rfl) rfl) ?_
    refine XS.go (s_aloadn rfl rfl rfl) ?_
    refine XS.go (s_getie rfl xf12_382 (LY.lt (by simp only [LY_si, LY_sj]; exact L0) (by decide)) (LY.k1262 (by simp only [LY_si, LY_sj]; exact L0)) (by decide) rfl (hi_hsi_nk (by decide))) ?_
    refine XR.reti rfl rfl (fun hret => ⟨_, hret, ?_⟩)
    exact ⟨rfl, (by unfold v_count; rw [if_neg qs6_1_0, if_neg qs6_1_1, if_pos qs6_1_2])⟩
  by_cases qs6_1_3 : a = 3
  · refine XS.go (s_tswI (tgt := 71) rfl (by rw [qs6_1_3]; decide) (by rw [qs6_1_3]; decide) (by rw [qs6_1_3]; rfl) rfl) ?_
    refine XS.go (s_aloadn rfl rfl rfl) ?_
    refine XS.go (s_getie rfl xf12_388 (LY.lt (by simp only [LY_si, LY_sj]; exact L0) (by decide)) (LY.k1262 (by simp only [LY_si, LY_sj]; exact L0)) (by decide) rfl (hi_hsi_nk (by decide))) ?_
    refine XR.reti rfl rfl (fun hret => ⟨_, hret, ?_⟩)
    exact ⟨rfl, (by unfold v_count; rw [if_neg qs6_1_0, if_neg qs6_1_1, if_neg qs6_1_2, if_pos qs6_1_3])⟩
  by_cases qs6_1_4 : a = 4
  · refine XS.go (s_tswI (tgt := 76) rfl (by rw [qs6_1_4]; decide) (by rw [qs6_1_4]; decide) (by rw [qs6_1_4]; rfl) rfl) ?_
    refine XS.go (s_aloadn rfl rfl rfl) ?_
    refine XS.go (s_getie rfl xf12_140 (LY.lt (by simp only [LY_si, LY_sj]; exact L0) (by decide)) (LY.k1262 (by simp only [LY_si, LY_sj]; exact L0)) (by decide) rfl (hi_hsi_nk (by decide))) ?_
    refine XR.reti rfl rfl (fun hret => ⟨_, hret, ?_⟩)
    exact ⟨rfl, (by unfold v_count; rw [if_neg qs6_1_0, if_neg qs6_1_1, if_neg qs6_1_2, if_neg qs6_1_3, if_pos qs6_1_4])⟩
  by_cases qs6_1_5 : a = 5
  · refine XS.go (s_tswI (tgt := 81) rfl (by rw [qs6_1_5]; decide) (by rw [qs6_1_5]; decide) (by rw [qs6_1_5]; rfl) rfl) ?_
    refine XS.go (s_aloadn rfl rfl rfl) ?_
    refine XS.go (s_getie rfl xf12_441 (LY.lt (by simp only [LY_si, LY_sj]; exact L0) (by decide)) (LY.k1262 (by simp only [LY_si, LY_sj]; exact L0)) (by decide) rfl (hi_hsi_nk (by decide))) ?_
    refine XR.reti rfl rfl (fun hret => ⟨_, hret, ?_⟩)
    exact ⟨rfl, (by unfold v_count; rw [if_neg qs6_1_0, if_neg qs6_1_1, if_neg qs6_1_2, if_neg qs6_1_3, if_neg qs6_1_4, if_pos qs6_1_5])⟩
  by_cases qs6_1_6 : a = 6
  · refine XS.go (s_tswI (tgt := 86) rfl (by rw [qs6_1_6]; decide) (by rw [qs6_1_6]; decide) (by rw [qs6_1_6]; rfl) rfl) ?_
    refine XS.go (s_aloadn rfl rfl rfl) ?_
    refine XS.go (s_getze rfl xf12_360 (LY.lt (by simp only [LY_si, LY_sj]; exact L0) (by decide)) (LY.k1262 (by simp only [LY_si, LY_sj]; exact L0)) (by decide) rfl (hi_hsi_nk (by decide))) ?_
    refine r_if_eq (tgt := 100) rfl rfl (fun qc90_2 => ?_) (fun qc90_2 => ?_)
    · skip
      refine XS.go (s_iconst (v := 0) rfl rfl) ?_
      refine XR.reti rfl rfl (fun hret => ⟨_, hret, ?_⟩)
      exact ⟨rfl, (by unfold v_count; rw [if_neg qs6_1_0, if_neg qs6_1_1, if_neg qs6_1_2, if_neg qs6_1_3, if_neg qs6_1_4, if_neg qs6_1_5, if_pos qs6_1_6, if_pos qc90_2])⟩
    · skip
      refine XS.go (s_aloadn rfl rfl rfl) ?_
      refine XS.go (s_getie rfl xf12_444 (LY.lt (by simp only [LY_si, LY_sj]; exact L0) (by decide)) (LY.k1262 (by simp only [LY_si, LY_sj]; exact L0)) (by decide) rfl (hi_hsi_nk (by decide))) ?_
      refine XS.go (s_goto (tgt := 101) rfl rfl) ?_
      refine XR.reti rfl rfl (fun hret => ⟨_, hret, ?_⟩)
      exact ⟨rfl, (by unfold v_count; rw [if_neg qs6_1_0, if_neg qs6_1_1, if_neg qs6_1_2, if_neg qs6_1_3, if_neg qs6_1_4, if_neg qs6_1_5, if_pos qs6_1_6, if_neg qc90_2])⟩
  by_cases qs6_1_7 : a = 7
  · refine XS.go (s_tswI (tgt := 102) rfl (by rw [qs6_1_7]; decide) (by rw [qs6_1_7]; decide) (by rw [qs6_1_7]; rfl) rfl) ?_
    refine XS.go (s_aloadn rfl rfl rfl) ?_
    refine XS.go (s_getie rfl xf12_391 (LY.lt (by simp only [LY_si, LY_sj]; exact L0) (by decide)) (LY.k1262 (by simp only [LY_si, LY_sj]; exact L0)) (by decide) rfl (hi_hsi_nk (by decide))) ?_
    refine XR.reti rfl rfl (fun hret => ⟨_, hret, ?_⟩)
    exact ⟨rfl, (by unfold v_count; rw [if_neg qs6_1_0, if_neg qs6_1_1, if_neg qs6_1_2, if_neg qs6_1_3, if_neg qs6_1_4, if_neg qs6_1_5, if_neg qs6_1_6, if_pos qs6_1_7])⟩
  by_cases qs6_1_8 : a = 8
  · refine XS.go (s_tswI (tgt := 107) rfl (by rw [qs6_1_8]; decide) (by rw [qs6_1_8]; decide) (by rw [qs6_1_8]; rfl) rfl) ?_
    refine XS.go (s_aloadn rfl rfl rfl) ?_
    refine XS.go (s_getie rfl xf12_447 (LY.lt (by simp only [LY_si, LY_sj]; exact L0) (by decide)) (LY.k1262 (by simp only [LY_si, LY_sj]; exact L0)) (by decide) rfl (hi_hsi_nk (by decide))) ?_
    refine XR.reti rfl rfl (fun hret => ⟨_, hret, ?_⟩)
    exact ⟨rfl, (by unfold v_count; rw [if_neg qs6_1_0, if_neg qs6_1_1, if_neg qs6_1_2, if_neg qs6_1_3, if_neg qs6_1_4, if_neg qs6_1_5, if_neg qs6_1_6, if_neg qs6_1_7, if_pos qs6_1_8])⟩
  have tso6_2 : (a).toInt < 0 ∨ 8 < (a).toInt := by
    refine tsw_out 0 8 (by decide) ?_
    intro k h1 h2
    have z : k = 0 ∨ k = 1 ∨ k = 2 ∨ k = 3 ∨ k = 4 ∨ k = 5 ∨ k = 6 ∨ k = 7 ∨ k = 8 := by omega
    rcases z with rfl | rfl | rfl | rfl | rfl | rfl | rfl | rfl | rfl
    · exact qs6_1_0
    · exact qs6_1_1
    · exact qs6_1_2
    · exact qs6_1_3
    · exact qs6_1_4
    · exact qs6_1_5
    · exact qs6_1_6
    · exact qs6_1_7
    · exact qs6_1_8
  refine XS.go (s_tswO (tgt := 112) rfl tso6_2 rfl) ?_
  refine XS.go (s_iconst (v := (-1)) rfl rfl) ?_
  refine XR.reti rfl rfl (fun hret => ⟨_, hret, ?_⟩)
  exact ⟨rfl, (by unfold v_count; rw [if_neg qs6_1_0, if_neg qs6_1_1, if_neg qs6_1_2, if_neg qs6_1_3, if_neg qs6_1_4, if_neg qs6_1_5, if_neg qs6_1_6, if_neg qs6_1_7, if_neg qs6_1_8])⟩
theorem LY_m_count {h : XH} {a : Int32} : LY (m_count h a) = LY h := by
  unfold m_count
  (repeat' split) <;> simp only [LY_si, LY_sj]
def m_wrong (h : XH) (a : Int32) (b : Int32) : XH := (if ¬ (hi h 1262 76) = 0 then h else (hsi (hsi h 1262 76 a) 1262 77 b))
set_option maxRecDepth 20000 in
theorem k_wrong {l : Launch} {G : XG} {h : XH} {d : Nat} {a : Int32} {b : Int32} (L0 : LY h) : XC l G xEX12_wrong d [.ref 1262, .int a, .int b] h (fun v h2 => h2 = m_wrong h a b ∧ v = none) := by
  refine XC.virt xvX12_wrong (Nat.le_of_ble_eq_true rfl) ?_
  refine XS.go (s_aloadn rfl rfl rfl) ?_
  refine XS.go (s_getie rfl xf12_450 (LY.lt L0 (by decide)) (LY.k1262 L0) (by decide) rfl rfl) ?_
  refine r_if_ne (tgt := 17) rfl rfl (fun qc4_1 => ?_) (fun qc4_1 => ?_)
  · skip
    refine XR.retv rfl rfl (fun hret => ⟨_, hret, ?_⟩)
    exact ⟨(by unfold m_wrong; rw [if_pos qc4_1]), rfl⟩
  · skip
    refine XS.go (s_aloadn rfl rfl rfl) ?_
    refine XS.go (s_iloadn rfl rfl rfl) ?_
    refine XS.go (s_puti rfl xf12_450 (LY.lt L0 (by decide)) (LY.k1262 L0) (by decide) rfl (Or.inl rfl)) ?_
    refine XS.go (s_aloadn rfl rfl rfl) ?_
    refine XS.go (s_iloadn rfl rfl rfl) ?_
    refine XS.go (s_puti rfl xf12_453 (LY.lt (by simp only [LY_si, LY_sj]; exact L0) (by decide)) (LY.k1262 (by simp only [LY_si, LY_sj]; exact L0)) (by decide) rfl (Or.inl rfl)) ?_
    refine XR.retv rfl rfl (fun hret => ⟨_, hret, ?_⟩)
    exact ⟨(by unfold m_wrong; rw [if_neg qc4_1]), rfl⟩
theorem LY_m_wrong {h : XH} {a : Int32} {b : Int32} : LY (m_wrong h a b) = LY h := by
  unfold m_wrong
  (repeat' split) <;> simp only [LY_si, LY_sj]
def m_enter (h : XH) (a : Int32) (b : Int32) (c : Int32) (e : Int32) : XH := (hsi (hsi (hsi (hsi (hsi h 1312 (Int32.toNatClampNeg (hi h 1262 87)) a) 1313 (Int32.toNatClampNeg (hi h 1262 87)) b) 1314 (Int32.toNatClampNeg (hi h 1262 87)) c) 1315 (Int32.toNatClampNeg (hi h 1262 87)) e) 1262 87 ((hi h 1262 87) + 1))
set_option maxRecDepth 20000 in
theorem k_enter {l : Launch} {G : XG} {h : XH} {d : Nat} {a : Int32} {b : Int32} {c : Int32} {e : Int32} (L0 : LY h) {x87 : Nat} (ex87 : hi h 1262 87 = nI x87) (lx87 : x87 < 100) : XC l G xEX12_enter d [.ref 1262, .int a, .int b, .int c, .int e] h (fun v h2 => h2 = m_enter h a b c e ∧ v = none) := by
  refine XC.virt xvX12_enter (Nat.le_of_ble_eq_true rfl) ?_
  refine XS.go (s_aloadn rfl rfl rfl) ?_
  refine XS.go (s_getr rfl xf12_163 (LY.lt L0 (by decide)) (LY.k1262 L0) (by decide) rfl (LY.r1262_83 L0)) ?_
  refine XS.go (s_aloadn rfl rfl rfl) ?_
  refine XS.go (s_getie rfl xf12_500 (LY.lt L0 (by decide)) (LY.k1262 L0) (by decide) rfl rfl) ?_
  refine XS.go (s_iloadn rfl rfl rfl) ?_
  refine XS.go (s_iast rfl (LY.lt L0 (by decide)) (LY.k1312 L0) (inN (LY.n1312 L0) ex87 lx87 (by decide))) ?_
  refine XS.go (s_aloadn rfl rfl rfl) ?_
  refine XS.go (s_getr rfl xf12_166 (LY.lt (by simp only [LY_si, LY_sj]; exact L0) (by decide)) (LY.k1262 (by simp only [LY_si, LY_sj]; exact L0)) (by decide) rfl (LY.r1262_84 (by simp only [LY_si, LY_sj]; exact L0))) ?_
  refine XS.go (s_aloadn rfl rfl rfl) ?_
  refine XS.go (s_getie rfl xf12_500 (LY.lt (by simp only [LY_si, LY_sj]; exact L0) (by decide)) (LY.k1262 (by simp only [LY_si, LY_sj]; exact L0)) (by decide) rfl (hi_hsi_na (by decide))) ?_
  refine XS.go (s_iloadn rfl rfl rfl) ?_
  refine XS.go (s_iast rfl (LY.lt (by simp only [LY_si, LY_sj]; exact L0) (by decide)) (LY.k1313 (by simp only [LY_si, LY_sj]; exact L0)) (inN (LY.n1313 (by simp only [LY_si, LY_sj]; exact L0)) ex87 lx87 (by decide))) ?_
  refine XS.go (s_aloadn rfl rfl rfl) ?_
  refine XS.go (s_getr rfl xf12_169 (LY.lt (by simp only [LY_si, LY_sj]; exact L0) (by decide)) (LY.k1262 (by simp only [LY_si, LY_sj]; exact L0)) (by decide) rfl (LY.r1262_85 (by simp only [LY_si, LY_sj]; exact L0))) ?_
  refine XS.go (s_aloadn rfl rfl rfl) ?_
  refine XS.go (s_getie rfl xf12_500 (LY.lt (by simp only [LY_si, LY_sj]; exact L0) (by decide)) (LY.k1262 (by simp only [LY_si, LY_sj]; exact L0)) (by decide) rfl ((hi_hsi_na (by decide)).trans (hi_hsi_na (by decide)))) ?_
  refine XS.go (s_iloadn rfl rfl rfl) ?_
  refine XS.go (s_iast rfl (LY.lt (by simp only [LY_si, LY_sj]; exact L0) (by decide)) (LY.k1314 (by simp only [LY_si, LY_sj]; exact L0)) (inN (LY.n1314 (by simp only [LY_si, LY_sj]; exact L0)) ex87 lx87 (by decide))) ?_
  refine XS.go (s_aloadn rfl rfl rfl) ?_
  refine XS.go (s_getr rfl xf12_172 (LY.lt (by simp only [LY_si, LY_sj]; exact L0) (by decide)) (LY.k1262 (by simp only [LY_si, LY_sj]; exact L0)) (by decide) rfl (LY.r1262_86 (by simp only [LY_si, LY_sj]; exact L0))) ?_
  refine XS.go (s_aloadn rfl rfl rfl) ?_
  refine XS.go (s_getie rfl xf12_500 (LY.lt (by simp only [LY_si, LY_sj]; exact L0) (by decide)) (LY.k1262 (by simp only [LY_si, LY_sj]; exact L0)) (by decide) rfl ((hi_hsi_na (by decide)).trans ((hi_hsi_na (by decide)).trans (hi_hsi_na (by decide))))) ?_
  refine XS.go (s_iload rfl rfl) ?_
  refine XS.go (s_iast rfl (LY.lt (by simp only [LY_si, LY_sj]; exact L0) (by decide)) (LY.k1315 (by simp only [LY_si, LY_sj]; exact L0)) (inN (LY.n1315 (by simp only [LY_si, LY_sj]; exact L0)) ex87 lx87 (by decide))) ?_
  refine XS.go (s_aloadn rfl rfl rfl) ?_
  refine XS.go (s_dup rfl rfl) ?_
  refine XS.go (s_getie rfl xf12_500 (LY.lt (by simp only [LY_si, LY_sj]; exact L0) (by decide)) (LY.k1262 (by simp only [LY_si, LY_sj]; exact L0)) (by decide) rfl ((hi_hsi_na (by decide)).trans ((hi_hsi_na (by decide)).trans ((hi_hsi_na (by decide)).trans (hi_hsi_na (by decide)))))) ?_
  refine XS.go (s_iconst (v := 1) rfl rfl) ?_
  refine XS.go (s_iadd rfl) ?_
  refine XS.go (s_puti rfl xf12_500 (LY.lt (by simp only [LY_si, LY_sj]; exact L0) (by decide)) (LY.k1262 (by simp only [LY_si, LY_sj]; exact L0)) (by decide) rfl (Or.inl rfl)) ?_
  refine XR.retv rfl rfl (fun hret => ⟨_, hret, ?_⟩)
  exact ⟨rfl, rfl⟩
theorem LY_m_enter {h : XH} {a : Int32} {b : Int32} {c : Int32} {e : Int32} : LY (m_enter h a b c e) = LY h := by
  unfold m_enter
  (repeat' split) <;> simp only [LY_si, LY_sj]
def v_told (a : Int32) : Int32 := (if ¬ a = 3 then (if ¬ a = 2 then (if ¬ a = 5 then 4 else 3) else 2) else 1)
set_option maxRecDepth 20000 in
theorem k_told {l : Launch} {G : XG} {h : XH} {d : Nat} {a : Int32} : XC l G xEX12_told d [.int a] h (fun v h2 => h = h2 ∧ v = some (.int (v_told a))) := by
  refine XC.stat xsX12_told (Nat.le_of_ble_eq_true rfl) ?_
  refine XS.go (s_iloadn rfl rfl rfl) ?_
  refine XS.go (s_iconst (v := 3) rfl rfl) ?_
  refine r_icmp_ne (tgt := 9) rfl rfl (fun qc2_1 => ?_) (fun qc2_1 => ?_)
  · skip
    refine XS.go (s_iloadn rfl rfl rfl) ?_
    refine XS.go (s_iconst (v := 2) rfl rfl) ?_
    refine r_icmp_ne (tgt := 18) rfl rfl (fun qc11_2 => ?_) (fun qc11_2 => ?_)
    · skip
      refine XS.go (s_iloadn rfl rfl rfl) ?_
      refine XS.go (s_iconst (v := 5) rfl rfl) ?_
      refine r_icmp_ne (tgt := 27) rfl rfl (fun qc20_3 => ?_) (fun qc20_3 => ?_)
      · skip
        refine XS.go (s_iconst (v := 4) rfl rfl) ?_
        refine XR.reti rfl rfl (fun hret => ⟨_, hret, ?_⟩)
        exact ⟨rfl, (by unfold v_told; rw [if_pos qc2_1, if_pos qc11_2, if_pos qc20_3])⟩
      · skip
        refine XS.go (s_iconst (v := 3) rfl rfl) ?_
        refine XS.go (s_goto (tgt := 28) rfl rfl) ?_
        refine XR.reti rfl rfl (fun hret => ⟨_, hret, ?_⟩)
        exact ⟨rfl, (by unfold v_told; rw [if_pos qc2_1, if_pos qc11_2, if_neg qc20_3])⟩
    · skip
      refine XS.go (s_iconst (v := 2) rfl rfl) ?_
      refine XS.go (s_goto (tgt := 28) rfl rfl) ?_
      refine XR.reti rfl rfl (fun hret => ⟨_, hret, ?_⟩)
      exact ⟨rfl, (by unfold v_told; rw [if_pos qc2_1, if_neg qc11_2])⟩
  · skip
    refine XS.go (s_iconst (v := 1) rfl rfl) ?_
    refine XS.go (s_goto (tgt := 28) rfl rfl) ?_
    refine XR.reti rfl rfl (fun hret => ⟨_, hret, ?_⟩)
    exact ⟨rfl, (by unfold v_told; rw [if_neg qc2_1])⟩
