/-- a method: its class's number, its name, its bytes, its locals, what it returns, its instructions -/
abbrev xEnt : Type := Nat × MethodName × ByteArray × Nat × Option FieldType × List (Nat × Instr × Nat)
def xI (q : xEnt) (pc : Nat) : Option (Instr × Nat) := (q.2.2.2.2.2.find? (fun e => e.1 == pc)).map (fun e => e.2)
def xGood (q : xEnt) : Prop := ∀ e ∈ q.2.2.2.2.2, decode q.2.2.1 e.1 = .ok (e.2.1, e.2.2)
theorem xg_of {q : xEnt} (h : (q.2.2.2.2.2.all fun e => decide (decode q.2.2.1 e.1 = .ok (e.2.1, e.2.2))) = true) : xGood q := fun e he => of_decide_eq_true (List.all_eq_true.mp h e he)
theorem xg_l {code : ByteArray} {l : List (Nat × Instr × Nat)} (h : (l.all fun e => decide (decode code e.1 = .ok (e.2.1, e.2.2))) = true) : ∀ e ∈ l, decode code e.1 = .ok (e.2.1, e.2.2) := fun e he => of_decide_eq_true (List.all_eq_true.mp h e he)
theorem xI_dec {q : xEnt} (g : xGood q) {pc len : Nat} {a : Instr} (h : xI q pc = some (a, len)) : decode q.2.2.1 pc = .ok (a, len) := by
  unfold xI at h
  obtain ⟨e, he, h2⟩ := Option.map_eq_some_iff.mp h
  have h3 := g e (List.mem_of_find?_eq_some he)
  have h4 := List.find?_some he
  have h5 : e.1 = pc := by simpa using h4
  rw [← h5, h3, h2]
/-- the tables' words that stay as they are in every later state -/
def lw_g : List Cond := lw_tbl.filter goodWord
theorem lw_g_good : GoodIn lw_g lw_g := fun w h => ⟨h, good_of_word (List.mem_filter.mp h).2⟩
theorem lg_in {c : Cond} (h : c ∈ tables_1) (g : goodWord c = true) : c ∈ lw_g := List.mem_filter.mpr ⟨List.mem_append_right _ h, g⟩
theorem lg_1 {c : Cond} (i : Nat) (h : tables_1_1[i]? = some c) (g : goodWord c = true) : c ∈ lw_g := lg_in (show c ∈ tables_1 from (fun h => List.mem_append_left _ h) (List.mem_of_getElem? h)) g
theorem lg_2 {c : Cond} (i : Nat) (h : tables_1_2[i]? = some c) (g : goodWord c = true) : c ∈ lw_g := lg_in (show c ∈ tables_1 from (fun h => List.mem_append_right _ (List.mem_append_left _ h)) (List.mem_of_getElem? h)) g
theorem lg_3 {c : Cond} (i : Nat) (h : tables_1_3[i]? = some c) (g : goodWord c = true) : c ∈ lw_g := lg_in (show c ∈ tables_1 from (fun h => List.mem_append_right _ (List.mem_append_right _ (List.mem_append_left _ h))) (List.mem_of_getElem? h)) g
theorem lg_4 {c : Cond} (i : Nat) (h : tables_1_4[i]? = some c) (g : goodWord c = true) : c ∈ lw_g := lg_in (show c ∈ tables_1 from (fun h => List.mem_append_right _ (List.mem_append_right _ (List.mem_append_right _ (List.mem_append_left _ h)))) (List.mem_of_getElem? h)) g
theorem lg_5 {c : Cond} (i : Nat) (h : tables_1_5[i]? = some c) (g : goodWord c = true) : c ∈ lw_g := lg_in (show c ∈ tables_1 from (fun h => List.mem_append_right _ (List.mem_append_right _ (List.mem_append_right _ (List.mem_append_right _ (List.mem_append_left _ h))))) (List.mem_of_getElem? h)) g
theorem lg_6 {c : Cond} (i : Nat) (h : tables_1_6[i]? = some c) (g : goodWord c = true) : c ∈ lw_g := lg_in (show c ∈ tables_1 from (fun h => List.mem_append_right _ (List.mem_append_right _ (List.mem_append_right _ (List.mem_append_right _ (List.mem_append_right _ (List.mem_append_left _ h)))))) (List.mem_of_getElem? h)) g
theorem lg_7 {c : Cond} (i : Nat) (h : tables_1_7[i]? = some c) (g : goodWord c = true) : c ∈ lw_g := lg_in (show c ∈ tables_1 from (fun h => List.mem_append_right _ (List.mem_append_right _ (List.mem_append_right _ (List.mem_append_right _ (List.mem_append_right _ (List.mem_append_right _ (List.mem_append_left _ h))))))) (List.mem_of_getElem? h)) g
theorem lg_8 {c : Cond} (i : Nat) (h : tables_1_8[i]? = some c) (g : goodWord c = true) : c ∈ lw_g := lg_in (show c ∈ tables_1 from (fun h => List.mem_append_right _ (List.mem_append_right _ (List.mem_append_right _ (List.mem_append_right _ (List.mem_append_right _ (List.mem_append_right _ (List.mem_append_right _ (List.mem_append_left _ h)))))))) (List.mem_of_getElem? h)) g
theorem lg_9 {c : Cond} (i : Nat) (h : tables_1_9[i]? = some c) (g : goodWord c = true) : c ∈ lw_g := lg_in (show c ∈ tables_1 from (fun h => List.mem_append_right _ (List.mem_append_right _ (List.mem_append_right _ (List.mem_append_right _ (List.mem_append_right _ (List.mem_append_right _ (List.mem_append_right _ (List.mem_append_right _ (List.mem_append_left _ h))))))))) (List.mem_of_getElem? h)) g
theorem lg_10 {c : Cond} (i : Nat) (h : tables_1_10[i]? = some c) (g : goodWord c = true) : c ∈ lw_g := lg_in (show c ∈ tables_1 from (fun h => List.mem_append_right _ (List.mem_append_right _ (List.mem_append_right _ (List.mem_append_right _ (List.mem_append_right _ (List.mem_append_right _ (List.mem_append_right _ (List.mem_append_right _ (List.mem_append_right _ (h)))))))))) (List.mem_of_getElem? h)) g
theorem lg_pv {y : MethodName} {n : Nat} (h : (y, n) ∈ lw_privs) : Cond.selects y.cls y y ∈ lw_g := List.mem_filter.mpr ⟨List.mem_append_left _ (List.mem_map.mpr ⟨_, h, rfl⟩), rfl⟩
theorem lp_1 {y : MethodName} {n : Nat} (i : Nat) (h : lw_privs_1[i]? = some (y, n)) : Cond.selects y.cls y y ∈ lw_g := lg_pv (show (y, n) ∈ lw_privs from (fun h => List.mem_append_left _ h) (List.mem_of_getElem? h))
theorem lp_2 {y : MethodName} {n : Nat} (i : Nat) (h : lw_privs_2[i]? = some (y, n)) : Cond.selects y.cls y y ∈ lw_g := lg_pv (show (y, n) ∈ lw_privs from (fun h => List.mem_append_right _ (List.mem_append_left _ h)) (List.mem_of_getElem? h))
theorem lp_3 {y : MethodName} {n : Nat} (i : Nat) (h : lw_privs_3[i]? = some (y, n)) : Cond.selects y.cls y y ∈ lw_g := lg_pv (show (y, n) ∈ lw_privs from (fun h => List.mem_append_right _ (List.mem_append_right _ (List.mem_append_left _ h))) (List.mem_of_getElem? h))
theorem lp_4 {y : MethodName} {n : Nat} (i : Nat) (h : lw_privs_4[i]? = some (y, n)) : Cond.selects y.cls y y ∈ lw_g := lg_pv (show (y, n) ∈ lw_privs from (fun h => List.mem_append_right _ (List.mem_append_right _ (List.mem_append_right _ (List.mem_append_left _ h)))) (List.mem_of_getElem? h))
theorem lp_5 {y : MethodName} {n : Nat} (i : Nat) (h : lw_privs_5[i]? = some (y, n)) : Cond.selects y.cls y y ∈ lw_g := lg_pv (show (y, n) ∈ lw_privs from (fun h => List.mem_append_right _ (List.mem_append_right _ (List.mem_append_right _ (List.mem_append_right _ (List.mem_append_left _ h))))) (List.mem_of_getElem? h))
theorem lp_6 {y : MethodName} {n : Nat} (i : Nat) (h : lw_privs_6[i]? = some (y, n)) : Cond.selects y.cls y y ∈ lw_g := lg_pv (show (y, n) ∈ lw_privs from (fun h => List.mem_append_right _ (List.mem_append_right _ (List.mem_append_right _ (List.mem_append_right _ (List.mem_append_right _ (List.mem_append_left _ h)))))) (List.mem_of_getElem? h))
theorem lp_7 {y : MethodName} {n : Nat} (i : Nat) (h : lw_privs_7[i]? = some (y, n)) : Cond.selects y.cls y y ∈ lw_g := lg_pv (show (y, n) ∈ lw_privs from (fun h => List.mem_append_right _ (List.mem_append_right _ (List.mem_append_right _ (List.mem_append_right _ (List.mem_append_right _ (List.mem_append_right _ (List.mem_append_left _ h))))))) (List.mem_of_getElem? h))
theorem lp_8 {y : MethodName} {n : Nat} (i : Nat) (h : lw_privs_8[i]? = some (y, n)) : Cond.selects y.cls y y ∈ lw_g := lg_pv (show (y, n) ∈ lw_privs from (fun h => List.mem_append_right _ (List.mem_append_right _ (List.mem_append_right _ (List.mem_append_right _ (List.mem_append_right _ (List.mem_append_right _ (List.mem_append_right _ (List.mem_append_left _ h)))))))) (List.mem_of_getElem? h))
theorem lp_9 {y : MethodName} {n : Nat} (i : Nat) (h : lw_privs_9[i]? = some (y, n)) : Cond.selects y.cls y y ∈ lw_g := lg_pv (show (y, n) ∈ lw_privs from (fun h => List.mem_append_right _ (List.mem_append_right _ (List.mem_append_right _ (List.mem_append_right _ (List.mem_append_right _ (List.mem_append_right _ (List.mem_append_right _ (List.mem_append_right _ (h))))))))) (List.mem_of_getElem? h))
def xCls (c : Nat) : String := match c with
  | 0 => RX0
  | 1 => RX1
  | 2 => RX2
  | 3 => RX3
  | 4 => RX4
  | 5 => RX5
  | 6 => RX6
  | 7 => RX7
  | 8 => RX8
  | 9 => RX9
  | 10 => RX10
  | 11 => RX11
  | 12 => RX12
  | 14 => RJ0
  | 15 => RJ1
  | 16 => RJ3
  | _ => RL
def xW (q : xEnt) : Cond := .code q.2.1 q.2.2.1 q.2.2.2.1 q.2.2.2.2.1
def xPlain (y : MethodName) (n : Nat) : Prop := y.cls ≠ "java/lang/invoke/MethodHandle" ∧ y.cls ≠ "java/lang/invoke/VarHandle" ∧ (parseMethodDescriptor y.desc).map (fun d => d.parameters.length) = some n
def xPl (y : MethodName) (n : Nat) : Bool := decide (y.cls ≠ "java/lang/invoke/MethodHandle") && decide (y.cls ≠ "java/lang/invoke/VarHandle") && decide ((parseMethodDescriptor y.desc).map (fun d => d.parameters.length) = some n)
theorem xPl_ok {y : MethodName} {n : Nat} (h : xPl y n = true) : xPlain y n := by
  simp only [xPl, Bool.and_eq_true, decide_eq_true_eq] at h
  exact ⟨h.1.1, h.1.2, h.2⟩
/-- a method of an object, a static one, a constructor: what the tables say of it -/
def xVirt (q : xEnt) (n : Nat) : Prop := xGood q ∧ xW q ∈ lw_g ∧ Cond.initialized q.2.1.cls ∈ lw_g ∧ xPlain q.2.1 n ∧ Cond.instanceMethod q.2.1 ∈ lw_g ∧ Cond.selects q.2.1.cls q.2.1 q.2.1 ∈ lw_g ∧ plainName q.2.1.cls = true ∧ q.2.1.cls = xCls q.1
def xStat (q : xEnt) (n : Nat) : Prop := xGood q ∧ xW q ∈ lw_g ∧ Cond.initialized q.2.1.cls ∈ lw_g ∧ xPlain q.2.1 n ∧ Cond.static q.2.1 ∈ lw_g ∧ plainName q.2.1.cls = true ∧ q.2.1.cls = xCls q.1
def xInit (q : xEnt) (n : Nat) : Prop := xGood q ∧ xW q ∈ lw_g ∧ Cond.initialized q.2.1.cls ∈ lw_g ∧ xPlain q.2.1 n ∧ Cond.instanceMethod q.2.1 ∈ lw_g ∧ q.2.1.name = "<init>" ∧ plainName q.2.1.cls = true ∧ q.2.1.cls = xCls q.1
def xTy (ci : Nat) : u_T := (vwCl.getD ci ("", fun _ => ("", "", "", false), 0)).2.1
def xNf (ci : Nat) : Nat := (vwCl.getD ci ("", fun _ => ("", "", "", false), 0)).2.2
/-- the entry idx of own leads to field k of class ci -/
def xLf (own : String) (idx ci k : Nat) : Prop := Cond.fieldLink own idx (xTy ci k).1 (xTy ci k).2.1 (xTy ci k).2.2.1 ∈ lw_g ∧ k < xNf ci
def xLm (own : String) (idx : Nat) (q : xEnt) : Prop := Cond.methodLink own idx q.2.1 ∈ lw_g
