/-! The start: what the statement gives, as the machine of these parts wants it -/
def nrw : List Cond := flatC (Jvm.Cond.and given_1 narrow_1)
def xTm (i : Nat) : Term := Term.string (xStrs.getD i ("", 0, "")).1 (xStrs.getD i ("", 0, "")).2.1
def xTv (i : Nat) : Term := .field (xTm i) "java/lang/String" "value" "[B"
theorem lt_in {c : Cond} (h : c ∈ tables_1) : c ∈ lw_tbl := List.mem_append_right _ h
theorem lt_1 {c : Cond} (i : Nat) (h : tables_1_1[i]? = some c) : c ∈ lw_tbl := lt_in (show c ∈ tables_1 from (fun h => List.mem_append_left _ h) (List.mem_of_getElem? h))
theorem lt_2 {c : Cond} (i : Nat) (h : tables_1_2[i]? = some c) : c ∈ lw_tbl := lt_in (show c ∈ tables_1 from (fun h => List.mem_append_right _ (List.mem_append_left _ h)) (List.mem_of_getElem? h))
theorem lt_3 {c : Cond} (i : Nat) (h : tables_1_3[i]? = some c) : c ∈ lw_tbl := lt_in (show c ∈ tables_1 from (fun h => List.mem_append_right _ (List.mem_append_right _ (List.mem_append_left _ h))) (List.mem_of_getElem? h))
theorem lt_4 {c : Cond} (i : Nat) (h : tables_1_4[i]? = some c) : c ∈ lw_tbl := lt_in (show c ∈ tables_1 from (fun h => List.mem_append_right _ (List.mem_append_right _ (List.mem_append_right _ (List.mem_append_left _ h)))) (List.mem_of_getElem? h))
theorem lt_5 {c : Cond} (i : Nat) (h : tables_1_5[i]? = some c) : c ∈ lw_tbl := lt_in (show c ∈ tables_1 from (fun h => List.mem_append_right _ (List.mem_append_right _ (List.mem_append_right _ (List.mem_append_right _ (List.mem_append_left _ h))))) (List.mem_of_getElem? h))
theorem lt_6 {c : Cond} (i : Nat) (h : tables_1_6[i]? = some c) : c ∈ lw_tbl := lt_in (show c ∈ tables_1 from (fun h => List.mem_append_right _ (List.mem_append_right _ (List.mem_append_right _ (List.mem_append_right _ (List.mem_append_right _ (List.mem_append_left _ h)))))) (List.mem_of_getElem? h))
theorem lt_7 {c : Cond} (i : Nat) (h : tables_1_7[i]? = some c) : c ∈ lw_tbl := lt_in (show c ∈ tables_1 from (fun h => List.mem_append_right _ (List.mem_append_right _ (List.mem_append_right _ (List.mem_append_right _ (List.mem_append_right _ (List.mem_append_right _ (List.mem_append_left _ h))))))) (List.mem_of_getElem? h))
theorem lt_8 {c : Cond} (i : Nat) (h : tables_1_8[i]? = some c) : c ∈ lw_tbl := lt_in (show c ∈ tables_1 from (fun h => List.mem_append_right _ (List.mem_append_right _ (List.mem_append_right _ (List.mem_append_right _ (List.mem_append_right _ (List.mem_append_right _ (List.mem_append_right _ (List.mem_append_left _ h)))))))) (List.mem_of_getElem? h))
theorem lt_9 {c : Cond} (i : Nat) (h : tables_1_9[i]? = some c) : c ∈ lw_tbl := lt_in (show c ∈ tables_1 from (fun h => List.mem_append_right _ (List.mem_append_right _ (List.mem_append_right _ (List.mem_append_right _ (List.mem_append_right _ (List.mem_append_right _ (List.mem_append_right _ (List.mem_append_right _ (List.mem_append_left _ h))))))))) (List.mem_of_getElem? h))
theorem lt_10 {c : Cond} (i : Nat) (h : tables_1_10[i]? = some c) : c ∈ lw_tbl := lt_in (show c ∈ tables_1 from (fun h => List.mem_append_right _ (List.mem_append_right _ (List.mem_append_right _ (List.mem_append_right _ (List.mem_append_right _ (List.mem_append_right _ (List.mem_append_right _ (List.mem_append_right _ (List.mem_append_right _ (h)))))))))) (List.mem_of_getElem? h))
theorem xa1 {a b : Cond} {args : Array Value} {s : State} (h : (Cond.and a b).before args s = true) : a.before args s = true := by
  rw [Cond.before_and, Bool.and_eq_true] at h; exact h.1
theorem xa2 {a b : Cond} {args : Array Value} {s : State} (h : (Cond.and a b).before args s = true) : b.before args s = true := by
  rw [Cond.before_and, Bool.and_eq_true] at h; exact h.2
theorem ss0 {args : Array Value} {s : State} (h : narrow_1.before args s = true) : (Cond.exactly (xTm 0) "java/lang/String").before args s = true ∧ (Cond.eq (.field (xTm 0) "java/lang/String" "coder" "B") (.int 0)).before args s = true ∧ (Cond.arrayOf (xTv 0) .byte).before args s = true ∧ (Cond.eq (.length (xTv 0)) (.int (Int32.ofNat (xsL.getD 0 0)))).before args s = true ∧ ∀ j, j < xsL.getD 0 0 → (Cond.eq (.elem (xTv 0) (.int (Int32.ofNat j))) (.int ((xsB.getD 0 []).getD j 0))).before args s = true := by
  refine ⟨(xa1 (xa1 (xa2 (xa2 (xa1 (xa1 (xa1 (xa2 (xa1 (xa1 h)))))))))), (xa2 (xa1 (xa2 (xa2 (xa1 (xa1 (xa1 (xa2 (xa1 (xa1 h)))))))))), (xa1 (xa2 (xa2 (xa2 (xa1 (xa1 (xa1 (xa2 (xa1 (xa1 h)))))))))), (xa2 (xa2 (xa2 (xa2 (xa1 (xa1 (xa1 (xa2 (xa1 (xa1 h)))))))))), fun j hj => ?_⟩
  have hj2 : j < 4 := hj
  match j, hj2 with
  | 0, _ => exact (xa1 (xa1 (xa1 (xa2 (xa1 (xa1 (xa2 (xa1 (xa1 h)))))))))
  | 1, _ => exact (xa1 (xa2 (xa1 (xa1 (xa2 (xa1 (xa1 (xa2 (xa1 (xa1 h))))))))))
  | 2, _ => exact (xa2 (xa2 (xa1 (xa1 (xa2 (xa1 (xa1 (xa2 (xa1 (xa1 h))))))))))
  | 3, _ => exact (xa1 (xa2 (xa1 (xa2 (xa1 (xa1 (xa2 (xa1 (xa1 h)))))))))
  | n + 4, hn => exact absurd hn (by omega)
theorem ss1 {args : Array Value} {s : State} (h : narrow_1.before args s = true) : (Cond.exactly (xTm 1) "java/lang/String").before args s = true ∧ (Cond.eq (.field (xTm 1) "java/lang/String" "coder" "B") (.int 0)).before args s = true ∧ (Cond.arrayOf (xTv 1) .byte).before args s = true ∧ (Cond.eq (.length (xTv 1)) (.int (Int32.ofNat (xsL.getD 1 0)))).before args s = true ∧ ∀ j, j < xsL.getD 1 0 → (Cond.eq (.elem (xTv 1) (.int (Int32.ofNat j))) (.int ((xsB.getD 1 []).getD j 0))).before args s = true := by
  refine ⟨(xa1 (xa2 (xa2 (xa1 (xa2 (xa1 (xa1 (xa2 (xa1 (xa1 h)))))))))), (xa2 (xa2 (xa2 (xa1 (xa2 (xa1 (xa1 (xa2 (xa1 (xa1 h)))))))))), (xa1 (xa1 (xa2 (xa2 (xa1 (xa1 (xa2 (xa1 (xa1 h))))))))), (xa1 (xa2 (xa1 (xa2 (xa2 (xa1 (xa1 (xa2 (xa1 (xa1 h)))))))))), fun j hj => ?_⟩
  have hj2 : j < 4 := hj
  match j, hj2 with
  | 0, _ => exact (xa2 (xa2 (xa1 (xa2 (xa2 (xa1 (xa1 (xa2 (xa1 (xa1 h))))))))))
  | 1, _ => exact (xa1 (xa1 (xa2 (xa2 (xa2 (xa1 (xa1 (xa2 (xa1 (xa1 h))))))))))
  | 2, _ => exact (xa2 (xa1 (xa2 (xa2 (xa2 (xa1 (xa1 (xa2 (xa1 (xa1 h))))))))))
  | 3, _ => exact (xa1 (xa2 (xa2 (xa2 (xa2 (xa1 (xa1 (xa2 (xa1 (xa1 h))))))))))
  | n + 4, hn => exact absurd hn (by omega)
theorem ss2 {args : Array Value} {s : State} (h : narrow_1.before args s = true) : (Cond.exactly (xTm 2) "java/lang/String").before args s = true ∧ (Cond.eq (.field (xTm 2) "java/lang/String" "coder" "B") (.int 0)).before args s = true ∧ (Cond.arrayOf (xTv 2) .byte).before args s = true ∧ (Cond.eq (.length (xTv 2)) (.int (Int32.ofNat (xsL.getD 2 0)))).before args s = true ∧ ∀ j, j < xsL.getD 2 0 → (Cond.eq (.elem (xTv 2) (.int (Int32.ofNat j))) (.int ((xsB.getD 2 []).getD j 0))).before args s = true := by
  refine ⟨(xa2 (xa2 (xa2 (xa2 (xa2 (xa1 (xa1 (xa2 (xa1 (xa1 h)))))))))), (xa1 (xa1 (xa1 (xa1 (xa2 (xa1 (xa2 (xa1 (xa1 h))))))))), (xa1 (xa2 (xa1 (xa1 (xa1 (xa2 (xa1 (xa2 (xa1 (xa1 h)))))))))), (xa2 (xa2 (xa1 (xa1 (xa1 (xa2 (xa1 (xa2 (xa1 (xa1 h)))))))))), fun j hj => ?_⟩
  have hj2 : j < 5 := hj
  match j, hj2 with
  | 0, _ => exact (xa1 (xa2 (xa1 (xa1 (xa2 (xa1 (xa2 (xa1 (xa1 h)))))))))
  | 1, _ => exact (xa1 (xa2 (xa2 (xa1 (xa1 (xa2 (xa1 (xa2 (xa1 (xa1 h))))))))))
  | 2, _ => exact (xa2 (xa2 (xa2 (xa1 (xa1 (xa2 (xa1 (xa2 (xa1 (xa1 h))))))))))
  | 3, _ => exact (xa1 (xa1 (xa2 (xa1 (xa2 (xa1 (xa2 (xa1 (xa1 h)))))))))
  | 4, _ => exact (xa1 (xa2 (xa1 (xa2 (xa1 (xa2 (xa1 (xa2 (xa1 (xa1 h))))))))))
  | n + 5, hn => exact absurd hn (by omega)
theorem ss3 {args : Array Value} {s : State} (h : narrow_1.before args s = true) : (Cond.exactly (xTm 3) "java/lang/String").before args s = true ∧ (Cond.eq (.field (xTm 3) "java/lang/String" "coder" "B") (.int 0)).before args s = true ∧ (Cond.arrayOf (xTv 3) .byte).before args s = true ∧ (Cond.eq (.length (xTv 3)) (.int (Int32.ofNat (xsL.getD 3 0)))).before args s = true ∧ ∀ j, j < xsL.getD 3 0 → (Cond.eq (.elem (xTv 3) (.int (Int32.ofNat j))) (.int ((xsB.getD 3 []).getD j 0))).before args s = true := by
  refine ⟨(xa2 (xa2 (xa1 (xa2 (xa1 (xa2 (xa1 (xa2 (xa1 (xa1 h)))))))))), (xa1 (xa1 (xa2 (xa2 (xa1 (xa2 (xa1 (xa2 (xa1 (xa1 h)))))))))), (xa2 (xa1 (xa2 (xa2 (xa1 (xa2 (xa1 (xa2 (xa1 (xa1 h)))))))))), (xa1 (xa2 (xa2 (xa2 (xa1 (xa2 (xa1 (xa2 (xa1 (xa1 h)))))))))), fun j hj => ?_⟩
  have hj2 : j < 5 := hj
  match j, hj2 with
  | 0, _ => exact (xa2 (xa2 (xa2 (xa2 (xa1 (xa2 (xa1 (xa2 (xa1 (xa1 h))))))))))
  | 1, _ => exact (xa1 (xa1 (xa1 (xa2 (xa2 (xa1 (xa2 (xa1 (xa1 h)))))))))
  | 2, _ => exact (xa1 (xa2 (xa1 (xa1 (xa2 (xa2 (xa1 (xa2 (xa1 (xa1 h))))))))))
  | 3, _ => exact (xa2 (xa2 (xa1 (xa1 (xa2 (xa2 (xa1 (xa2 (xa1 (xa1 h))))))))))
  | 4, _ => exact (xa1 (xa1 (xa2 (xa1 (xa2 (xa2 (xa1 (xa2 (xa1 (xa1 h))))))))))
  | n + 5, hn => exact absurd hn (by omega)
theorem ss4 {args : Array Value} {s : State} (h : narrow_1.before args s = true) : (Cond.exactly (xTm 4) "java/lang/String").before args s = true ∧ (Cond.eq (.field (xTm 4) "java/lang/String" "coder" "B") (.int 0)).before args s = true ∧ (Cond.arrayOf (xTv 4) .byte).before args s = true ∧ (Cond.eq (.length (xTv 4)) (.int (Int32.ofNat (xsL.getD 4 0)))).before args s = true ∧ ∀ j, j < xsL.getD 4 0 → (Cond.eq (.elem (xTv 4) (.int (Int32.ofNat j))) (.int ((xsB.getD 4 []).getD j 0))).before args s = true := by
  refine ⟨(xa2 (xa1 (xa2 (xa1 (xa2 (xa2 (xa1 (xa2 (xa1 (xa1 h)))))))))), (xa1 (xa2 (xa2 (xa1 (xa2 (xa2 (xa1 (xa2 (xa1 (xa1 h)))))))))), (xa2 (xa2 (xa2 (xa1 (xa2 (xa2 (xa1 (xa2 (xa1 (xa1 h)))))))))), (xa1 (xa1 (xa2 (xa2 (xa2 (xa1 (xa2 (xa1 (xa1 h))))))))), fun j hj => ?_⟩
  have hj2 : j < 6 := hj
  match j, hj2 with
  | 0, _ => exact (xa1 (xa2 (xa1 (xa2 (xa2 (xa2 (xa1 (xa2 (xa1 (xa1 h))))))))))
  | 1, _ => exact (xa2 (xa2 (xa1 (xa2 (xa2 (xa2 (xa1 (xa2 (xa1 (xa1 h))))))))))
  | 2, _ => exact (xa1 (xa1 (xa2 (xa2 (xa2 (xa2 (xa1 (xa2 (xa1 (xa1 h))))))))))
  | 3, _ => exact (xa2 (xa1 (xa2 (xa2 (xa2 (xa2 (xa1 (xa2 (xa1 (xa1 h))))))))))
  | 4, _ => exact (xa1 (xa2 (xa2 (xa2 (xa2 (xa2 (xa1 (xa2 (xa1 (xa1 h))))))))))
  | 5, _ => exact (xa2 (xa2 (xa2 (xa2 (xa2 (xa2 (xa1 (xa2 (xa1 (xa1 h))))))))))
  | n + 6, hn => exact absurd hn (by omega)
theorem ss5 {args : Array Value} {s : State} (h : narrow_1.before args s = true) : (Cond.exactly (xTm 5) "java/lang/String").before args s = true ∧ (Cond.eq (.field (xTm 5) "java/lang/String" "coder" "B") (.int 0)).before args s = true ∧ (Cond.arrayOf (xTv 5) .byte).before args s = true ∧ (Cond.eq (.length (xTv 5)) (.int (Int32.ofNat (xsL.getD 5 0)))).before args s = true ∧ ∀ j, j < xsL.getD 5 0 → (Cond.eq (.elem (xTv 5) (.int (Int32.ofNat j))) (.int ((xsB.getD 5 []).getD j 0))).before args s = true := by
  refine ⟨(xa1 (xa1 (xa1 (xa1 (xa1 (xa2 (xa2 (xa1 (xa1 h))))))))), (xa1 (xa2 (xa1 (xa1 (xa1 (xa1 (xa2 (xa2 (xa1 (xa1 h)))))))))), (xa2 (xa2 (xa1 (xa1 (xa1 (xa1 (xa2 (xa2 (xa1 (xa1 h)))))))))), (xa1 (xa2 (xa1 (xa1 (xa1 (xa2 (xa2 (xa1 (xa1 h))))))))), fun j hj => ?_⟩
  have hj2 : j < 3 := hj
  match j, hj2 with
  | 0, _ => exact (xa1 (xa2 (xa2 (xa1 (xa1 (xa1 (xa2 (xa2 (xa1 (xa1 h))))))))))
  | 1, _ => exact (xa2 (xa2 (xa2 (xa1 (xa1 (xa1 (xa2 (xa2 (xa1 (xa1 h))))))))))
  | 2, _ => exact (xa1 (xa1 (xa2 (xa1 (xa1 (xa2 (xa2 (xa1 (xa1 h)))))))))
  | n + 3, hn => exact absurd hn (by omega)
theorem ss6 {args : Array Value} {s : State} (h : narrow_1.before args s = true) : (Cond.exactly (xTm 6) "java/lang/String").before args s = true ∧ (Cond.eq (.field (xTm 6) "java/lang/String" "coder" "B") (.int 0)).before args s = true ∧ (Cond.arrayOf (xTv 6) .byte).before args s = true ∧ (Cond.eq (.length (xTv 6)) (.int (Int32.ofNat (xsL.getD 6 0)))).before args s = true ∧ ∀ j, j < xsL.getD 6 0 → (Cond.eq (.elem (xTv 6) (.int (Int32.ofNat j))) (.int ((xsB.getD 6 []).getD j 0))).before args s = true := by
  refine ⟨(xa1 (xa2 (xa1 (xa2 (xa1 (xa1 (xa2 (xa2 (xa1 (xa1 h)))))))))), (xa2 (xa2 (xa1 (xa2 (xa1 (xa1 (xa2 (xa2 (xa1 (xa1 h)))))))))), (xa1 (xa1 (xa2 (xa2 (xa1 (xa1 (xa2 (xa2 (xa1 (xa1 h)))))))))), (xa2 (xa1 (xa2 (xa2 (xa1 (xa1 (xa2 (xa2 (xa1 (xa1 h)))))))))), fun j hj => ?_⟩
  have hj2 : j < 4 := hj
  match j, hj2 with
  | 0, _ => exact (xa1 (xa2 (xa2 (xa2 (xa1 (xa1 (xa2 (xa2 (xa1 (xa1 h))))))))))
  | 1, _ => exact (xa2 (xa2 (xa2 (xa2 (xa1 (xa1 (xa2 (xa2 (xa1 (xa1 h))))))))))
  | 2, _ => exact (xa1 (xa1 (xa1 (xa2 (xa1 (xa2 (xa2 (xa1 (xa1 h)))))))))
  | 3, _ => exact (xa1 (xa2 (xa1 (xa1 (xa2 (xa1 (xa2 (xa2 (xa1 (xa1 h))))))))))
  | n + 4, hn => exact absurd hn (by omega)
theorem ss7 {args : Array Value} {s : State} (h : narrow_1.before args s = true) : (Cond.exactly (xTm 7) "java/lang/String").before args s = true ∧ (Cond.eq (.field (xTm 7) "java/lang/String" "coder" "B") (.int 0)).before args s = true ∧ (Cond.arrayOf (xTv 7) .byte).before args s = true ∧ (Cond.eq (.length (xTv 7)) (.int (Int32.ofNat (xsL.getD 7 0)))).before args s = true ∧ ∀ j, j < xsL.getD 7 0 → (Cond.eq (.elem (xTv 7) (.int (Int32.ofNat j))) (.int ((xsB.getD 7 []).getD j 0))).before args s = true := by
  refine ⟨(xa2 (xa2 (xa1 (xa1 (xa2 (xa1 (xa2 (xa2 (xa1 (xa1 h)))))))))), (xa1 (xa2 (xa1 (xa2 (xa1 (xa2 (xa2 (xa1 (xa1 h))))))))), (xa1 (xa2 (xa2 (xa1 (xa2 (xa1 (xa2 (xa2 (xa1 (xa1 h)))))))))), (xa2 (xa2 (xa2 (xa1 (xa2 (xa1 (xa2 (xa2 (xa1 (xa1 h)))))))))), fun j hj => ?_⟩
  have hj2 : j < 4 := hj
  match j, hj2 with
  | 0, _ => exact (xa1 (xa1 (xa2 (xa2 (xa1 (xa2 (xa2 (xa1 (xa1 h)))))))))
  | 1, _ => exact (xa1 (xa2 (xa1 (xa2 (xa2 (xa1 (xa2 (xa2 (xa1 (xa1 h))))))))))
  | 2, _ => exact (xa2 (xa2 (xa1 (xa2 (xa2 (xa1 (xa2 (xa2 (xa1 (xa1 h))))))))))
  | 3, _ => exact (xa1 (xa1 (xa2 (xa2 (xa2 (xa1 (xa2 (xa2 (xa1 (xa1 h))))))))))
  | n + 4, hn => exact absurd hn (by omega)
theorem ss8 {args : Array Value} {s : State} (h : narrow_1.before args s = true) : (Cond.exactly (xTm 8) "java/lang/String").before args s = true ∧ (Cond.eq (.field (xTm 8) "java/lang/String" "coder" "B") (.int 0)).before args s = true ∧ (Cond.arrayOf (xTv 8) .byte).before args s = true ∧ (Cond.eq (.length (xTv 8)) (.int (Int32.ofNat (xsL.getD 8 0)))).before args s = true ∧ ∀ j, j < xsL.getD 8 0 → (Cond.eq (.elem (xTv 8) (.int (Int32.ofNat j))) (.int ((xsB.getD 8 []).getD j 0))).before args s = true := by
  refine ⟨(xa2 (xa1 (xa2 (xa2 (xa2 (xa1 (xa2 (xa2 (xa1 (xa1 h)))))))))), (xa1 (xa2 (xa2 (xa2 (xa2 (xa1 (xa2 (xa2 (xa1 (xa1 h)))))))))), (xa2 (xa2 (xa2 (xa2 (xa2 (xa1 (xa2 (xa2 (xa1 (xa1 h)))))))))), (xa1 (xa1 (xa1 (xa1 (xa2 (xa2 (xa2 (xa1 (xa1 h))))))))), fun j hj => ?_⟩
  have hj2 : j < 5 := hj
  match j, hj2 with
  | 0, _ => exact (xa1 (xa2 (xa1 (xa1 (xa1 (xa2 (xa2 (xa2 (xa1 (xa1 h))))))))))
  | 1, _ => exact (xa2 (xa2 (xa1 (xa1 (xa1 (xa2 (xa2 (xa2 (xa1 (xa1 h))))))))))
  | 2, _ => exact (xa1 (xa2 (xa1 (xa1 (xa2 (xa2 (xa2 (xa1 (xa1 h)))))))))
  | 3, _ => exact (xa1 (xa2 (xa2 (xa1 (xa1 (xa2 (xa2 (xa2 (xa1 (xa1 h))))))))))
  | 4, _ => exact (xa2 (xa2 (xa2 (xa1 (xa1 (xa2 (xa2 (xa2 (xa1 (xa1 h))))))))))
  | n + 5, hn => exact absurd hn (by omega)
theorem ss9 {args : Array Value} {s : State} (h : narrow_1.before args s = true) : (Cond.exactly (xTm 9) "java/lang/String").before args s = true ∧ (Cond.eq (.field (xTm 9) "java/lang/String" "coder" "B") (.int 0)).before args s = true ∧ (Cond.arrayOf (xTv 9) .byte).before args s = true ∧ (Cond.eq (.length (xTv 9)) (.int (Int32.ofNat (xsL.getD 9 0)))).before args s = true ∧ ∀ j, j < xsL.getD 9 0 → (Cond.eq (.elem (xTv 9) (.int (Int32.ofNat j))) (.int ((xsB.getD 9 []).getD j 0))).before args s = true := by
  refine ⟨(xa1 (xa1 (xa2 (xa1 (xa2 (xa2 (xa2 (xa1 (xa1 h))))))))), (xa1 (xa2 (xa1 (xa2 (xa1 (xa2 (xa2 (xa2 (xa1 (xa1 h)))))))))), (xa2 (xa2 (xa1 (xa2 (xa1 (xa2 (xa2 (xa2 (xa1 (xa1 h)))))))))), (xa1 (xa1 (xa2 (xa2 (xa1 (xa2 (xa2 (xa2 (xa1 (xa1 h)))))))))), fun j hj => ?_⟩
  have hj2 : j < 5 := hj
  match j, hj2 with
  | 0, _ => exact (xa2 (xa1 (xa2 (xa2 (xa1 (xa2 (xa2 (xa2 (xa1 (xa1 h))))))))))
  | 1, _ => exact (xa1 (xa2 (xa2 (xa2 (xa1 (xa2 (xa2 (xa2 (xa1 (xa1 h))))))))))
  | 2, _ => exact (xa2 (xa2 (xa2 (xa2 (xa1 (xa2 (xa2 (xa2 (xa1 (xa1 h))))))))))
  | 3, _ => exact (xa1 (xa1 (xa1 (xa2 (xa2 (xa2 (xa2 (xa1 (xa1 h)))))))))
  | 4, _ => exact (xa1 (xa2 (xa1 (xa1 (xa2 (xa2 (xa2 (xa2 (xa1 (xa1 h))))))))))
  | n + 5, hn => exact absurd hn (by omega)
theorem ss10 {args : Array Value} {s : State} (h : narrow_1.before args s = true) : (Cond.exactly (xTm 10) "java/lang/String").before args s = true ∧ (Cond.eq (.field (xTm 10) "java/lang/String" "coder" "B") (.int 0)).before args s = true ∧ (Cond.arrayOf (xTv 10) .byte).before args s = true ∧ (Cond.eq (.length (xTv 10)) (.int (Int32.ofNat (xsL.getD 10 0)))).before args s = true ∧ ∀ j, j < xsL.getD 10 0 → (Cond.eq (.elem (xTv 10) (.int (Int32.ofNat j))) (.int ((xsB.getD 10 []).getD j 0))).before args s = true := by
  refine ⟨(xa2 (xa2 (xa1 (xa1 (xa2 (xa2 (xa2 (xa2 (xa1 (xa1 h)))))))))), (xa1 (xa1 (xa2 (xa1 (xa2 (xa2 (xa2 (xa2 (xa1 (xa1 h)))))))))), (xa2 (xa1 (xa2 (xa1 (xa2 (xa2 (xa2 (xa2 (xa1 (xa1 h)))))))))), (xa1 (xa2 (xa2 (xa1 (xa2 (xa2 (xa2 (xa2 (xa1 (xa1 h)))))))))), fun j hj => ?_⟩
  have hj2 : j < 6 := hj
  match j, hj2 with
  | 0, _ => exact (xa2 (xa2 (xa2 (xa1 (xa2 (xa2 (xa2 (xa2 (xa1 (xa1 h))))))))))
  | 1, _ => exact (xa1 (xa1 (xa2 (xa2 (xa2 (xa2 (xa2 (xa1 (xa1 h)))))))))
  | 2, _ => exact (xa1 (xa2 (xa1 (xa2 (xa2 (xa2 (xa2 (xa2 (xa1 (xa1 h))))))))))
  | 3, _ => exact (xa2 (xa2 (xa1 (xa2 (xa2 (xa2 (xa2 (xa2 (xa1 (xa1 h))))))))))
  | 4, _ => exact (xa1 (xa1 (xa2 (xa2 (xa2 (xa2 (xa2 (xa2 (xa1 (xa1 h))))))))))
  | 5, _ => exact (xa2 (xa1 (xa2 (xa2 (xa2 (xa2 (xa2 (xa2 (xa1 (xa1 h))))))))))
  | n + 6, hn => exact absurd hn (by omega)
theorem ss11 {args : Array Value} {s : State} (h : narrow_1.before args s = true) : (Cond.exactly (xTm 11) "java/lang/String").before args s = true ∧ (Cond.eq (.field (xTm 11) "java/lang/String" "coder" "B") (.int 0)).before args s = true ∧ (Cond.arrayOf (xTv 11) .byte).before args s = true ∧ (Cond.eq (.length (xTv 11)) (.int (Int32.ofNat (xsL.getD 11 0)))).before args s = true ∧ ∀ j, j < xsL.getD 11 0 → (Cond.eq (.elem (xTv 11) (.int (Int32.ofNat j))) (.int ((xsB.getD 11 []).getD j 0))).before args s = true := by
  refine ⟨(xa1 (xa2 (xa2 (xa2 (xa2 (xa2 (xa2 (xa2 (xa1 (xa1 h)))))))))), (xa2 (xa2 (xa2 (xa2 (xa2 (xa2 (xa2 (xa2 (xa1 (xa1 h)))))))))), (xa1 (xa1 (xa1 (xa1 (xa1 (xa1 (xa1 (xa2 (xa1 h))))))))), (xa1 (xa2 (xa1 (xa1 (xa1 (xa1 (xa1 (xa1 (xa2 (xa1 h)))))))))), fun j hj => ?_⟩
  have hj2 : j < 4 := hj
  match j, hj2 with
  | 0, _ => exact (xa2 (xa2 (xa1 (xa1 (xa1 (xa1 (xa1 (xa1 (xa2 (xa1 h))))))))))
  | 1, _ => exact (xa1 (xa2 (xa1 (xa1 (xa1 (xa1 (xa1 (xa2 (xa1 h)))))))))
  | 2, _ => exact (xa1 (xa2 (xa2 (xa1 (xa1 (xa1 (xa1 (xa1 (xa2 (xa1 h))))))))))
  | 3, _ => exact (xa2 (xa2 (xa2 (xa1 (xa1 (xa1 (xa1 (xa1 (xa2 (xa1 h))))))))))
  | n + 4, hn => exact absurd hn (by omega)
theorem ss12 {args : Array Value} {s : State} (h : narrow_1.before args s = true) : (Cond.exactly (xTm 12) "java/lang/String").before args s = true ∧ (Cond.eq (.field (xTm 12) "java/lang/String" "coder" "B") (.int 0)).before args s = true ∧ (Cond.arrayOf (xTv 12) .byte).before args s = true ∧ (Cond.eq (.length (xTv 12)) (.int (Int32.ofNat (xsL.getD 12 0)))).before args s = true ∧ ∀ j, j < xsL.getD 12 0 → (Cond.eq (.elem (xTv 12) (.int (Int32.ofNat j))) (.int ((xsB.getD 12 []).getD j 0))).before args s = true := by
  refine ⟨(xa1 (xa1 (xa2 (xa1 (xa1 (xa1 (xa1 (xa2 (xa1 h))))))))), (xa1 (xa2 (xa1 (xa2 (xa1 (xa1 (xa1 (xa1 (xa2 (xa1 h)))))))))), (xa2 (xa2 (xa1 (xa2 (xa1 (xa1 (xa1 (xa1 (xa2 (xa1 h)))))))))), (xa1 (xa1 (xa2 (xa2 (xa1 (xa1 (xa1 (xa1 (xa2 (xa1 h)))))))))), fun j hj => ?_⟩
  have hj2 : j < 6 := hj
  match j, hj2 with
  | 0, _ => exact (xa2 (xa1 (xa2 (xa2 (xa1 (xa1 (xa1 (xa1 (xa2 (xa1 h))))))))))
  | 1, _ => exact (xa1 (xa2 (xa2 (xa2 (xa1 (xa1 (xa1 (xa1 (xa2 (xa1 h))))))))))
  | 2, _ => exact (xa2 (xa2 (xa2 (xa2 (xa1 (xa1 (xa1 (xa1 (xa2 (xa1 h))))))))))
  | 3, _ => exact (xa1 (xa1 (xa1 (xa2 (xa1 (xa1 (xa1 (xa2 (xa1 h)))))))))
  | 4, _ => exact (xa1 (xa2 (xa1 (xa1 (xa2 (xa1 (xa1 (xa1 (xa2 (xa1 h))))))))))
  | 5, _ => exact (xa2 (xa2 (xa1 (xa1 (xa2 (xa1 (xa1 (xa1 (xa2 (xa1 h))))))))))
  | n + 6, hn => exact absurd hn (by omega)
theorem ss13 {args : Array Value} {s : State} (h : narrow_1.before args s = true) : (Cond.exactly (xTm 13) "java/lang/String").before args s = true ∧ (Cond.eq (.field (xTm 13) "java/lang/String" "coder" "B") (.int 0)).before args s = true ∧ (Cond.arrayOf (xTv 13) .byte).before args s = true ∧ (Cond.eq (.length (xTv 13)) (.int (Int32.ofNat (xsL.getD 13 0)))).before args s = true ∧ ∀ j, j < xsL.getD 13 0 → (Cond.eq (.elem (xTv 13) (.int (Int32.ofNat j))) (.int ((xsB.getD 13 []).getD j 0))).before args s = true := by
  refine ⟨(xa1 (xa2 (xa1 (xa2 (xa1 (xa1 (xa1 (xa2 (xa1 h))))))))), (xa1 (xa2 (xa2 (xa1 (xa2 (xa1 (xa1 (xa1 (xa2 (xa1 h)))))))))), (xa2 (xa2 (xa2 (xa1 (xa2 (xa1 (xa1 (xa1 (xa2 (xa1 h)))))))))), (xa1 (xa1 (xa2 (xa2 (xa1 (xa1 (xa1 (xa2 (xa1 h))))))))), fun j hj => ?_⟩
  have hj2 : j < 5 := hj
  match j, hj2 with
  | 0, _ => exact (xa1 (xa2 (xa1 (xa2 (xa2 (xa1 (xa1 (xa1 (xa2 (xa1 h))))))))))
  | 1, _ => exact (xa2 (xa2 (xa1 (xa2 (xa2 (xa1 (xa1 (xa1 (xa2 (xa1 h))))))))))
  | 2, _ => exact (xa1 (xa1 (xa2 (xa2 (xa2 (xa1 (xa1 (xa1 (xa2 (xa1 h))))))))))
  | 3, _ => exact (xa2 (xa1 (xa2 (xa2 (xa2 (xa1 (xa1 (xa1 (xa2 (xa1 h))))))))))
  | 4, _ => exact (xa1 (xa2 (xa2 (xa2 (xa2 (xa1 (xa1 (xa1 (xa2 (xa1 h))))))))))
  | n + 5, hn => exact absurd hn (by omega)
theorem ss14 {args : Array Value} {s : State} (h : narrow_1.before args s = true) : (Cond.exactly (xTm 14) "java/lang/String").before args s = true ∧ (Cond.eq (.field (xTm 14) "java/lang/String" "coder" "B") (.int 0)).before args s = true ∧ (Cond.arrayOf (xTv 14) .byte).before args s = true ∧ (Cond.eq (.length (xTv 14)) (.int (Int32.ofNat (xsL.getD 14 0)))).before args s = true ∧ ∀ j, j < xsL.getD 14 0 → (Cond.eq (.elem (xTv 14) (.int (Int32.ofNat j))) (.int ((xsB.getD 14 []).getD j 0))).before args s = true := by
  refine ⟨(xa2 (xa2 (xa2 (xa2 (xa2 (xa1 (xa1 (xa1 (xa2 (xa1 h)))))))))), (xa1 (xa1 (xa1 (xa1 (xa2 (xa1 (xa1 (xa2 (xa1 h))))))))), (xa1 (xa2 (xa1 (xa1 (xa1 (xa2 (xa1 (xa1 (xa2 (xa1 h)))))))))), (xa2 (xa2 (xa1 (xa1 (xa1 (xa2 (xa1 (xa1 (xa2 (xa1 h)))))))))), fun j hj => ?_⟩
  have hj2 : j < 5 := hj
  match j, hj2 with
  | 0, _ => exact (xa1 (xa2 (xa1 (xa1 (xa2 (xa1 (xa1 (xa2 (xa1 h)))))))))
  | 1, _ => exact (xa1 (xa2 (xa2 (xa1 (xa1 (xa2 (xa1 (xa1 (xa2 (xa1 h))))))))))
  | 2, _ => exact (xa2 (xa2 (xa2 (xa1 (xa1 (xa2 (xa1 (xa1 (xa2 (xa1 h))))))))))
  | 3, _ => exact (xa1 (xa1 (xa2 (xa1 (xa2 (xa1 (xa1 (xa2 (xa1 h)))))))))
  | 4, _ => exact (xa1 (xa2 (xa1 (xa2 (xa1 (xa2 (xa1 (xa1 (xa2 (xa1 h))))))))))
  | n + 5, hn => exact absurd hn (by omega)
theorem ss15 {args : Array Value} {s : State} (h : narrow_1.before args s = true) : (Cond.exactly (xTm 15) "java/lang/String").before args s = true ∧ (Cond.eq (.field (xTm 15) "java/lang/String" "coder" "B") (.int 0)).before args s = true ∧ (Cond.arrayOf (xTv 15) .byte).before args s = true ∧ (Cond.eq (.length (xTv 15)) (.int (Int32.ofNat (xsL.getD 15 0)))).before args s = true ∧ ∀ j, j < xsL.getD 15 0 → (Cond.eq (.elem (xTv 15) (.int (Int32.ofNat j))) (.int ((xsB.getD 15 []).getD j 0))).before args s = true := by
  refine ⟨(xa2 (xa2 (xa1 (xa2 (xa1 (xa2 (xa1 (xa1 (xa2 (xa1 h)))))))))), (xa1 (xa1 (xa2 (xa2 (xa1 (xa2 (xa1 (xa1 (xa2 (xa1 h)))))))))), (xa2 (xa1 (xa2 (xa2 (xa1 (xa2 (xa1 (xa1 (xa2 (xa1 h)))))))))), (xa1 (xa2 (xa2 (xa2 (xa1 (xa2 (xa1 (xa1 (xa2 (xa1 h)))))))))), fun j hj => ?_⟩
  have hj2 : j < 4 := hj
  match j, hj2 with
  | 0, _ => exact (xa2 (xa2 (xa2 (xa2 (xa1 (xa2 (xa1 (xa1 (xa2 (xa1 h))))))))))
  | 1, _ => exact (xa1 (xa1 (xa1 (xa2 (xa2 (xa1 (xa1 (xa2 (xa1 h)))))))))
  | 2, _ => exact (xa1 (xa2 (xa1 (xa1 (xa2 (xa2 (xa1 (xa1 (xa2 (xa1 h))))))))))
  | 3, _ => exact (xa2 (xa2 (xa1 (xa1 (xa2 (xa2 (xa1 (xa1 (xa2 (xa1 h))))))))))
  | n + 4, hn => exact absurd hn (by omega)
theorem ss16 {args : Array Value} {s : State} (h : narrow_1.before args s = true) : (Cond.exactly (xTm 16) "java/lang/String").before args s = true ∧ (Cond.eq (.field (xTm 16) "java/lang/String" "coder" "B") (.int 0)).before args s = true ∧ (Cond.arrayOf (xTv 16) .byte).before args s = true ∧ (Cond.eq (.length (xTv 16)) (.int (Int32.ofNat (xsL.getD 16 0)))).before args s = true ∧ ∀ j, j < xsL.getD 16 0 → (Cond.eq (.elem (xTv 16) (.int (Int32.ofNat j))) (.int ((xsB.getD 16 []).getD j 0))).before args s = true := by
  refine ⟨(xa1 (xa1 (xa2 (xa1 (xa2 (xa2 (xa1 (xa1 (xa2 (xa1 h)))))))))), (xa2 (xa1 (xa2 (xa1 (xa2 (xa2 (xa1 (xa1 (xa2 (xa1 h)))))))))), (xa1 (xa2 (xa2 (xa1 (xa2 (xa2 (xa1 (xa1 (xa2 (xa1 h)))))))))), (xa2 (xa2 (xa2 (xa1 (xa2 (xa2 (xa1 (xa1 (xa2 (xa1 h)))))))))), fun j hj => ?_⟩
  have hj2 : j < 8 := hj
  match j, hj2 with
  | 0, _ => exact (xa1 (xa1 (xa2 (xa2 (xa2 (xa1 (xa1 (xa2 (xa1 h)))))))))
  | 1, _ => exact (xa1 (xa2 (xa1 (xa2 (xa2 (xa2 (xa1 (xa1 (xa2 (xa1 h))))))))))
  | 2, _ => exact (xa2 (xa2 (xa1 (xa2 (xa2 (xa2 (xa1 (xa1 (xa2 (xa1 h))))))))))
  | 3, _ => exact (xa1 (xa1 (xa2 (xa2 (xa2 (xa2 (xa1 (xa1 (xa2 (xa1 h))))))))))
  | 4, _ => exact (xa2 (xa1 (xa2 (xa2 (xa2 (xa2 (xa1 (xa1 (xa2 (xa1 h))))))))))
  | 5, _ => exact (xa1 (xa2 (xa2 (xa2 (xa2 (xa2 (xa1 (xa1 (xa2 (xa1 h))))))))))
  | 6, _ => exact (xa2 (xa2 (xa2 (xa2 (xa2 (xa2 (xa1 (xa1 (xa2 (xa1 h))))))))))
  | 7, _ => exact (xa1 (xa1 (xa1 (xa1 (xa1 (xa2 (xa1 (xa2 (xa1 h)))))))))
  | n + 8, hn => exact absurd hn (by omega)
theorem ss17 {args : Array Value} {s : State} (h : narrow_1.before args s = true) : (Cond.exactly (xTm 17) "java/lang/String").before args s = true ∧ (Cond.eq (.field (xTm 17) "java/lang/String" "coder" "B") (.int 0)).before args s = true ∧ (Cond.arrayOf (xTv 17) .byte).before args s = true ∧ (Cond.eq (.length (xTv 17)) (.int (Int32.ofNat (xsL.getD 17 0)))).before args s = true ∧ ∀ j, j < xsL.getD 17 0 → (Cond.eq (.elem (xTv 17) (.int (Int32.ofNat j))) (.int ((xsB.getD 17 []).getD j 0))).before args s = true := by
  refine ⟨(xa1 (xa2 (xa1 (xa1 (xa1 (xa1 (xa2 (xa1 (xa2 (xa1 h)))))))))), (xa2 (xa2 (xa1 (xa1 (xa1 (xa1 (xa2 (xa1 (xa2 (xa1 h)))))))))), (xa1 (xa2 (xa1 (xa1 (xa1 (xa2 (xa1 (xa2 (xa1 h))))))))), (xa1 (xa2 (xa2 (xa1 (xa1 (xa1 (xa2 (xa1 (xa2 (xa1 h)))))))))), fun j hj => ?_⟩
  have hj2 : j < 10 := hj
  match j, hj2 with
  | 0, _ => exact (xa2 (xa2 (xa2 (xa1 (xa1 (xa1 (xa2 (xa1 (xa2 (xa1 h))))))))))
  | 1, _ => exact (xa1 (xa1 (xa2 (xa1 (xa1 (xa2 (xa1 (xa2 (xa1 h)))))))))
  | 2, _ => exact (xa1 (xa2 (xa1 (xa2 (xa1 (xa1 (xa2 (xa1 (xa2 (xa1 h))))))))))
  | 3, _ => exact (xa2 (xa2 (xa1 (xa2 (xa1 (xa1 (xa2 (xa1 (xa2 (xa1 h))))))))))
  | 4, _ => exact (xa1 (xa1 (xa2 (xa2 (xa1 (xa1 (xa2 (xa1 (xa2 (xa1 h))))))))))
  | 5, _ => exact (xa2 (xa1 (xa2 (xa2 (xa1 (xa1 (xa2 (xa1 (xa2 (xa1 h))))))))))
  | 6, _ => exact (xa1 (xa2 (xa2 (xa2 (xa1 (xa1 (xa2 (xa1 (xa2 (xa1 h))))))))))
  | 7, _ => exact (xa2 (xa2 (xa2 (xa2 (xa1 (xa1 (xa2 (xa1 (xa2 (xa1 h))))))))))
  | 8, _ => exact (xa1 (xa1 (xa1 (xa2 (xa1 (xa2 (xa1 (xa2 (xa1 h)))))))))
  | 9, _ => exact (xa1 (xa2 (xa1 (xa1 (xa2 (xa1 (xa2 (xa1 (xa2 (xa1 h))))))))))
  | n + 10, hn => exact absurd hn (by omega)
theorem ss18 {args : Array Value} {s : State} (h : narrow_1.before args s = true) : (Cond.exactly (xTm 18) "java/lang/String").before args s = true ∧ (Cond.eq (.field (xTm 18) "java/lang/String" "coder" "B") (.int 0)).before args s = true ∧ (Cond.arrayOf (xTv 18) .byte).before args s = true ∧ (Cond.eq (.length (xTv 18)) (.int (Int32.ofNat (xsL.getD 18 0)))).before args s = true ∧ ∀ j, j < xsL.getD 18 0 → (Cond.eq (.elem (xTv 18) (.int (Int32.ofNat j))) (.int ((xsB.getD 18 []).getD j 0))).before args s = true := by
  refine ⟨(xa2 (xa2 (xa1 (xa1 (xa2 (xa1 (xa2 (xa1 (xa2 (xa1 h)))))))))), (xa1 (xa2 (xa1 (xa2 (xa1 (xa2 (xa1 (xa2 (xa1 h))))))))), (xa1 (xa2 (xa2 (xa1 (xa2 (xa1 (xa2 (xa1 (xa2 (xa1 h)))))))))), (xa2 (xa2 (xa2 (xa1 (xa2 (xa1 (xa2 (xa1 (xa2 (xa1 h)))))))))), fun j hj => ?_⟩
  have hj2 : j < 22 := hj
  match j, hj2 with
  | 0, _ => exact (xa1 (xa1 (xa2 (xa2 (xa1 (xa2 (xa1 (xa2 (xa1 h)))))))))
  | 1, _ => exact (xa1 (xa2 (xa1 (xa2 (xa2 (xa1 (xa2 (xa1 (xa2 (xa1 h))))))))))
  | 2, _ => exact (xa2 (xa2 (xa1 (xa2 (xa2 (xa1 (xa2 (xa1 (xa2 (xa1 h))))))))))
  | 3, _ => exact (xa1 (xa1 (xa2 (xa2 (xa2 (xa1 (xa2 (xa1 (xa2 (xa1 h))))))))))
  | 4, _ => exact (xa2 (xa1 (xa2 (xa2 (xa2 (xa1 (xa2 (xa1 (xa2 (xa1 h))))))))))
  | 5, _ => exact (xa1 (xa2 (xa2 (xa2 (xa2 (xa1 (xa2 (xa1 (xa2 (xa1 h))))))))))
  | 6, _ => exact (xa2 (xa2 (xa2 (xa2 (xa2 (xa1 (xa2 (xa1 (xa2 (xa1 h))))))))))
  | 7, _ => exact (xa1 (xa1 (xa1 (xa1 (xa2 (xa2 (xa1 (xa2 (xa1 h)))))))))
  | 8, _ => exact (xa1 (xa2 (xa1 (xa1 (xa1 (xa2 (xa2 (xa1 (xa2 (xa1 h))))))))))
  | 9, _ => exact (xa2 (xa2 (xa1 (xa1 (xa1 (xa2 (xa2 (xa1 (xa2 (xa1 h))))))))))
  | 10, _ => exact (xa1 (xa2 (xa1 (xa1 (xa2 (xa2 (xa1 (xa2 (xa1 h)))))))))
  | 11, _ => exact (xa1 (xa2 (xa2 (xa1 (xa1 (xa2 (xa2 (xa1 (xa2 (xa1 h))))))))))
  | 12, _ => exact (xa2 (xa2 (xa2 (xa1 (xa1 (xa2 (xa2 (xa1 (xa2 (xa1 h))))))))))
  | 13, _ => exact (xa1 (xa1 (xa2 (xa1 (xa2 (xa2 (xa1 (xa2 (xa1 h)))))))))
  | 14, _ => exact (xa1 (xa2 (xa1 (xa2 (xa1 (xa2 (xa2 (xa1 (xa2 (xa1 h))))))))))
  | 15, _ => exact (xa2 (xa2 (xa1 (xa2 (xa1 (xa2 (xa2 (xa1 (xa2 (xa1 h))))))))))
  | 16, _ => exact (xa1 (xa1 (xa2 (xa2 (xa1 (xa2 (xa2 (xa1 (xa2 (xa1 h))))))))))
  | 17, _ => exact (xa2 (xa1 (xa2 (xa2 (xa1 (xa2 (xa2 (xa1 (xa2 (xa1 h))))))))))
  | 18, _ => exact (xa1 (xa2 (xa2 (xa2 (xa1 (xa2 (xa2 (xa1 (xa2 (xa1 h))))))))))
  | 19, _ => exact (xa2 (xa2 (xa2 (xa2 (xa1 (xa2 (xa2 (xa1 (xa2 (xa1 h))))))))))
  | 20, _ => exact (xa1 (xa1 (xa1 (xa2 (xa2 (xa2 (xa1 (xa2 (xa1 h)))))))))
  | 21, _ => exact (xa1 (xa2 (xa1 (xa1 (xa2 (xa2 (xa2 (xa1 (xa2 (xa1 h))))))))))
  | n + 22, hn => exact absurd hn (by omega)
theorem ss19 {args : Array Value} {s : State} (h : narrow_1.before args s = true) : (Cond.exactly (xTm 19) "java/lang/String").before args s = true ∧ (Cond.eq (.field (xTm 19) "java/lang/String" "coder" "B") (.int 0)).before args s = true ∧ (Cond.arrayOf (xTv 19) .byte).before args s = true ∧ (Cond.eq (.length (xTv 19)) (.int (Int32.ofNat (xsL.getD 19 0)))).before args s = true ∧ ∀ j, j < xsL.getD 19 0 → (Cond.eq (.elem (xTv 19) (.int (Int32.ofNat j))) (.int ((xsB.getD 19 []).getD j 0))).before args s = true := by
  refine ⟨(xa2 (xa2 (xa1 (xa1 (xa2 (xa2 (xa2 (xa1 (xa2 (xa1 h)))))))))), (xa1 (xa1 (xa2 (xa1 (xa2 (xa2 (xa2 (xa1 (xa2 (xa1 h)))))))))), (xa2 (xa1 (xa2 (xa1 (xa2 (xa2 (xa2 (xa1 (xa2 (xa1 h)))))))))), (xa1 (xa2 (xa2 (xa1 (xa2 (xa2 (xa2 (xa1 (xa2 (xa1 h)))))))))), fun j hj => ?_⟩
  have hj2 : j < 15 := hj
  match j, hj2 with
  | 0, _ => exact (xa2 (xa2 (xa2 (xa1 (xa2 (xa2 (xa2 (xa1 (xa2 (xa1 h))))))))))
  | 1, _ => exact (xa1 (xa1 (xa2 (xa2 (xa2 (xa2 (xa1 (xa2 (xa1 h)))))))))
  | 2, _ => exact (xa1 (xa2 (xa1 (xa2 (xa2 (xa2 (xa2 (xa1 (xa2 (xa1 h))))))))))
  | 3, _ => exact (xa2 (xa2 (xa1 (xa2 (xa2 (xa2 (xa2 (xa1 (xa2 (xa1 h))))))))))
  | 4, _ => exact (xa1 (xa1 (xa2 (xa2 (xa2 (xa2 (xa2 (xa1 (xa2 (xa1 h))))))))))
  | 5, _ => exact (xa2 (xa1 (xa2 (xa2 (xa2 (xa2 (xa2 (xa1 (xa2 (xa1 h))))))))))
  | 6, _ => exact (xa1 (xa2 (xa2 (xa2 (xa2 (xa2 (xa2 (xa1 (xa2 (xa1 h))))))))))
  | 7, _ => exact (xa2 (xa2 (xa2 (xa2 (xa2 (xa2 (xa2 (xa1 (xa2 (xa1 h))))))))))
  | 8, _ => exact (xa1 (xa1 (xa1 (xa1 (xa1 (xa1 (xa2 (xa2 (xa1 h)))))))))
  | 9, _ => exact (xa1 (xa2 (xa1 (xa1 (xa1 (xa1 (xa1 (xa2 (xa2 (xa1 h))))))))))
  | 10, _ => exact (xa2 (xa2 (xa1 (xa1 (xa1 (xa1 (xa1 (xa2 (xa2 (xa1 h))))))))))
  | 11, _ => exact (xa1 (xa2 (xa1 (xa1 (xa1 (xa1 (xa2 (xa2 (xa1 h)))))))))
  | 12, _ => exact (xa1 (xa2 (xa2 (xa1 (xa1 (xa1 (xa1 (xa2 (xa2 (xa1 h))))))))))
  | 13, _ => exact (xa2 (xa2 (xa2 (xa1 (xa1 (xa1 (xa1 (xa2 (xa2 (xa1 h))))))))))
  | 14, _ => exact (xa1 (xa1 (xa2 (xa1 (xa1 (xa1 (xa2 (xa2 (xa1 h)))))))))
  | n + 15, hn => exact absurd hn (by omega)
theorem ss20 {args : Array Value} {s : State} (h : narrow_1.before args s = true) : (Cond.exactly (xTm 20) "java/lang/String").before args s = true ∧ (Cond.eq (.field (xTm 20) "java/lang/String" "coder" "B") (.int 0)).before args s = true ∧ (Cond.arrayOf (xTv 20) .byte).before args s = true ∧ (Cond.eq (.length (xTv 20)) (.int (Int32.ofNat (xsL.getD 20 0)))).before args s = true ∧ ∀ j, j < xsL.getD 20 0 → (Cond.eq (.elem (xTv 20) (.int (Int32.ofNat j))) (.int ((xsB.getD 20 []).getD j 0))).before args s = true := by
  refine ⟨(xa1 (xa2 (xa1 (xa2 (xa1 (xa1 (xa1 (xa2 (xa2 (xa1 h)))))))))), (xa2 (xa2 (xa1 (xa2 (xa1 (xa1 (xa1 (xa2 (xa2 (xa1 h)))))))))), (xa1 (xa1 (xa2 (xa2 (xa1 (xa1 (xa1 (xa2 (xa2 (xa1 h)))))))))), (xa2 (xa1 (xa2 (xa2 (xa1 (xa1 (xa1 (xa2 (xa2 (xa1 h)))))))))), fun j hj => ?_⟩
  have hj2 : j < 20 := hj
  match j, hj2 with
  | 0, _ => exact (xa1 (xa2 (xa2 (xa2 (xa1 (xa1 (xa1 (xa2 (xa2 (xa1 h))))))))))
  | 1, _ => exact (xa2 (xa2 (xa2 (xa2 (xa1 (xa1 (xa1 (xa2 (xa2 (xa1 h))))))))))
  | 2, _ => exact (xa1 (xa1 (xa1 (xa2 (xa1 (xa1 (xa2 (xa2 (xa1 h)))))))))
  | 3, _ => exact (xa1 (xa2 (xa1 (xa1 (xa2 (xa1 (xa1 (xa2 (xa2 (xa1 h))))))))))
  | 4, _ => exact (xa2 (xa2 (xa1 (xa1 (xa2 (xa1 (xa1 (xa2 (xa2 (xa1 h))))))))))
  | 5, _ => exact (xa1 (xa2 (xa1 (xa2 (xa1 (xa1 (xa2 (xa2 (xa1 h)))))))))
  | 6, _ => exact (xa1 (xa2 (xa2 (xa1 (xa2 (xa1 (xa1 (xa2 (xa2 (xa1 h))))))))))
  | 7, _ => exact (xa2 (xa2 (xa2 (xa1 (xa2 (xa1 (xa1 (xa2 (xa2 (xa1 h))))))))))
  | 8, _ => exact (xa1 (xa1 (xa2 (xa2 (xa1 (xa1 (xa2 (xa2 (xa1 h)))))))))
  | 9, _ => exact (xa1 (xa2 (xa1 (xa2 (xa2 (xa1 (xa1 (xa2 (xa2 (xa1 h))))))))))
  | 10, _ => exact (xa2 (xa2 (xa1 (xa2 (xa2 (xa1 (xa1 (xa2 (xa2 (xa1 h))))))))))
  | 11, _ => exact (xa1 (xa1 (xa2 (xa2 (xa2 (xa1 (xa1 (xa2 (xa2 (xa1 h))))))))))
  | 12, _ => exact (xa2 (xa1 (xa2 (xa2 (xa2 (xa1 (xa1 (xa2 (xa2 (xa1 h))))))))))
  | 13, _ => exact (xa1 (xa2 (xa2 (xa2 (xa2 (xa1 (xa1 (xa2 (xa2 (xa1 h))))))))))
  | 14, _ => exact (xa2 (xa2 (xa2 (xa2 (xa2 (xa1 (xa1 (xa2 (xa2 (xa1 h))))))))))
  | 15, _ => exact (xa1 (xa1 (xa1 (xa1 (xa2 (xa1 (xa2 (xa2 (xa1 h)))))))))
  | 16, _ => exact (xa1 (xa2 (xa1 (xa1 (xa1 (xa2 (xa1 (xa2 (xa2 (xa1 h))))))))))
  | 17, _ => exact (xa2 (xa2 (xa1 (xa1 (xa1 (xa2 (xa1 (xa2 (xa2 (xa1 h))))))))))
  | 18, _ => exact (xa1 (xa2 (xa1 (xa1 (xa2 (xa1 (xa2 (xa2 (xa1 h)))))))))
  | 19, _ => exact (xa1 (xa2 (xa2 (xa1 (xa1 (xa2 (xa1 (xa2 (xa2 (xa1 h))))))))))
  | n + 20, hn => exact absurd hn (by omega)
theorem ss21 {args : Array Value} {s : State} (h : narrow_1.before args s = true) : (Cond.exactly (xTm 21) "java/lang/String").before args s = true ∧ (Cond.eq (.field (xTm 21) "java/lang/String" "coder" "B") (.int 0)).before args s = true ∧ (Cond.arrayOf (xTv 21) .byte).before args s = true ∧ (Cond.eq (.length (xTv 21)) (.int (Int32.ofNat (xsL.getD 21 0)))).before args s = true ∧ ∀ j, j < xsL.getD 21 0 → (Cond.eq (.elem (xTv 21) (.int (Int32.ofNat j))) (.int ((xsB.getD 21 []).getD j 0))).before args s = true := by
  refine ⟨(xa2 (xa2 (xa2 (xa1 (xa1 (xa2 (xa1 (xa2 (xa2 (xa1 h)))))))))), (xa1 (xa1 (xa2 (xa1 (xa2 (xa1 (xa2 (xa2 (xa1 h))))))))), (xa1 (xa2 (xa1 (xa2 (xa1 (xa2 (xa1 (xa2 (xa2 (xa1 h)))))))))), (xa2 (xa2 (xa1 (xa2 (xa1 (xa2 (xa1 (xa2 (xa2 (xa1 h)))))))))), fun j hj => ?_⟩
  have hj2 : j < 24 := hj
  match j, hj2 with
  | 0, _ => exact (xa1 (xa1 (xa2 (xa2 (xa1 (xa2 (xa1 (xa2 (xa2 (xa1 h))))))))))
  | 1, _ => exact (xa2 (xa1 (xa2 (xa2 (xa1 (xa2 (xa1 (xa2 (xa2 (xa1 h))))))))))
  | 2, _ => exact (xa1 (xa2 (xa2 (xa2 (xa1 (xa2 (xa1 (xa2 (xa2 (xa1 h))))))))))
  | 3, _ => exact (xa2 (xa2 (xa2 (xa2 (xa1 (xa2 (xa1 (xa2 (xa2 (xa1 h))))))))))
  | 4, _ => exact (xa1 (xa1 (xa1 (xa2 (xa2 (xa1 (xa2 (xa2 (xa1 h)))))))))
  | 5, _ => exact (xa1 (xa2 (xa1 (xa1 (xa2 (xa2 (xa1 (xa2 (xa2 (xa1 h))))))))))
  | 6, _ => exact (xa2 (xa2 (xa1 (xa1 (xa2 (xa2 (xa1 (xa2 (xa2 (xa1 h))))))))))
  | 7, _ => exact (xa1 (xa1 (xa2 (xa1 (xa2 (xa2 (xa1 (xa2 (xa2 (xa1 h))))))))))
  | 8, _ => exact (xa2 (xa1 (xa2 (xa1 (xa2 (xa2 (xa1 (xa2 (xa2 (xa1 h))))))))))
  | 9, _ => exact (xa1 (xa2 (xa2 (xa1 (xa2 (xa2 (xa1 (xa2 (xa2 (xa1 h))))))))))
  | 10, _ => exact (xa2 (xa2 (xa2 (xa1 (xa2 (xa2 (xa1 (xa2 (xa2 (xa1 h))))))))))
  | 11, _ => exact (xa1 (xa1 (xa2 (xa2 (xa2 (xa1 (xa2 (xa2 (xa1 h)))))))))
  | 12, _ => exact (xa1 (xa2 (xa1 (xa2 (xa2 (xa2 (xa1 (xa2 (xa2 (xa1 h))))))))))
  | 13, _ => exact (xa2 (xa2 (xa1 (xa2 (xa2 (xa2 (xa1 (xa2 (xa2 (xa1 h))))))))))
  | 14, _ => exact (xa1 (xa1 (xa2 (xa2 (xa2 (xa2 (xa1 (xa2 (xa2 (xa1 h))))))))))
  | 15, _ => exact (xa2 (xa1 (xa2 (xa2 (xa2 (xa2 (xa1 (xa2 (xa2 (xa1 h))))))))))
  | 16, _ => exact (xa1 (xa2 (xa2 (xa2 (xa2 (xa2 (xa1 (xa2 (xa2 (xa1 h))))))))))
  | 17, _ => exact (xa2 (xa2 (xa2 (xa2 (xa2 (xa2 (xa1 (xa2 (xa2 (xa1 h))))))))))
  | 18, _ => exact (xa1 (xa1 (xa1 (xa1 (xa1 (xa2 (xa2 (xa2 (xa1 h)))))))))
  | 19, _ => exact (xa1 (xa2 (xa1 (xa1 (xa1 (xa1 (xa2 (xa2 (xa2 (xa1 h))))))))))
  | 20, _ => exact (xa2 (xa2 (xa1 (xa1 (xa1 (xa1 (xa2 (xa2 (xa2 (xa1 h))))))))))
  | 21, _ => exact (xa1 (xa2 (xa1 (xa1 (xa1 (xa2 (xa2 (xa2 (xa1 h)))))))))
  | 22, _ => exact (xa1 (xa2 (xa2 (xa1 (xa1 (xa1 (xa2 (xa2 (xa2 (xa1 h))))))))))
  | 23, _ => exact (xa2 (xa2 (xa2 (xa1 (xa1 (xa1 (xa2 (xa2 (xa2 (xa1 h))))))))))
  | n + 24, hn => exact absurd hn (by omega)
theorem ss22 {args : Array Value} {s : State} (h : narrow_1.before args s = true) : (Cond.exactly (xTm 22) "java/lang/String").before args s = true ∧ (Cond.eq (.field (xTm 22) "java/lang/String" "coder" "B") (.int 0)).before args s = true ∧ (Cond.arrayOf (xTv 22) .byte).before args s = true ∧ (Cond.eq (.length (xTv 22)) (.int (Int32.ofNat (xsL.getD 22 0)))).before args s = true ∧ ∀ j, j < xsL.getD 22 0 → (Cond.eq (.elem (xTv 22) (.int (Int32.ofNat j))) (.int ((xsB.getD 22 []).getD j 0))).before args s = true := by
  refine ⟨(xa1 (xa1 (xa2 (xa1 (xa1 (xa2 (xa2 (xa2 (xa1 h))))))))), (xa1 (xa2 (xa1 (xa2 (xa1 (xa1 (xa2 (xa2 (xa2 (xa1 h)))))))))), (xa2 (xa2 (xa1 (xa2 (xa1 (xa1 (xa2 (xa2 (xa2 (xa1 h)))))))))), (xa1 (xa1 (xa2 (xa2 (xa1 (xa1 (xa2 (xa2 (xa2 (xa1 h)))))))))), fun j hj => ?_⟩
  have hj2 : j < 22 := hj
  match j, hj2 with
  | 0, _ => exact (xa2 (xa1 (xa2 (xa2 (xa1 (xa1 (xa2 (xa2 (xa2 (xa1 h))))))))))
  | 1, _ => exact (xa1 (xa2 (xa2 (xa2 (xa1 (xa1 (xa2 (xa2 (xa2 (xa1 h))))))))))
  | 2, _ => exact (xa2 (xa2 (xa2 (xa2 (xa1 (xa1 (xa2 (xa2 (xa2 (xa1 h))))))))))
  | 3, _ => exact (xa1 (xa1 (xa1 (xa2 (xa1 (xa2 (xa2 (xa2 (xa1 h)))))))))
  | 4, _ => exact (xa1 (xa2 (xa1 (xa1 (xa2 (xa1 (xa2 (xa2 (xa2 (xa1 h))))))))))
  | 5, _ => exact (xa2 (xa2 (xa1 (xa1 (xa2 (xa1 (xa2 (xa2 (xa2 (xa1 h))))))))))
  | 6, _ => exact (xa1 (xa1 (xa2 (xa1 (xa2 (xa1 (xa2 (xa2 (xa2 (xa1 h))))))))))
  | 7, _ => exact (xa2 (xa1 (xa2 (xa1 (xa2 (xa1 (xa2 (xa2 (xa2 (xa1 h))))))))))
  | 8, _ => exact (xa1 (xa2 (xa2 (xa1 (xa2 (xa1 (xa2 (xa2 (xa2 (xa1 h))))))))))
  | 9, _ => exact (xa2 (xa2 (xa2 (xa1 (xa2 (xa1 (xa2 (xa2 (xa2 (xa1 h))))))))))
  | 10, _ => exact (xa1 (xa1 (xa2 (xa2 (xa1 (xa2 (xa2 (xa2 (xa1 h)))))))))
  | 11, _ => exact (xa1 (xa2 (xa1 (xa2 (xa2 (xa1 (xa2 (xa2 (xa2 (xa1 h))))))))))
  | 12, _ => exact (xa2 (xa2 (xa1 (xa2 (xa2 (xa1 (xa2 (xa2 (xa2 (xa1 h))))))))))
  | 13, _ => exact (xa1 (xa1 (xa2 (xa2 (xa2 (xa1 (xa2 (xa2 (xa2 (xa1 h))))))))))
  | 14, _ => exact (xa2 (xa1 (xa2 (xa2 (xa2 (xa1 (xa2 (xa2 (xa2 (xa1 h))))))))))
  | 15, _ => exact (xa1 (xa2 (xa2 (xa2 (xa2 (xa1 (xa2 (xa2 (xa2 (xa1 h))))))))))
  | 16, _ => exact (xa2 (xa2 (xa2 (xa2 (xa2 (xa1 (xa2 (xa2 (xa2 (xa1 h))))))))))
  | 17, _ => exact (xa1 (xa1 (xa1 (xa1 (xa2 (xa2 (xa2 (xa2 (xa1 h)))))))))
  | 18, _ => exact (xa1 (xa2 (xa1 (xa1 (xa1 (xa2 (xa2 (xa2 (xa2 (xa1 h))))))))))
  | 19, _ => exact (xa2 (xa2 (xa1 (xa1 (xa1 (xa2 (xa2 (xa2 (xa2 (xa1 h))))))))))
  | 20, _ => exact (xa1 (xa2 (xa1 (xa1 (xa2 (xa2 (xa2 (xa2 (xa1 h)))))))))
  | 21, _ => exact (xa1 (xa2 (xa2 (xa1 (xa1 (xa2 (xa2 (xa2 (xa2 (xa1 h))))))))))
  | n + 22, hn => exact absurd hn (by omega)
theorem ss23 {args : Array Value} {s : State} (h : narrow_1.before args s = true) : (Cond.exactly (xTm 23) "java/lang/String").before args s = true ∧ (Cond.eq (.field (xTm 23) "java/lang/String" "coder" "B") (.int 0)).before args s = true ∧ (Cond.arrayOf (xTv 23) .byte).before args s = true ∧ (Cond.eq (.length (xTv 23)) (.int (Int32.ofNat (xsL.getD 23 0)))).before args s = true ∧ ∀ j, j < xsL.getD 23 0 → (Cond.eq (.elem (xTv 23) (.int (Int32.ofNat j))) (.int ((xsB.getD 23 []).getD j 0))).before args s = true := by
  refine ⟨(xa2 (xa2 (xa2 (xa1 (xa1 (xa2 (xa2 (xa2 (xa2 (xa1 h)))))))))), (xa1 (xa1 (xa2 (xa1 (xa2 (xa2 (xa2 (xa2 (xa1 h))))))))), (xa1 (xa2 (xa1 (xa2 (xa1 (xa2 (xa2 (xa2 (xa2 (xa1 h)))))))))), (xa2 (xa2 (xa1 (xa2 (xa1 (xa2 (xa2 (xa2 (xa2 (xa1 h)))))))))), fun j hj => ?_⟩
  have hj2 : j < 13 := hj
  match j, hj2 with
  | 0, _ => exact (xa1 (xa1 (xa2 (xa2 (xa1 (xa2 (xa2 (xa2 (xa2 (xa1 h))))))))))
  | 1, _ => exact (xa2 (xa1 (xa2 (xa2 (xa1 (xa2 (xa2 (xa2 (xa2 (xa1 h))))))))))
  | 2, _ => exact (xa1 (xa2 (xa2 (xa2 (xa1 (xa2 (xa2 (xa2 (xa2 (xa1 h))))))))))
  | 3, _ => exact (xa2 (xa2 (xa2 (xa2 (xa1 (xa2 (xa2 (xa2 (xa2 (xa1 h))))))))))
  | 4, _ => exact (xa1 (xa1 (xa1 (xa2 (xa2 (xa2 (xa2 (xa2 (xa1 h)))))))))
  | 5, _ => exact (xa1 (xa2 (xa1 (xa1 (xa2 (xa2 (xa2 (xa2 (xa2 (xa1 h))))))))))
  | 6, _ => exact (xa2 (xa2 (xa1 (xa1 (xa2 (xa2 (xa2 (xa2 (xa2 (xa1 h))))))))))
  | 7, _ => exact (xa1 (xa1 (xa2 (xa1 (xa2 (xa2 (xa2 (xa2 (xa2 (xa1 h))))))))))
  | 8, _ => exact (xa2 (xa1 (xa2 (xa1 (xa2 (xa2 (xa2 (xa2 (xa2 (xa1 h))))))))))
  | 9, _ => exact (xa1 (xa2 (xa2 (xa1 (xa2 (xa2 (xa2 (xa2 (xa2 (xa1 h))))))))))
  | 10, _ => exact (xa2 (xa2 (xa2 (xa1 (xa2 (xa2 (xa2 (xa2 (xa2 (xa1 h))))))))))
  | 11, _ => exact (xa1 (xa1 (xa2 (xa2 (xa2 (xa2 (xa2 (xa2 (xa1 h)))))))))
  | 12, _ => exact (xa1 (xa2 (xa1 (xa2 (xa2 (xa2 (xa2 (xa2 (xa2 (xa1 h))))))))))
  | n + 13, hn => exact absurd hn (by omega)
theorem ss24 {args : Array Value} {s : State} (h : narrow_1.before args s = true) : (Cond.exactly (xTm 24) "java/lang/String").before args s = true ∧ (Cond.eq (.field (xTm 24) "java/lang/String" "coder" "B") (.int 0)).before args s = true ∧ (Cond.arrayOf (xTv 24) .byte).before args s = true ∧ (Cond.eq (.length (xTv 24)) (.int (Int32.ofNat (xsL.getD 24 0)))).before args s = true ∧ ∀ j, j < xsL.getD 24 0 → (Cond.eq (.elem (xTv 24) (.int (Int32.ofNat j))) (.int ((xsB.getD 24 []).getD j 0))).before args s = true := by
  refine ⟨(xa2 (xa2 (xa1 (xa2 (xa2 (xa2 (xa2 (xa2 (xa2 (xa1 h)))))))))), (xa1 (xa1 (xa2 (xa2 (xa2 (xa2 (xa2 (xa2 (xa2 (xa1 h)))))))))), (xa2 (xa1 (xa2 (xa2 (xa2 (xa2 (xa2 (xa2 (xa2 (xa1 h)))))))))), (xa1 (xa2 (xa2 (xa2 (xa2 (xa2 (xa2 (xa2 (xa2 (xa1 h)))))))))), fun j hj => ?_⟩
  have hj2 : j < 16 := hj
  match j, hj2 with
  | 0, _ => exact (xa2 (xa2 (xa2 (xa2 (xa2 (xa2 (xa2 (xa2 (xa2 (xa1 h))))))))))
  | 1, _ => exact (xa1 (xa1 (xa1 (xa1 (xa1 (xa1 (xa1 (xa1 (xa2 h)))))))))
  | 2, _ => exact (xa1 (xa2 (xa1 (xa1 (xa1 (xa1 (xa1 (xa1 (xa1 (xa2 h))))))))))
  | 3, _ => exact (xa2 (xa2 (xa1 (xa1 (xa1 (xa1 (xa1 (xa1 (xa1 (xa2 h))))))))))
  | 4, _ => exact (xa1 (xa2 (xa1 (xa1 (xa1 (xa1 (xa1 (xa1 (xa2 h)))))))))
  | 5, _ => exact (xa1 (xa2 (xa2 (xa1 (xa1 (xa1 (xa1 (xa1 (xa1 (xa2 h))))))))))
  | 6, _ => exact (xa2 (xa2 (xa2 (xa1 (xa1 (xa1 (xa1 (xa1 (xa1 (xa2 h))))))))))
  | 7, _ => exact (xa1 (xa1 (xa2 (xa1 (xa1 (xa1 (xa1 (xa1 (xa2 h)))))))))
  | 8, _ => exact (xa1 (xa2 (xa1 (xa2 (xa1 (xa1 (xa1 (xa1 (xa1 (xa2 h))))))))))
  | 9, _ => exact (xa2 (xa2 (xa1 (xa2 (xa1 (xa1 (xa1 (xa1 (xa1 (xa2 h))))))))))
  | 10, _ => exact (xa1 (xa1 (xa2 (xa2 (xa1 (xa1 (xa1 (xa1 (xa1 (xa2 h))))))))))
  | 11, _ => exact (xa2 (xa1 (xa2 (xa2 (xa1 (xa1 (xa1 (xa1 (xa1 (xa2 h))))))))))
  | 12, _ => exact (xa1 (xa2 (xa2 (xa2 (xa1 (xa1 (xa1 (xa1 (xa1 (xa2 h))))))))))
  | 13, _ => exact (xa2 (xa2 (xa2 (xa2 (xa1 (xa1 (xa1 (xa1 (xa1 (xa2 h))))))))))
  | 14, _ => exact (xa1 (xa1 (xa1 (xa2 (xa1 (xa1 (xa1 (xa1 (xa2 h)))))))))
  | 15, _ => exact (xa1 (xa2 (xa1 (xa1 (xa2 (xa1 (xa1 (xa1 (xa1 (xa2 h))))))))))
  | n + 16, hn => exact absurd hn (by omega)
theorem ss25 {args : Array Value} {s : State} (h : narrow_1.before args s = true) : (Cond.exactly (xTm 25) "java/lang/String").before args s = true ∧ (Cond.eq (.field (xTm 25) "java/lang/String" "coder" "B") (.int 0)).before args s = true ∧ (Cond.arrayOf (xTv 25) .byte).before args s = true ∧ (Cond.eq (.length (xTv 25)) (.int (Int32.ofNat (xsL.getD 25 0)))).before args s = true ∧ ∀ j, j < xsL.getD 25 0 → (Cond.eq (.elem (xTv 25) (.int (Int32.ofNat j))) (.int ((xsB.getD 25 []).getD j 0))).before args s = true := by
  refine ⟨(xa2 (xa2 (xa1 (xa1 (xa2 (xa1 (xa1 (xa1 (xa1 (xa2 h)))))))))), (xa1 (xa2 (xa1 (xa2 (xa1 (xa1 (xa1 (xa1 (xa2 h))))))))), (xa1 (xa2 (xa2 (xa1 (xa2 (xa1 (xa1 (xa1 (xa1 (xa2 h)))))))))), (xa2 (xa2 (xa2 (xa1 (xa2 (xa1 (xa1 (xa1 (xa1 (xa2 h)))))))))), fun j hj => ?_⟩
  have hj2 : j < 13 := hj
  match j, hj2 with
  | 0, _ => exact (xa1 (xa1 (xa2 (xa2 (xa1 (xa1 (xa1 (xa1 (xa2 h)))))))))
  | 1, _ => exact (xa1 (xa2 (xa1 (xa2 (xa2 (xa1 (xa1 (xa1 (xa1 (xa2 h))))))))))
  | 2, _ => exact (xa2 (xa2 (xa1 (xa2 (xa2 (xa1 (xa1 (xa1 (xa1 (xa2 h))))))))))
  | 3, _ => exact (xa1 (xa1 (xa2 (xa2 (xa2 (xa1 (xa1 (xa1 (xa1 (xa2 h))))))))))
  | 4, _ => exact (xa2 (xa1 (xa2 (xa2 (xa2 (xa1 (xa1 (xa1 (xa1 (xa2 h))))))))))
  | 5, _ => exact (xa1 (xa2 (xa2 (xa2 (xa2 (xa1 (xa1 (xa1 (xa1 (xa2 h))))))))))
  | 6, _ => exact (xa2 (xa2 (xa2 (xa2 (xa2 (xa1 (xa1 (xa1 (xa1 (xa2 h))))))))))
  | 7, _ => exact (xa1 (xa1 (xa1 (xa1 (xa2 (xa1 (xa1 (xa1 (xa2 h)))))))))
  | 8, _ => exact (xa1 (xa2 (xa1 (xa1 (xa1 (xa2 (xa1 (xa1 (xa1 (xa2 h))))))))))
  | 9, _ => exact (xa2 (xa2 (xa1 (xa1 (xa1 (xa2 (xa1 (xa1 (xa1 (xa2 h))))))))))
  | 10, _ => exact (xa1 (xa2 (xa1 (xa1 (xa2 (xa1 (xa1 (xa1 (xa2 h)))))))))
  | 11, _ => exact (xa1 (xa2 (xa2 (xa1 (xa1 (xa2 (xa1 (xa1 (xa1 (xa2 h))))))))))
  | 12, _ => exact (xa2 (xa2 (xa2 (xa1 (xa1 (xa2 (xa1 (xa1 (xa1 (xa2 h))))))))))
  | n + 13, hn => exact absurd hn (by omega)
theorem ss26 {args : Array Value} {s : State} (h : narrow_1.before args s = true) : (Cond.exactly (xTm 26) "java/lang/String").before args s = true ∧ (Cond.eq (.field (xTm 26) "java/lang/String" "coder" "B") (.int 0)).before args s = true ∧ (Cond.arrayOf (xTv 26) .byte).before args s = true ∧ (Cond.eq (.length (xTv 26)) (.int (Int32.ofNat (xsL.getD 26 0)))).before args s = true ∧ ∀ j, j < xsL.getD 26 0 → (Cond.eq (.elem (xTv 26) (.int (Int32.ofNat j))) (.int ((xsB.getD 26 []).getD j 0))).before args s = true := by
  refine ⟨(xa1 (xa1 (xa2 (xa1 (xa2 (xa1 (xa1 (xa1 (xa2 h))))))))), (xa1 (xa2 (xa1 (xa2 (xa1 (xa2 (xa1 (xa1 (xa1 (xa2 h)))))))))), (xa2 (xa2 (xa1 (xa2 (xa1 (xa2 (xa1 (xa1 (xa1 (xa2 h)))))))))), (xa1 (xa1 (xa2 (xa2 (xa1 (xa2 (xa1 (xa1 (xa1 (xa2 h)))))))))), fun j hj => ?_⟩
  have hj2 : j < 35 := hj
  match j, hj2 with
  | 0, _ => exact (xa2 (xa1 (xa2 (xa2 (xa1 (xa2 (xa1 (xa1 (xa1 (xa2 h))))))))))
  | 1, _ => exact (xa1 (xa2 (xa2 (xa2 (xa1 (xa2 (xa1 (xa1 (xa1 (xa2 h))))))))))
  | 2, _ => exact (xa2 (xa2 (xa2 (xa2 (xa1 (xa2 (xa1 (xa1 (xa1 (xa2 h))))))))))
  | 3, _ => exact (xa1 (xa1 (xa1 (xa2 (xa2 (xa1 (xa1 (xa1 (xa2 h)))))))))
  | 4, _ => exact (xa1 (xa2 (xa1 (xa1 (xa2 (xa2 (xa1 (xa1 (xa1 (xa2 h))))))))))
  | 5, _ => exact (xa2 (xa2 (xa1 (xa1 (xa2 (xa2 (xa1 (xa1 (xa1 (xa2 h))))))))))
  | 6, _ => exact (xa1 (xa1 (xa2 (xa1 (xa2 (xa2 (xa1 (xa1 (xa1 (xa2 h))))))))))
  | 7, _ => exact (xa2 (xa1 (xa2 (xa1 (xa2 (xa2 (xa1 (xa1 (xa1 (xa2 h))))))))))
  | 8, _ => exact (xa1 (xa2 (xa2 (xa1 (xa2 (xa2 (xa1 (xa1 (xa1 (xa2 h))))))))))
  | 9, _ => exact (xa2 (xa2 (xa2 (xa1 (xa2 (xa2 (xa1 (xa1 (xa1 (xa2 h))))))))))
  | 10, _ => exact (xa1 (xa1 (xa2 (xa2 (xa2 (xa1 (xa1 (xa1 (xa2 h)))))))))
  | 11, _ => exact (xa1 (xa2 (xa1 (xa2 (xa2 (xa2 (xa1 (xa1 (xa1 (xa2 h))))))))))
  | 12, _ => exact (xa2 (xa2 (xa1 (xa2 (xa2 (xa2 (xa1 (xa1 (xa1 (xa2 h))))))))))
  | 13, _ => exact (xa1 (xa1 (xa2 (xa2 (xa2 (xa2 (xa1 (xa1 (xa1 (xa2 h))))))))))
  | 14, _ => exact (xa2 (xa1 (xa2 (xa2 (xa2 (xa2 (xa1 (xa1 (xa1 (xa2 h))))))))))
  | 15, _ => exact (xa1 (xa2 (xa2 (xa2 (xa2 (xa2 (xa1 (xa1 (xa1 (xa2 h))))))))))
  | 16, _ => exact (xa2 (xa2 (xa2 (xa2 (xa2 (xa2 (xa1 (xa1 (xa1 (xa2 h))))))))))
  | 17, _ => exact (xa1 (xa1 (xa1 (xa1 (xa1 (xa2 (xa1 (xa1 (xa2 h)))))))))
  | 18, _ => exact (xa1 (xa2 (xa1 (xa1 (xa1 (xa1 (xa2 (xa1 (xa1 (xa2 h))))))))))
  | 19, _ => exact (xa2 (xa2 (xa1 (xa1 (xa1 (xa1 (xa2 (xa1 (xa1 (xa2 h))))))))))
  | 20, _ => exact (xa1 (xa2 (xa1 (xa1 (xa1 (xa2 (xa1 (xa1 (xa2 h)))))))))
  | 21, _ => exact (xa1 (xa2 (xa2 (xa1 (xa1 (xa1 (xa2 (xa1 (xa1 (xa2 h))))))))))
  | 22, _ => exact (xa2 (xa2 (xa2 (xa1 (xa1 (xa1 (xa2 (xa1 (xa1 (xa2 h))))))))))
  | 23, _ => exact (xa1 (xa1 (xa2 (xa1 (xa1 (xa2 (xa1 (xa1 (xa2 h)))))))))
  | 24, _ => exact (xa1 (xa2 (xa1 (xa2 (xa1 (xa1 (xa2 (xa1 (xa1 (xa2 h))))))))))
  | 25, _ => exact (xa2 (xa2 (xa1 (xa2 (xa1 (xa1 (xa2 (xa1 (xa1 (xa2 h))))))))))
  | 26, _ => exact (xa1 (xa1 (xa2 (xa2 (xa1 (xa1 (xa2 (xa1 (xa1 (xa2 h))))))))))
  | 27, _ => exact (xa2 (xa1 (xa2 (xa2 (xa1 (xa1 (xa2 (xa1 (xa1 (xa2 h))))))))))
  | 28, _ => exact (xa1 (xa2 (xa2 (xa2 (xa1 (xa1 (xa2 (xa1 (xa1 (xa2 h))))))))))
  | 29, _ => exact (xa2 (xa2 (xa2 (xa2 (xa1 (xa1 (xa2 (xa1 (xa1 (xa2 h))))))))))
  | 30, _ => exact (xa1 (xa1 (xa1 (xa2 (xa1 (xa2 (xa1 (xa1 (xa2 h)))))))))
  | 31, _ => exact (xa1 (xa2 (xa1 (xa1 (xa2 (xa1 (xa2 (xa1 (xa1 (xa2 h))))))))))
  | 32, _ => exact (xa2 (xa2 (xa1 (xa1 (xa2 (xa1 (xa2 (xa1 (xa1 (xa2 h))))))))))
  | 33, _ => exact (xa1 (xa2 (xa1 (xa2 (xa1 (xa2 (xa1 (xa1 (xa2 h)))))))))
  | 34, _ => exact (xa1 (xa2 (xa2 (xa1 (xa2 (xa1 (xa2 (xa1 (xa1 (xa2 h))))))))))
  | n + 35, hn => exact absurd hn (by omega)
theorem ss27 {args : Array Value} {s : State} (h : narrow_1.before args s = true) : (Cond.exactly (xTm 27) "java/lang/String").before args s = true ∧ (Cond.eq (.field (xTm 27) "java/lang/String" "coder" "B") (.int 0)).before args s = true ∧ (Cond.arrayOf (xTv 27) .byte).before args s = true ∧ (Cond.eq (.length (xTv 27)) (.int (Int32.ofNat (xsL.getD 27 0)))).before args s = true ∧ ∀ j, j < xsL.getD 27 0 → (Cond.eq (.elem (xTv 27) (.int (Int32.ofNat j))) (.int ((xsB.getD 27 []).getD j 0))).before args s = true := by
  refine ⟨(xa2 (xa2 (xa2 (xa1 (xa2 (xa1 (xa2 (xa1 (xa1 (xa2 h)))))))))), (xa1 (xa1 (xa2 (xa2 (xa1 (xa2 (xa1 (xa1 (xa2 h))))))))), (xa1 (xa2 (xa1 (xa2 (xa2 (xa1 (xa2 (xa1 (xa1 (xa2 h)))))))))), (xa2 (xa2 (xa1 (xa2 (xa2 (xa1 (xa2 (xa1 (xa1 (xa2 h)))))))))), fun j hj => ?_⟩
  have hj2 : j < 21 := hj
  match j, hj2 with
  | 0, _ => exact (xa1 (xa1 (xa2 (xa2 (xa2 (xa1 (xa2 (xa1 (xa1 (xa2 h))))))))))
  | 1, _ => exact (xa2 (xa1 (xa2 (xa2 (xa2 (xa1 (xa2 (xa1 (xa1 (xa2 h))))))))))
  | 2, _ => exact (xa1 (xa2 (xa2 (xa2 (xa2 (xa1 (xa2 (xa1 (xa1 (xa2 h))))))))))
  | 3, _ => exact (xa2 (xa2 (xa2 (xa2 (xa2 (xa1 (xa2 (xa1 (xa1 (xa2 h))))))))))
  | 4, _ => exact (xa1 (xa1 (xa1 (xa1 (xa2 (xa2 (xa1 (xa1 (xa2 h)))))))))
  | 5, _ => exact (xa1 (xa2 (xa1 (xa1 (xa1 (xa2 (xa2 (xa1 (xa1 (xa2 h))))))))))
  | 6, _ => exact (xa2 (xa2 (xa1 (xa1 (xa1 (xa2 (xa2 (xa1 (xa1 (xa2 h))))))))))
  | 7, _ => exact (xa1 (xa2 (xa1 (xa1 (xa2 (xa2 (xa1 (xa1 (xa2 h)))))))))
  | 8, _ => exact (xa1 (xa2 (xa2 (xa1 (xa1 (xa2 (xa2 (xa1 (xa1 (xa2 h))))))))))
  | 9, _ => exact (xa2 (xa2 (xa2 (xa1 (xa1 (xa2 (xa2 (xa1 (xa1 (xa2 h))))))))))
  | 10, _ => exact (xa1 (xa1 (xa2 (xa1 (xa2 (xa2 (xa1 (xa1 (xa2 h)))))))))
  | 11, _ => exact (xa1 (xa2 (xa1 (xa2 (xa1 (xa2 (xa2 (xa1 (xa1 (xa2 h))))))))))
  | 12, _ => exact (xa2 (xa2 (xa1 (xa2 (xa1 (xa2 (xa2 (xa1 (xa1 (xa2 h))))))))))
  | 13, _ => exact (xa1 (xa1 (xa2 (xa2 (xa1 (xa2 (xa2 (xa1 (xa1 (xa2 h))))))))))
  | 14, _ => exact (xa2 (xa1 (xa2 (xa2 (xa1 (xa2 (xa2 (xa1 (xa1 (xa2 h))))))))))
  | 15, _ => exact (xa1 (xa2 (xa2 (xa2 (xa1 (xa2 (xa2 (xa1 (xa1 (xa2 h))))))))))
  | 16, _ => exact (xa2 (xa2 (xa2 (xa2 (xa1 (xa2 (xa2 (xa1 (xa1 (xa2 h))))))))))
  | 17, _ => exact (xa1 (xa1 (xa1 (xa2 (xa2 (xa2 (xa1 (xa1 (xa2 h)))))))))
  | 18, _ => exact (xa1 (xa2 (xa1 (xa1 (xa2 (xa2 (xa2 (xa1 (xa1 (xa2 h))))))))))
  | 19, _ => exact (xa2 (xa2 (xa1 (xa1 (xa2 (xa2 (xa2 (xa1 (xa1 (xa2 h))))))))))
  | 20, _ => exact (xa1 (xa1 (xa2 (xa1 (xa2 (xa2 (xa2 (xa1 (xa1 (xa2 h))))))))))
  | n + 21, hn => exact absurd hn (by omega)
theorem ss28 {args : Array Value} {s : State} (h : narrow_1.before args s = true) : (Cond.exactly (xTm 28) "java/lang/String").before args s = true ∧ (Cond.eq (.field (xTm 28) "java/lang/String" "coder" "B") (.int 0)).before args s = true ∧ (Cond.arrayOf (xTv 28) .byte).before args s = true ∧ (Cond.eq (.length (xTv 28)) (.int (Int32.ofNat (xsL.getD 28 0)))).before args s = true ∧ ∀ j, j < xsL.getD 28 0 → (Cond.eq (.elem (xTv 28) (.int (Int32.ofNat j))) (.int ((xsB.getD 28 []).getD j 0))).before args s = true := by
  refine ⟨(xa2 (xa1 (xa2 (xa1 (xa2 (xa2 (xa2 (xa1 (xa1 (xa2 h)))))))))), (xa1 (xa2 (xa2 (xa1 (xa2 (xa2 (xa2 (xa1 (xa1 (xa2 h)))))))))), (xa2 (xa2 (xa2 (xa1 (xa2 (xa2 (xa2 (xa1 (xa1 (xa2 h)))))))))), (xa1 (xa1 (xa2 (xa2 (xa2 (xa2 (xa1 (xa1 (xa2 h))))))))), fun j hj => ?_⟩
  have hj2 : j < 49 := hj
  match j, hj2 with
  | 0, _ => exact (xa1 (xa2 (xa1 (xa2 (xa2 (xa2 (xa2 (xa1 (xa1 (xa2 h))))))))))
  | 1, _ => exact (xa2 (xa2 (xa1 (xa2 (xa2 (xa2 (xa2 (xa1 (xa1 (xa2 h))))))))))
  | 2, _ => exact (xa1 (xa1 (xa2 (xa2 (xa2 (xa2 (xa2 (xa1 (xa1 (xa2 h))))))))))
  | 3, _ => exact (xa2 (xa1 (xa2 (xa2 (xa2 (xa2 (xa2 (xa1 (xa1 (xa2 h))))))))))
  | 4, _ => exact (xa1 (xa2 (xa2 (xa2 (xa2 (xa2 (xa2 (xa1 (xa1 (xa2 h))))))))))
  | 5, _ => exact (xa2 (xa2 (xa2 (xa2 (xa2 (xa2 (xa2 (xa1 (xa1 (xa2 h))))))))))
  | 6, _ => exact (xa1 (xa1 (xa1 (xa1 (xa1 (xa1 (xa2 (xa1 (xa2 h)))))))))
  | 7, _ => exact (xa1 (xa2 (xa1 (xa1 (xa1 (xa1 (xa1 (xa2 (xa1 (xa2 h))))))))))
  | 8, _ => exact (xa2 (xa2 (xa1 (xa1 (xa1 (xa1 (xa1 (xa2 (xa1 (xa2 h))))))))))
  | 9, _ => exact (xa1 (xa2 (xa1 (xa1 (xa1 (xa1 (xa2 (xa1 (xa2 h)))))))))
  | 10, _ => exact (xa1 (xa2 (xa2 (xa1 (xa1 (xa1 (xa1 (xa2 (xa1 (xa2 h))))))))))
  | 11, _ => exact (xa2 (xa2 (xa2 (xa1 (xa1 (xa1 (xa1 (xa2 (xa1 (xa2 h))))))))))
  | 12, _ => exact (xa1 (xa1 (xa2 (xa1 (xa1 (xa1 (xa2 (xa1 (xa2 h)))))))))
  | 13, _ => exact (xa1 (xa2 (xa1 (xa2 (xa1 (xa1 (xa1 (xa2 (xa1 (xa2 h))))))))))
  | 14, _ => exact (xa2 (xa2 (xa1 (xa2 (xa1 (xa1 (xa1 (xa2 (xa1 (xa2 h))))))))))
  | 15, _ => exact (xa1 (xa1 (xa2 (xa2 (xa1 (xa1 (xa1 (xa2 (xa1 (xa2 h))))))))))
  | 16, _ => exact (xa2 (xa1 (xa2 (xa2 (xa1 (xa1 (xa1 (xa2 (xa1 (xa2 h))))))))))
  | 17, _ => exact (xa1 (xa2 (xa2 (xa2 (xa1 (xa1 (xa1 (xa2 (xa1 (xa2 h))))))))))
  | 18, _ => exact (xa2 (xa2 (xa2 (xa2 (xa1 (xa1 (xa1 (xa2 (xa1 (xa2 h))))))))))
  | 19, _ => exact (xa1 (xa1 (xa1 (xa2 (xa1 (xa1 (xa2 (xa1 (xa2 h)))))))))
  | 20, _ => exact (xa1 (xa2 (xa1 (xa1 (xa2 (xa1 (xa1 (xa2 (xa1 (xa2 h))))))))))
  | 21, _ => exact (xa2 (xa2 (xa1 (xa1 (xa2 (xa1 (xa1 (xa2 (xa1 (xa2 h))))))))))
  | 22, _ => exact (xa1 (xa2 (xa1 (xa2 (xa1 (xa1 (xa2 (xa1 (xa2 h)))))))))
  | 23, _ => exact (xa1 (xa2 (xa2 (xa1 (xa2 (xa1 (xa1 (xa2 (xa1 (xa2 h))))))))))
  | 24, _ => exact (xa2 (xa2 (xa2 (xa1 (xa2 (xa1 (xa1 (xa2 (xa1 (xa2 h))))))))))
  | 25, _ => exact (xa1 (xa1 (xa2 (xa2 (xa1 (xa1 (xa2 (xa1 (xa2 h)))))))))
  | 26, _ => exact (xa1 (xa2 (xa1 (xa2 (xa2 (xa1 (xa1 (xa2 (xa1 (xa2 h))))))))))
  | 27, _ => exact (xa2 (xa2 (xa1 (xa2 (xa2 (xa1 (xa1 (xa2 (xa1 (xa2 h))))))))))
  | 28, _ => exact (xa1 (xa1 (xa2 (xa2 (xa2 (xa1 (xa1 (xa2 (xa1 (xa2 h))))))))))
  | 29, _ => exact (xa2 (xa1 (xa2 (xa2 (xa2 (xa1 (xa1 (xa2 (xa1 (xa2 h))))))))))
  | 30, _ => exact (xa1 (xa2 (xa2 (xa2 (xa2 (xa1 (xa1 (xa2 (xa1 (xa2 h))))))))))
  | 31, _ => exact (xa2 (xa2 (xa2 (xa2 (xa2 (xa1 (xa1 (xa2 (xa1 (xa2 h))))))))))
  | 32, _ => exact (xa1 (xa1 (xa1 (xa1 (xa2 (xa1 (xa2 (xa1 (xa2 h)))))))))
  | 33, _ => exact (xa1 (xa2 (xa1 (xa1 (xa1 (xa2 (xa1 (xa2 (xa1 (xa2 h))))))))))
  | 34, _ => exact (xa2 (xa2 (xa1 (xa1 (xa1 (xa2 (xa1 (xa2 (xa1 (xa2 h))))))))))
  | 35, _ => exact (xa1 (xa2 (xa1 (xa1 (xa2 (xa1 (xa2 (xa1 (xa2 h)))))))))
  | 36, _ => exact (xa1 (xa2 (xa2 (xa1 (xa1 (xa2 (xa1 (xa2 (xa1 (xa2 h))))))))))
  | 37, _ => exact (xa2 (xa2 (xa2 (xa1 (xa1 (xa2 (xa1 (xa2 (xa1 (xa2 h))))))))))
  | 38, _ => exact (xa1 (xa1 (xa2 (xa1 (xa2 (xa1 (xa2 (xa1 (xa2 h)))))))))
  | 39, _ => exact (xa1 (xa2 (xa1 (xa2 (xa1 (xa2 (xa1 (xa2 (xa1 (xa2 h))))))))))
  | 40, _ => exact (xa2 (xa2 (xa1 (xa2 (xa1 (xa2 (xa1 (xa2 (xa1 (xa2 h))))))))))
  | 41, _ => exact (xa1 (xa1 (xa2 (xa2 (xa1 (xa2 (xa1 (xa2 (xa1 (xa2 h))))))))))
  | 42, _ => exact (xa2 (xa1 (xa2 (xa2 (xa1 (xa2 (xa1 (xa2 (xa1 (xa2 h))))))))))
  | 43, _ => exact (xa1 (xa2 (xa2 (xa2 (xa1 (xa2 (xa1 (xa2 (xa1 (xa2 h))))))))))
  | 44, _ => exact (xa2 (xa2 (xa2 (xa2 (xa1 (xa2 (xa1 (xa2 (xa1 (xa2 h))))))))))
  | 45, _ => exact (xa1 (xa1 (xa1 (xa2 (xa2 (xa1 (xa2 (xa1 (xa2 h)))))))))
  | 46, _ => exact (xa1 (xa2 (xa1 (xa1 (xa2 (xa2 (xa1 (xa2 (xa1 (xa2 h))))))))))
  | 47, _ => exact (xa2 (xa2 (xa1 (xa1 (xa2 (xa2 (xa1 (xa2 (xa1 (xa2 h))))))))))
  | 48, _ => exact (xa1 (xa1 (xa2 (xa1 (xa2 (xa2 (xa1 (xa2 (xa1 (xa2 h))))))))))
  | n + 49, hn => exact absurd hn (by omega)
theorem ss29 {args : Array Value} {s : State} (h : narrow_1.before args s = true) : (Cond.exactly (xTm 29) "java/lang/String").before args s = true ∧ (Cond.eq (.field (xTm 29) "java/lang/String" "coder" "B") (.int 0)).before args s = true ∧ (Cond.arrayOf (xTv 29) .byte).before args s = true ∧ (Cond.eq (.length (xTv 29)) (.int (Int32.ofNat (xsL.getD 29 0)))).before args s = true ∧ ∀ j, j < xsL.getD 29 0 → (Cond.eq (.elem (xTv 29) (.int (Int32.ofNat j))) (.int ((xsB.getD 29 []).getD j 0))).before args s = true := by
  refine ⟨(xa2 (xa1 (xa2 (xa1 (xa2 (xa2 (xa1 (xa2 (xa1 (xa2 h)))))))))), (xa1 (xa2 (xa2 (xa1 (xa2 (xa2 (xa1 (xa2 (xa1 (xa2 h)))))))))), (xa2 (xa2 (xa2 (xa1 (xa2 (xa2 (xa1 (xa2 (xa1 (xa2 h)))))))))), (xa1 (xa1 (xa2 (xa2 (xa2 (xa1 (xa2 (xa1 (xa2 h))))))))), fun j hj => ?_⟩
  have hj2 : j < 21 := hj
  match j, hj2 with
  | 0, _ => exact (xa1 (xa2 (xa1 (xa2 (xa2 (xa2 (xa1 (xa2 (xa1 (xa2 h))))))))))
  | 1, _ => exact (xa2 (xa2 (xa1 (xa2 (xa2 (xa2 (xa1 (xa2 (xa1 (xa2 h))))))))))
  | 2, _ => exact (xa1 (xa1 (xa2 (xa2 (xa2 (xa2 (xa1 (xa2 (xa1 (xa2 h))))))))))
  | 3, _ => exact (xa2 (xa1 (xa2 (xa2 (xa2 (xa2 (xa1 (xa2 (xa1 (xa2 h))))))))))
  | 4, _ => exact (xa1 (xa2 (xa2 (xa2 (xa2 (xa2 (xa1 (xa2 (xa1 (xa2 h))))))))))
  | 5, _ => exact (xa2 (xa2 (xa2 (xa2 (xa2 (xa2 (xa1 (xa2 (xa1 (xa2 h))))))))))
  | 6, _ => exact (xa1 (xa1 (xa1 (xa1 (xa1 (xa2 (xa2 (xa1 (xa2 h)))))))))
  | 7, _ => exact (xa1 (xa2 (xa1 (xa1 (xa1 (xa1 (xa2 (xa2 (xa1 (xa2 h))))))))))
  | 8, _ => exact (xa2 (xa2 (xa1 (xa1 (xa1 (xa1 (xa2 (xa2 (xa1 (xa2 h))))))))))
  | 9, _ => exact (xa1 (xa2 (xa1 (xa1 (xa1 (xa2 (xa2 (xa1 (xa2 h)))))))))
  | 10, _ => exact (xa1 (xa2 (xa2 (xa1 (xa1 (xa1 (xa2 (xa2 (xa1 (xa2 h))))))))))
  | 11, _ => exact (xa2 (xa2 (xa2 (xa1 (xa1 (xa1 (xa2 (xa2 (xa1 (xa2 h))))))))))
  | 12, _ => exact (xa1 (xa1 (xa2 (xa1 (xa1 (xa2 (xa2 (xa1 (xa2 h)))))))))
  | 13, _ => exact (xa1 (xa2 (xa1 (xa2 (xa1 (xa1 (xa2 (xa2 (xa1 (xa2 h))))))))))
  | 14, _ => exact (xa2 (xa2 (xa1 (xa2 (xa1 (xa1 (xa2 (xa2 (xa1 (xa2 h))))))))))
  | 15, _ => exact (xa1 (xa1 (xa2 (xa2 (xa1 (xa1 (xa2 (xa2 (xa1 (xa2 h))))))))))
  | 16, _ => exact (xa2 (xa1 (xa2 (xa2 (xa1 (xa1 (xa2 (xa2 (xa1 (xa2 h))))))))))
  | 17, _ => exact (xa1 (xa2 (xa2 (xa2 (xa1 (xa1 (xa2 (xa2 (xa1 (xa2 h))))))))))
  | 18, _ => exact (xa2 (xa2 (xa2 (xa2 (xa1 (xa1 (xa2 (xa2 (xa1 (xa2 h))))))))))
  | 19, _ => exact (xa1 (xa1 (xa1 (xa2 (xa1 (xa2 (xa2 (xa1 (xa2 h)))))))))
  | 20, _ => exact (xa1 (xa2 (xa1 (xa1 (xa2 (xa1 (xa2 (xa2 (xa1 (xa2 h))))))))))
  | n + 21, hn => exact absurd hn (by omega)
theorem ss30 {args : Array Value} {s : State} (h : narrow_1.before args s = true) : (Cond.exactly (xTm 30) "java/lang/String").before args s = true ∧ (Cond.eq (.field (xTm 30) "java/lang/String" "coder" "B") (.int 0)).before args s = true ∧ (Cond.arrayOf (xTv 30) .byte).before args s = true ∧ (Cond.eq (.length (xTv 30)) (.int (Int32.ofNat (xsL.getD 30 0)))).before args s = true ∧ ∀ j, j < xsL.getD 30 0 → (Cond.eq (.elem (xTv 30) (.int (Int32.ofNat j))) (.int ((xsB.getD 30 []).getD j 0))).before args s = true := by
  refine ⟨(xa2 (xa2 (xa1 (xa1 (xa2 (xa1 (xa2 (xa2 (xa1 (xa2 h)))))))))), (xa1 (xa1 (xa2 (xa1 (xa2 (xa1 (xa2 (xa2 (xa1 (xa2 h)))))))))), (xa2 (xa1 (xa2 (xa1 (xa2 (xa1 (xa2 (xa2 (xa1 (xa2 h)))))))))), (xa1 (xa2 (xa2 (xa1 (xa2 (xa1 (xa2 (xa2 (xa1 (xa2 h)))))))))), fun j hj => ?_⟩
  have hj2 : j < 29 := hj
  match j, hj2 with
  | 0, _ => exact (xa2 (xa2 (xa2 (xa1 (xa2 (xa1 (xa2 (xa2 (xa1 (xa2 h))))))))))
  | 1, _ => exact (xa1 (xa1 (xa2 (xa2 (xa1 (xa2 (xa2 (xa1 (xa2 h)))))))))
  | 2, _ => exact (xa1 (xa2 (xa1 (xa2 (xa2 (xa1 (xa2 (xa2 (xa1 (xa2 h))))))))))
  | 3, _ => exact (xa2 (xa2 (xa1 (xa2 (xa2 (xa1 (xa2 (xa2 (xa1 (xa2 h))))))))))
  | 4, _ => exact (xa1 (xa1 (xa2 (xa2 (xa2 (xa1 (xa2 (xa2 (xa1 (xa2 h))))))))))
  | 5, _ => exact (xa2 (xa1 (xa2 (xa2 (xa2 (xa1 (xa2 (xa2 (xa1 (xa2 h))))))))))
  | 6, _ => exact (xa1 (xa2 (xa2 (xa2 (xa2 (xa1 (xa2 (xa2 (xa1 (xa2 h))))))))))
  | 7, _ => exact (xa2 (xa2 (xa2 (xa2 (xa2 (xa1 (xa2 (xa2 (xa1 (xa2 h))))))))))
  | 8, _ => exact (xa1 (xa1 (xa1 (xa1 (xa2 (xa2 (xa2 (xa1 (xa2 h)))))))))
  | 9, _ => exact (xa1 (xa2 (xa1 (xa1 (xa1 (xa2 (xa2 (xa2 (xa1 (xa2 h))))))))))
  | 10, _ => exact (xa2 (xa2 (xa1 (xa1 (xa1 (xa2 (xa2 (xa2 (xa1 (xa2 h))))))))))
  | 11, _ => exact (xa1 (xa2 (xa1 (xa1 (xa2 (xa2 (xa2 (xa1 (xa2 h)))))))))
  | 12, _ => exact (xa1 (xa2 (xa2 (xa1 (xa1 (xa2 (xa2 (xa2 (xa1 (xa2 h))))))))))
  | 13, _ => exact (xa2 (xa2 (xa2 (xa1 (xa1 (xa2 (xa2 (xa2 (xa1 (xa2 h))))))))))
  | 14, _ => exact (xa1 (xa1 (xa2 (xa1 (xa2 (xa2 (xa2 (xa1 (xa2 h)))))))))
  | 15, _ => exact (xa1 (xa2 (xa1 (xa2 (xa1 (xa2 (xa2 (xa2 (xa1 (xa2 h))))))))))
  | 16, _ => exact (xa2 (xa2 (xa1 (xa2 (xa1 (xa2 (xa2 (xa2 (xa1 (xa2 h))))))))))
  | 17, _ => exact (xa1 (xa1 (xa2 (xa2 (xa1 (xa2 (xa2 (xa2 (xa1 (xa2 h))))))))))
  | 18, _ => exact (xa2 (xa1 (xa2 (xa2 (xa1 (xa2 (xa2 (xa2 (xa1 (xa2 h))))))))))
  | 19, _ => exact (xa1 (xa2 (xa2 (xa2 (xa1 (xa2 (xa2 (xa2 (xa1 (xa2 h))))))))))
  | 20, _ => exact (xa2 (xa2 (xa2 (xa2 (xa1 (xa2 (xa2 (xa2 (xa1 (xa2 h))))))))))
  | 21, _ => exact (xa1 (xa1 (xa1 (xa2 (xa2 (xa2 (xa2 (xa1 (xa2 h)))))))))
  | 22, _ => exact (xa1 (xa2 (xa1 (xa1 (xa2 (xa2 (xa2 (xa2 (xa1 (xa2 h))))))))))
  | 23, _ => exact (xa2 (xa2 (xa1 (xa1 (xa2 (xa2 (xa2 (xa2 (xa1 (xa2 h))))))))))
  | 24, _ => exact (xa1 (xa1 (xa2 (xa1 (xa2 (xa2 (xa2 (xa2 (xa1 (xa2 h))))))))))
  | 25, _ => exact (xa2 (xa1 (xa2 (xa1 (xa2 (xa2 (xa2 (xa2 (xa1 (xa2 h))))))))))
  | 26, _ => exact (xa1 (xa2 (xa2 (xa1 (xa2 (xa2 (xa2 (xa2 (xa1 (xa2 h))))))))))
  | 27, _ => exact (xa2 (xa2 (xa2 (xa1 (xa2 (xa2 (xa2 (xa2 (xa1 (xa2 h))))))))))
  | 28, _ => exact (xa1 (xa1 (xa2 (xa2 (xa2 (xa2 (xa2 (xa1 (xa2 h)))))))))
  | n + 29, hn => exact absurd hn (by omega)
theorem ss31 {args : Array Value} {s : State} (h : narrow_1.before args s = true) : (Cond.exactly (xTm 31) "java/lang/String").before args s = true ∧ (Cond.eq (.field (xTm 31) "java/lang/String" "coder" "B") (.int 0)).before args s = true ∧ (Cond.arrayOf (xTv 31) .byte).before args s = true ∧ (Cond.eq (.length (xTv 31)) (.int (Int32.ofNat (xsL.getD 31 0)))).before args s = true ∧ ∀ j, j < xsL.getD 31 0 → (Cond.eq (.elem (xTv 31) (.int (Int32.ofNat j))) (.int ((xsB.getD 31 []).getD j 0))).before args s = true := by
  refine ⟨(xa1 (xa2 (xa1 (xa2 (xa2 (xa2 (xa2 (xa2 (xa1 (xa2 h)))))))))), (xa2 (xa2 (xa1 (xa2 (xa2 (xa2 (xa2 (xa2 (xa1 (xa2 h)))))))))), (xa1 (xa1 (xa2 (xa2 (xa2 (xa2 (xa2 (xa2 (xa1 (xa2 h)))))))))), (xa2 (xa1 (xa2 (xa2 (xa2 (xa2 (xa2 (xa2 (xa1 (xa2 h)))))))))), fun j hj => ?_⟩
  have hj2 : j < 32 := hj
  match j, hj2 with
  | 0, _ => exact (xa1 (xa2 (xa2 (xa2 (xa2 (xa2 (xa2 (xa2 (xa1 (xa2 h))))))))))
  | 1, _ => exact (xa2 (xa2 (xa2 (xa2 (xa2 (xa2 (xa2 (xa2 (xa1 (xa2 h))))))))))
  | 2, _ => exact (xa1 (xa1 (xa1 (xa1 (xa1 (xa1 (xa1 (xa2 (xa2 h)))))))))
  | 3, _ => exact (xa1 (xa2 (xa1 (xa1 (xa1 (xa1 (xa1 (xa1 (xa2 (xa2 h))))))))))
  | 4, _ => exact (xa2 (xa2 (xa1 (xa1 (xa1 (xa1 (xa1 (xa1 (xa2 (xa2 h))))))))))
  | 5, _ => exact (xa1 (xa2 (xa1 (xa1 (xa1 (xa1 (xa1 (xa2 (xa2 h)))))))))
  | 6, _ => exact (xa1 (xa2 (xa2 (xa1 (xa1 (xa1 (xa1 (xa1 (xa2 (xa2 h))))))))))
  | 7, _ => exact (xa2 (xa2 (xa2 (xa1 (xa1 (xa1 (xa1 (xa1 (xa2 (xa2 h))))))))))
  | 8, _ => exact (xa1 (xa1 (xa2 (xa1 (xa1 (xa1 (xa1 (xa2 (xa2 h)))))))))
  | 9, _ => exact (xa1 (xa2 (xa1 (xa2 (xa1 (xa1 (xa1 (xa1 (xa2 (xa2 h))))))))))
  | 10, _ => exact (xa2 (xa2 (xa1 (xa2 (xa1 (xa1 (xa1 (xa1 (xa2 (xa2 h))))))))))
  | 11, _ => exact (xa1 (xa1 (xa2 (xa2 (xa1 (xa1 (xa1 (xa1 (xa2 (xa2 h))))))))))
  | 12, _ => exact (xa2 (xa1 (xa2 (xa2 (xa1 (xa1 (xa1 (xa1 (xa2 (xa2 h))))))))))
  | 13, _ => exact (xa1 (xa2 (xa2 (xa2 (xa1 (xa1 (xa1 (xa1 (xa2 (xa2 h))))))))))
  | 14, _ => exact (xa2 (xa2 (xa2 (xa2 (xa1 (xa1 (xa1 (xa1 (xa2 (xa2 h))))))))))
  | 15, _ => exact (xa1 (xa1 (xa1 (xa2 (xa1 (xa1 (xa1 (xa2 (xa2 h)))))))))
  | 16, _ => exact (xa1 (xa2 (xa1 (xa1 (xa2 (xa1 (xa1 (xa1 (xa2 (xa2 h))))))))))
  | 17, _ => exact (xa2 (xa2 (xa1 (xa1 (xa2 (xa1 (xa1 (xa1 (xa2 (xa2 h))))))))))
  | 18, _ => exact (xa1 (xa2 (xa1 (xa2 (xa1 (xa1 (xa1 (xa2 (xa2 h)))))))))
  | 19, _ => exact (xa1 (xa2 (xa2 (xa1 (xa2 (xa1 (xa1 (xa1 (xa2 (xa2 h))))))))))
  | 20, _ => exact (xa2 (xa2 (xa2 (xa1 (xa2 (xa1 (xa1 (xa1 (xa2 (xa2 h))))))))))
  | 21, _ => exact (xa1 (xa1 (xa2 (xa2 (xa1 (xa1 (xa1 (xa2 (xa2 h)))))))))
  | 22, _ => exact (xa1 (xa2 (xa1 (xa2 (xa2 (xa1 (xa1 (xa1 (xa2 (xa2 h))))))))))
  | 23, _ => exact (xa2 (xa2 (xa1 (xa2 (xa2 (xa1 (xa1 (xa1 (xa2 (xa2 h))))))))))
  | 24, _ => exact (xa1 (xa1 (xa2 (xa2 (xa2 (xa1 (xa1 (xa1 (xa2 (xa2 h))))))))))
  | 25, _ => exact (xa2 (xa1 (xa2 (xa2 (xa2 (xa1 (xa1 (xa1 (xa2 (xa2 h))))))))))
  | 26, _ => exact (xa1 (xa2 (xa2 (xa2 (xa2 (xa1 (xa1 (xa1 (xa2 (xa2 h))))))))))
  | 27, _ => exact (xa2 (xa2 (xa2 (xa2 (xa2 (xa1 (xa1 (xa1 (xa2 (xa2 h))))))))))
  | 28, _ => exact (xa1 (xa1 (xa1 (xa1 (xa2 (xa1 (xa1 (xa2 (xa2 h)))))))))
  | 29, _ => exact (xa1 (xa2 (xa1 (xa1 (xa1 (xa2 (xa1 (xa1 (xa2 (xa2 h))))))))))
  | 30, _ => exact (xa2 (xa2 (xa1 (xa1 (xa1 (xa2 (xa1 (xa1 (xa2 (xa2 h))))))))))
  | 31, _ => exact (xa1 (xa2 (xa1 (xa1 (xa2 (xa1 (xa1 (xa2 (xa2 h)))))))))
  | n + 32, hn => exact absurd hn (by omega)
theorem ss32 {args : Array Value} {s : State} (h : narrow_1.before args s = true) : (Cond.exactly (xTm 32) "java/lang/String").before args s = true ∧ (Cond.eq (.field (xTm 32) "java/lang/String" "coder" "B") (.int 0)).before args s = true ∧ (Cond.arrayOf (xTv 32) .byte).before args s = true ∧ (Cond.eq (.length (xTv 32)) (.int (Int32.ofNat (xsL.getD 32 0)))).before args s = true ∧ ∀ j, j < xsL.getD 32 0 → (Cond.eq (.elem (xTv 32) (.int (Int32.ofNat j))) (.int ((xsB.getD 32 []).getD j 0))).before args s = true := by
  refine ⟨(xa1 (xa2 (xa2 (xa1 (xa1 (xa2 (xa1 (xa1 (xa2 (xa2 h)))))))))), (xa2 (xa2 (xa2 (xa1 (xa1 (xa2 (xa1 (xa1 (xa2 (xa2 h)))))))))), (xa1 (xa1 (xa2 (xa1 (xa2 (xa1 (xa1 (xa2 (xa2 h))))))))), (xa1 (xa2 (xa1 (xa2 (xa1 (xa2 (xa1 (xa1 (xa2 (xa2 h)))))))))), fun j hj => ?_⟩
  have hj2 : j < 28 := hj
  match j, hj2 with
  | 0, _ => exact (xa2 (xa2 (xa1 (xa2 (xa1 (xa2 (xa1 (xa1 (xa2 (xa2 h))))))))))
  | 1, _ => exact (xa1 (xa1 (xa2 (xa2 (xa1 (xa2 (xa1 (xa1 (xa2 (xa2 h))))))))))
  | 2, _ => exact (xa2 (xa1 (xa2 (xa2 (xa1 (xa2 (xa1 (xa1 (xa2 (xa2 h))))))))))
  | 3, _ => exact (xa1 (xa2 (xa2 (xa2 (xa1 (xa2 (xa1 (xa1 (xa2 (xa2 h))))))))))
  | 4, _ => exact (xa2 (xa2 (xa2 (xa2 (xa1 (xa2 (xa1 (xa1 (xa2 (xa2 h))))))))))
  | 5, _ => exact (xa1 (xa1 (xa1 (xa2 (xa2 (xa1 (xa1 (xa2 (xa2 h)))))))))
  | 6, _ => exact (xa1 (xa2 (xa1 (xa1 (xa2 (xa2 (xa1 (xa1 (xa2 (xa2 h))))))))))
  | 7, _ => exact (xa2 (xa2 (xa1 (xa1 (xa2 (xa2 (xa1 (xa1 (xa2 (xa2 h))))))))))
  | 8, _ => exact (xa1 (xa1 (xa2 (xa1 (xa2 (xa2 (xa1 (xa1 (xa2 (xa2 h))))))))))
  | 9, _ => exact (xa2 (xa1 (xa2 (xa1 (xa2 (xa2 (xa1 (xa1 (xa2 (xa2 h))))))))))
  | 10, _ => exact (xa1 (xa2 (xa2 (xa1 (xa2 (xa2 (xa1 (xa1 (xa2 (xa2 h))))))))))
  | 11, _ => exact (xa2 (xa2 (xa2 (xa1 (xa2 (xa2 (xa1 (xa1 (xa2 (xa2 h))))))))))
  | 12, _ => exact (xa1 (xa1 (xa2 (xa2 (xa2 (xa1 (xa1 (xa2 (xa2 h)))))))))
  | 13, _ => exact (xa1 (xa2 (xa1 (xa2 (xa2 (xa2 (xa1 (xa1 (xa2 (xa2 h))))))))))
  | 14, _ => exact (xa2 (xa2 (xa1 (xa2 (xa2 (xa2 (xa1 (xa1 (xa2 (xa2 h))))))))))
  | 15, _ => exact (xa1 (xa1 (xa2 (xa2 (xa2 (xa2 (xa1 (xa1 (xa2 (xa2 h))))))))))
  | 16, _ => exact (xa2 (xa1 (xa2 (xa2 (xa2 (xa2 (xa1 (xa1 (xa2 (xa2 h))))))))))
  | 17, _ => exact (xa1 (xa2 (xa2 (xa2 (xa2 (xa2 (xa1 (xa1 (xa2 (xa2 h))))))))))
  | 18, _ => exact (xa2 (xa2 (xa2 (xa2 (xa2 (xa2 (xa1 (xa1 (xa2 (xa2 h))))))))))
  | 19, _ => exact (xa1 (xa1 (xa1 (xa1 (xa1 (xa2 (xa1 (xa2 (xa2 h)))))))))
  | 20, _ => exact (xa1 (xa2 (xa1 (xa1 (xa1 (xa1 (xa2 (xa1 (xa2 (xa2 h))))))))))
  | 21, _ => exact (xa2 (xa2 (xa1 (xa1 (xa1 (xa1 (xa2 (xa1 (xa2 (xa2 h))))))))))
  | 22, _ => exact (xa1 (xa2 (xa1 (xa1 (xa1 (xa2 (xa1 (xa2 (xa2 h)))))))))
  | 23, _ => exact (xa1 (xa2 (xa2 (xa1 (xa1 (xa1 (xa2 (xa1 (xa2 (xa2 h))))))))))
  | 24, _ => exact (xa2 (xa2 (xa2 (xa1 (xa1 (xa1 (xa2 (xa1 (xa2 (xa2 h))))))))))
  | 25, _ => exact (xa1 (xa1 (xa2 (xa1 (xa1 (xa2 (xa1 (xa2 (xa2 h)))))))))
  | 26, _ => exact (xa1 (xa2 (xa1 (xa2 (xa1 (xa1 (xa2 (xa1 (xa2 (xa2 h))))))))))
  | 27, _ => exact (xa2 (xa2 (xa1 (xa2 (xa1 (xa1 (xa2 (xa1 (xa2 (xa2 h))))))))))
  | n + 28, hn => exact absurd hn (by omega)
theorem ss33 {args : Array Value} {s : State} (h : narrow_1.before args s = true) : (Cond.exactly (xTm 33) "java/lang/String").before args s = true ∧ (Cond.eq (.field (xTm 33) "java/lang/String" "coder" "B") (.int 0)).before args s = true ∧ (Cond.arrayOf (xTv 33) .byte).before args s = true ∧ (Cond.eq (.length (xTv 33)) (.int (Int32.ofNat (xsL.getD 33 0)))).before args s = true ∧ ∀ j, j < xsL.getD 33 0 → (Cond.eq (.elem (xTv 33) (.int (Int32.ofNat j))) (.int ((xsB.getD 33 []).getD j 0))).before args s = true := by
  refine ⟨(xa1 (xa1 (xa2 (xa2 (xa1 (xa1 (xa2 (xa1 (xa2 (xa2 h)))))))))), (xa2 (xa1 (xa2 (xa2 (xa1 (xa1 (xa2 (xa1 (xa2 (xa2 h)))))))))), (xa1 (xa2 (xa2 (xa2 (xa1 (xa1 (xa2 (xa1 (xa2 (xa2 h)))))))))), (xa2 (xa2 (xa2 (xa2 (xa1 (xa1 (xa2 (xa1 (xa2 (xa2 h)))))))))), fun j hj => ?_⟩
  have hj2 : j < 18 := hj
  match j, hj2 with
  | 0, _ => exact (xa1 (xa1 (xa1 (xa2 (xa1 (xa2 (xa1 (xa2 (xa2 h)))))))))
  | 1, _ => exact (xa1 (xa2 (xa1 (xa1 (xa2 (xa1 (xa2 (xa1 (xa2 (xa2 h))))))))))
  | 2, _ => exact (xa2 (xa2 (xa1 (xa1 (xa2 (xa1 (xa2 (xa1 (xa2 (xa2 h))))))))))
  | 3, _ => exact (xa1 (xa2 (xa1 (xa2 (xa1 (xa2 (xa1 (xa2 (xa2 h)))))))))
  | 4, _ => exact (xa1 (xa2 (xa2 (xa1 (xa2 (xa1 (xa2 (xa1 (xa2 (xa2 h))))))))))
  | 5, _ => exact (xa2 (xa2 (xa2 (xa1 (xa2 (xa1 (xa2 (xa1 (xa2 (xa2 h))))))))))
  | 6, _ => exact (xa1 (xa1 (xa2 (xa2 (xa1 (xa2 (xa1 (xa2 (xa2 h)))))))))
  | 7, _ => exact (xa1 (xa2 (xa1 (xa2 (xa2 (xa1 (xa2 (xa1 (xa2 (xa2 h))))))))))
  | 8, _ => exact (xa2 (xa2 (xa1 (xa2 (xa2 (xa1 (xa2 (xa1 (xa2 (xa2 h))))))))))
  | 9, _ => exact (xa1 (xa1 (xa2 (xa2 (xa2 (xa1 (xa2 (xa1 (xa2 (xa2 h))))))))))
  | 10, _ => exact (xa2 (xa1 (xa2 (xa2 (xa2 (xa1 (xa2 (xa1 (xa2 (xa2 h))))))))))
  | 11, _ => exact (xa1 (xa2 (xa2 (xa2 (xa2 (xa1 (xa2 (xa1 (xa2 (xa2 h))))))))))
  | 12, _ => exact (xa2 (xa2 (xa2 (xa2 (xa2 (xa1 (xa2 (xa1 (xa2 (xa2 h))))))))))
  | 13, _ => exact (xa1 (xa1 (xa1 (xa1 (xa2 (xa2 (xa1 (xa2 (xa2 h)))))))))
  | 14, _ => exact (xa1 (xa2 (xa1 (xa1 (xa1 (xa2 (xa2 (xa1 (xa2 (xa2 h))))))))))
  | 15, _ => exact (xa2 (xa2 (xa1 (xa1 (xa1 (xa2 (xa2 (xa1 (xa2 (xa2 h))))))))))
  | 16, _ => exact (xa1 (xa2 (xa1 (xa1 (xa2 (xa2 (xa1 (xa2 (xa2 h)))))))))
  | 17, _ => exact (xa1 (xa2 (xa2 (xa1 (xa1 (xa2 (xa2 (xa1 (xa2 (xa2 h))))))))))
  | n + 18, hn => exact absurd hn (by omega)
theorem ss34 {args : Array Value} {s : State} (h : narrow_1.before args s = true) : (Cond.exactly (xTm 34) "java/lang/String").before args s = true ∧ (Cond.eq (.field (xTm 34) "java/lang/String" "coder" "B") (.int 0)).before args s = true ∧ (Cond.arrayOf (xTv 34) .byte).before args s = true ∧ (Cond.eq (.length (xTv 34)) (.int (Int32.ofNat (xsL.getD 34 0)))).before args s = true ∧ ∀ j, j < xsL.getD 34 0 → (Cond.eq (.elem (xTv 34) (.int (Int32.ofNat j))) (.int ((xsB.getD 34 []).getD j 0))).before args s = true := by
  refine ⟨(xa2 (xa2 (xa2 (xa1 (xa1 (xa2 (xa2 (xa1 (xa2 (xa2 h)))))))))), (xa1 (xa1 (xa2 (xa1 (xa2 (xa2 (xa1 (xa2 (xa2 h))))))))), (xa1 (xa2 (xa1 (xa2 (xa1 (xa2 (xa2 (xa1 (xa2 (xa2 h)))))))))), (xa2 (xa2 (xa1 (xa2 (xa1 (xa2 (xa2 (xa1 (xa2 (xa2 h)))))))))), fun j hj => ?_⟩
  have hj2 : j < 20 := hj
  match j, hj2 with
  | 0, _ => exact (xa1 (xa1 (xa2 (xa2 (xa1 (xa2 (xa2 (xa1 (xa2 (xa2 h))))))))))
  | 1, _ => exact (xa2 (xa1 (xa2 (xa2 (xa1 (xa2 (xa2 (xa1 (xa2 (xa2 h))))))))))
  | 2, _ => exact (xa1 (xa2 (xa2 (xa2 (xa1 (xa2 (xa2 (xa1 (xa2 (xa2 h))))))))))
  | 3, _ => exact (xa2 (xa2 (xa2 (xa2 (xa1 (xa2 (xa2 (xa1 (xa2 (xa2 h))))))))))
  | 4, _ => exact (xa1 (xa1 (xa1 (xa2 (xa2 (xa2 (xa1 (xa2 (xa2 h)))))))))
  | 5, _ => exact (xa1 (xa2 (xa1 (xa1 (xa2 (xa2 (xa2 (xa1 (xa2 (xa2 h))))))))))
  | 6, _ => exact (xa2 (xa2 (xa1 (xa1 (xa2 (xa2 (xa2 (xa1 (xa2 (xa2 h))))))))))
  | 7, _ => exact (xa1 (xa1 (xa2 (xa1 (xa2 (xa2 (xa2 (xa1 (xa2 (xa2 h))))))))))
  | 8, _ => exact (xa2 (xa1 (xa2 (xa1 (xa2 (xa2 (xa2 (xa1 (xa2 (xa2 h))))))))))
  | 9, _ => exact (xa1 (xa2 (xa2 (xa1 (xa2 (xa2 (xa2 (xa1 (xa2 (xa2 h))))))))))
  | 10, _ => exact (xa2 (xa2 (xa2 (xa1 (xa2 (xa2 (xa2 (xa1 (xa2 (xa2 h))))))))))
  | 11, _ => exact (xa1 (xa1 (xa2 (xa2 (xa2 (xa2 (xa1 (xa2 (xa2 h)))))))))
  | 12, _ => exact (xa1 (xa2 (xa1 (xa2 (xa2 (xa2 (xa2 (xa1 (xa2 (xa2 h))))))))))
  | 13, _ => exact (xa2 (xa2 (xa1 (xa2 (xa2 (xa2 (xa2 (xa1 (xa2 (xa2 h))))))))))
  | 14, _ => exact (xa1 (xa1 (xa2 (xa2 (xa2 (xa2 (xa2 (xa1 (xa2 (xa2 h))))))))))
  | 15, _ => exact (xa2 (xa1 (xa2 (xa2 (xa2 (xa2 (xa2 (xa1 (xa2 (xa2 h))))))))))
  | 16, _ => exact (xa1 (xa2 (xa2 (xa2 (xa2 (xa2 (xa2 (xa1 (xa2 (xa2 h))))))))))
  | 17, _ => exact (xa2 (xa2 (xa2 (xa2 (xa2 (xa2 (xa2 (xa1 (xa2 (xa2 h))))))))))
  | 18, _ => exact (xa1 (xa1 (xa1 (xa1 (xa1 (xa1 (xa2 (xa2 (xa2 h)))))))))
  | 19, _ => exact (xa1 (xa2 (xa1 (xa1 (xa1 (xa1 (xa1 (xa2 (xa2 (xa2 h))))))))))
  | n + 20, hn => exact absurd hn (by omega)
theorem ss35 {args : Array Value} {s : State} (h : narrow_1.before args s = true) : (Cond.exactly (xTm 35) "java/lang/String").before args s = true ∧ (Cond.eq (.field (xTm 35) "java/lang/String" "coder" "B") (.int 0)).before args s = true ∧ (Cond.arrayOf (xTv 35) .byte).before args s = true ∧ (Cond.eq (.length (xTv 35)) (.int (Int32.ofNat (xsL.getD 35 0)))).before args s = true ∧ ∀ j, j < xsL.getD 35 0 → (Cond.eq (.elem (xTv 35) (.int (Int32.ofNat j))) (.int ((xsB.getD 35 []).getD j 0))).before args s = true := by
  refine ⟨(xa2 (xa2 (xa1 (xa1 (xa1 (xa1 (xa1 (xa2 (xa2 (xa2 h)))))))))), (xa1 (xa2 (xa1 (xa1 (xa1 (xa1 (xa2 (xa2 (xa2 h))))))))), (xa1 (xa2 (xa2 (xa1 (xa1 (xa1 (xa1 (xa2 (xa2 (xa2 h)))))))))), (xa2 (xa2 (xa2 (xa1 (xa1 (xa1 (xa1 (xa2 (xa2 (xa2 h)))))))))), fun j hj => ?_⟩
  have hj2 : j < 100 := hj
  match j, hj2 with
  | 0, _ => exact (xa1 (xa1 (xa2 (xa1 (xa1 (xa1 (xa2 (xa2 (xa2 h)))))))))
  | 1, _ => exact (xa1 (xa2 (xa1 (xa2 (xa1 (xa1 (xa1 (xa2 (xa2 (xa2 h))))))))))
  | 2, _ => exact (xa2 (xa2 (xa1 (xa2 (xa1 (xa1 (xa1 (xa2 (xa2 (xa2 h))))))))))
  | 3, _ => exact (xa1 (xa1 (xa2 (xa2 (xa1 (xa1 (xa1 (xa2 (xa2 (xa2 h))))))))))
  | 4, _ => exact (xa2 (xa1 (xa2 (xa2 (xa1 (xa1 (xa1 (xa2 (xa2 (xa2 h))))))))))
  | 5, _ => exact (xa1 (xa2 (xa2 (xa2 (xa1 (xa1 (xa1 (xa2 (xa2 (xa2 h))))))))))
  | 6, _ => exact (xa2 (xa2 (xa2 (xa2 (xa1 (xa1 (xa1 (xa2 (xa2 (xa2 h))))))))))
  | 7, _ => exact (xa1 (xa1 (xa1 (xa2 (xa1 (xa1 (xa2 (xa2 (xa2 h)))))))))
  | 8, _ => exact (xa1 (xa2 (xa1 (xa1 (xa2 (xa1 (xa1 (xa2 (xa2 (xa2 h))))))))))
  | 9, _ => exact (xa2 (xa2 (xa1 (xa1 (xa2 (xa1 (xa1 (xa2 (xa2 (xa2 h))))))))))
  | 10, _ => exact (xa1 (xa2 (xa1 (xa2 (xa1 (xa1 (xa2 (xa2 (xa2 h)))))))))
  | 11, _ => exact (xa1 (xa2 (xa2 (xa1 (xa2 (xa1 (xa1 (xa2 (xa2 (xa2 h))))))))))
  | 12, _ => exact (xa2 (xa2 (xa2 (xa1 (xa2 (xa1 (xa1 (xa2 (xa2 (xa2 h))))))))))
  | 13, _ => exact (xa1 (xa1 (xa2 (xa2 (xa1 (xa1 (xa2 (xa2 (xa2 h)))))))))
  | 14, _ => exact (xa1 (xa2 (xa1 (xa2 (xa2 (xa1 (xa1 (xa2 (xa2 (xa2 h))))))))))
  | 15, _ => exact (xa2 (xa2 (xa1 (xa2 (xa2 (xa1 (xa1 (xa2 (xa2 (xa2 h))))))))))
  | 16, _ => exact (xa1 (xa1 (xa2 (xa2 (xa2 (xa1 (xa1 (xa2 (xa2 (xa2 h))))))))))
  | 17, _ => exact (xa2 (xa1 (xa2 (xa2 (xa2 (xa1 (xa1 (xa2 (xa2 (xa2 h))))))))))
  | 18, _ => exact (xa1 (xa2 (xa2 (xa2 (xa2 (xa1 (xa1 (xa2 (xa2 (xa2 h))))))))))
  | 19, _ => exact (xa2 (xa2 (xa2 (xa2 (xa2 (xa1 (xa1 (xa2 (xa2 (xa2 h))))))))))
  | 20, _ => exact (xa1 (xa1 (xa1 (xa1 (xa2 (xa1 (xa2 (xa2 (xa2 h)))))))))
  | 21, _ => exact (xa1 (xa2 (xa1 (xa1 (xa1 (xa2 (xa1 (xa2 (xa2 (xa2 h))))))))))
  | 22, _ => exact (xa2 (xa2 (xa1 (xa1 (xa1 (xa2 (xa1 (xa2 (xa2 (xa2 h))))))))))
  | 23, _ => exact (xa1 (xa2 (xa1 (xa1 (xa2 (xa1 (xa2 (xa2 (xa2 h)))))))))
  | 24, _ => exact (xa1 (xa2 (xa2 (xa1 (xa1 (xa2 (xa1 (xa2 (xa2 (xa2 h))))))))))
  | 25, _ => exact (xa2 (xa2 (xa2 (xa1 (xa1 (xa2 (xa1 (xa2 (xa2 (xa2 h))))))))))
  | 26, _ => exact (xa1 (xa1 (xa2 (xa1 (xa2 (xa1 (xa2 (xa2 (xa2 h)))))))))
  | 27, _ => exact (xa1 (xa2 (xa1 (xa2 (xa1 (xa2 (xa1 (xa2 (xa2 (xa2 h))))))))))
  | 28, _ => exact (xa2 (xa2 (xa1 (xa2 (xa1 (xa2 (xa1 (xa2 (xa2 (xa2 h))))))))))
  | 29, _ => exact (xa1 (xa1 (xa2 (xa2 (xa1 (xa2 (xa1 (xa2 (xa2 (xa2 h))))))))))
  | 30, _ => exact (xa2 (xa1 (xa2 (xa2 (xa1 (xa2 (xa1 (xa2 (xa2 (xa2 h))))))))))
  | 31, _ => exact (xa1 (xa2 (xa2 (xa2 (xa1 (xa2 (xa1 (xa2 (xa2 (xa2 h))))))))))
  | 32, _ => exact (xa2 (xa2 (xa2 (xa2 (xa1 (xa2 (xa1 (xa2 (xa2 (xa2 h))))))))))
  | 33, _ => exact (xa1 (xa1 (xa1 (xa2 (xa2 (xa1 (xa2 (xa2 (xa2 h)))))))))
  | 34, _ => exact (xa1 (xa2 (xa1 (xa1 (xa2 (xa2 (xa1 (xa2 (xa2 (xa2 h))))))))))
  | 35, _ => exact (xa2 (xa2 (xa1 (xa1 (xa2 (xa2 (xa1 (xa2 (xa2 (xa2 h))))))))))
  | 36, _ => exact (xa1 (xa1 (xa2 (xa1 (xa2 (xa2 (xa1 (xa2 (xa2 (xa2 h))))))))))
  | 37, _ => exact (xa2 (xa1 (xa2 (xa1 (xa2 (xa2 (xa1 (xa2 (xa2 (xa2 h))))))))))
  | 38, _ => exact (xa1 (xa2 (xa2 (xa1 (xa2 (xa2 (xa1 (xa2 (xa2 (xa2 h))))))))))
  | 39, _ => exact (xa2 (xa2 (xa2 (xa1 (xa2 (xa2 (xa1 (xa2 (xa2 (xa2 h))))))))))
  | 40, _ => exact (xa1 (xa1 (xa2 (xa2 (xa2 (xa1 (xa2 (xa2 (xa2 h)))))))))
  | 41, _ => exact (xa1 (xa2 (xa1 (xa2 (xa2 (xa2 (xa1 (xa2 (xa2 (xa2 h))))))))))
  | 42, _ => exact (xa2 (xa2 (xa1 (xa2 (xa2 (xa2 (xa1 (xa2 (xa2 (xa2 h))))))))))
  | 43, _ => exact (xa1 (xa1 (xa2 (xa2 (xa2 (xa2 (xa1 (xa2 (xa2 (xa2 h))))))))))
  | 44, _ => exact (xa2 (xa1 (xa2 (xa2 (xa2 (xa2 (xa1 (xa2 (xa2 (xa2 h))))))))))
  | 45, _ => exact (xa1 (xa2 (xa2 (xa2 (xa2 (xa2 (xa1 (xa2 (xa2 (xa2 h))))))))))
  | 46, _ => exact (xa2 (xa2 (xa2 (xa2 (xa2 (xa2 (xa1 (xa2 (xa2 (xa2 h))))))))))
  | 47, _ => exact (xa1 (xa1 (xa1 (xa1 (xa1 (xa2 (xa2 (xa2 (xa2 h)))))))))
  | 48, _ => exact (xa1 (xa2 (xa1 (xa1 (xa1 (xa1 (xa2 (xa2 (xa2 (xa2 h))))))))))
  | 49, _ => exact (xa2 (xa2 (xa1 (xa1 (xa1 (xa1 (xa2 (xa2 (xa2 (xa2 h))))))))))
  | 50, _ => exact (xa1 (xa2 (xa1 (xa1 (xa1 (xa2 (xa2 (xa2 (xa2 h)))))))))
  | 51, _ => exact (xa1 (xa2 (xa2 (xa1 (xa1 (xa1 (xa2 (xa2 (xa2 (xa2 h))))))))))
  | 52, _ => exact (xa2 (xa2 (xa2 (xa1 (xa1 (xa1 (xa2 (xa2 (xa2 (xa2 h))))))))))
  | 53, _ => exact (xa1 (xa1 (xa2 (xa1 (xa1 (xa2 (xa2 (xa2 (xa2 h)))))))))
  | 54, _ => exact (xa1 (xa2 (xa1 (xa2 (xa1 (xa1 (xa2 (xa2 (xa2 (xa2 h))))))))))
  | 55, _ => exact (xa2 (xa2 (xa1 (xa2 (xa1 (xa1 (xa2 (xa2 (xa2 (xa2 h))))))))))
  | 56, _ => exact (xa1 (xa1 (xa2 (xa2 (xa1 (xa1 (xa2 (xa2 (xa2 (xa2 h))))))))))
  | 57, _ => exact (xa2 (xa1 (xa2 (xa2 (xa1 (xa1 (xa2 (xa2 (xa2 (xa2 h))))))))))
  | 58, _ => exact (xa1 (xa2 (xa2 (xa2 (xa1 (xa1 (xa2 (xa2 (xa2 (xa2 h))))))))))
  | 59, _ => exact (xa2 (xa2 (xa2 (xa2 (xa1 (xa1 (xa2 (xa2 (xa2 (xa2 h))))))))))
  | 60, _ => exact (xa1 (xa1 (xa1 (xa2 (xa1 (xa2 (xa2 (xa2 (xa2 h)))))))))
  | 61, _ => exact (xa1 (xa2 (xa1 (xa1 (xa2 (xa1 (xa2 (xa2 (xa2 (xa2 h))))))))))
  | 62, _ => exact (xa2 (xa2 (xa1 (xa1 (xa2 (xa1 (xa2 (xa2 (xa2 (xa2 h))))))))))
  | 63, _ => exact (xa1 (xa1 (xa2 (xa1 (xa2 (xa1 (xa2 (xa2 (xa2 (xa2 h))))))))))
  | 64, _ => exact (xa2 (xa1 (xa2 (xa1 (xa2 (xa1 (xa2 (xa2 (xa2 (xa2 h))))))))))
  | 65, _ => exact (xa1 (xa2 (xa2 (xa1 (xa2 (xa1 (xa2 (xa2 (xa2 (xa2 h))))))))))
  | 66, _ => exact (xa2 (xa2 (xa2 (xa1 (xa2 (xa1 (xa2 (xa2 (xa2 (xa2 h))))))))))
  | 67, _ => exact (xa1 (xa1 (xa2 (xa2 (xa1 (xa2 (xa2 (xa2 (xa2 h)))))))))
  | 68, _ => exact (xa1 (xa2 (xa1 (xa2 (xa2 (xa1 (xa2 (xa2 (xa2 (xa2 h))))))))))
  | 69, _ => exact (xa2 (xa2 (xa1 (xa2 (xa2 (xa1 (xa2 (xa2 (xa2 (xa2 h))))))))))
  | 70, _ => exact (xa1 (xa1 (xa2 (xa2 (xa2 (xa1 (xa2 (xa2 (xa2 (xa2 h))))))))))
  | 71, _ => exact (xa2 (xa1 (xa2 (xa2 (xa2 (xa1 (xa2 (xa2 (xa2 (xa2 h))))))))))
  | 72, _ => exact (xa1 (xa2 (xa2 (xa2 (xa2 (xa1 (xa2 (xa2 (xa2 (xa2 h))))))))))
  | 73, _ => exact (xa2 (xa2 (xa2 (xa2 (xa2 (xa1 (xa2 (xa2 (xa2 (xa2 h))))))))))
  | 74, _ => exact (xa1 (xa1 (xa1 (xa1 (xa2 (xa2 (xa2 (xa2 (xa2 h)))))))))
  | 75, _ => exact (xa1 (xa2 (xa1 (xa1 (xa1 (xa2 (xa2 (xa2 (xa2 (xa2 h))))))))))
  | 76, _ => exact (xa2 (xa2 (xa1 (xa1 (xa1 (xa2 (xa2 (xa2 (xa2 (xa2 h))))))))))
  | 77, _ => exact (xa1 (xa2 (xa1 (xa1 (xa2 (xa2 (xa2 (xa2 (xa2 h)))))))))
  | 78, _ => exact (xa1 (xa2 (xa2 (xa1 (xa1 (xa2 (xa2 (xa2 (xa2 (xa2 h))))))))))
  | 79, _ => exact (xa2 (xa2 (xa2 (xa1 (xa1 (xa2 (xa2 (xa2 (xa2 (xa2 h))))))))))
  | 80, _ => exact (xa1 (xa1 (xa2 (xa1 (xa2 (xa2 (xa2 (xa2 (xa2 h)))))))))
  | 81, _ => exact (xa1 (xa2 (xa1 (xa2 (xa1 (xa2 (xa2 (xa2 (xa2 (xa2 h))))))))))
  | 82, _ => exact (xa2 (xa2 (xa1 (xa2 (xa1 (xa2 (xa2 (xa2 (xa2 (xa2 h))))))))))
  | 83, _ => exact (xa1 (xa1 (xa2 (xa2 (xa1 (xa2 (xa2 (xa2 (xa2 (xa2 h))))))))))
  | 84, _ => exact (xa2 (xa1 (xa2 (xa2 (xa1 (xa2 (xa2 (xa2 (xa2 (xa2 h))))))))))
  | 85, _ => exact (xa1 (xa2 (xa2 (xa2 (xa1 (xa2 (xa2 (xa2 (xa2 (xa2 h))))))))))
  | 86, _ => exact (xa2 (xa2 (xa2 (xa2 (xa1 (xa2 (xa2 (xa2 (xa2 (xa2 h))))))))))
  | 87, _ => exact (xa1 (xa1 (xa1 (xa2 (xa2 (xa2 (xa2 (xa2 (xa2 h)))))))))
  | 88, _ => exact (xa1 (xa2 (xa1 (xa1 (xa2 (xa2 (xa2 (xa2 (xa2 (xa2 h))))))))))
  | 89, _ => exact (xa2 (xa2 (xa1 (xa1 (xa2 (xa2 (xa2 (xa2 (xa2 (xa2 h))))))))))
  | 90, _ => exact (xa1 (xa1 (xa2 (xa1 (xa2 (xa2 (xa2 (xa2 (xa2 (xa2 h))))))))))
  | 91, _ => exact (xa2 (xa1 (xa2 (xa1 (xa2 (xa2 (xa2 (xa2 (xa2 (xa2 h))))))))))
  | 92, _ => exact (xa1 (xa2 (xa2 (xa1 (xa2 (xa2 (xa2 (xa2 (xa2 (xa2 h))))))))))
  | 93, _ => exact (xa2 (xa2 (xa2 (xa1 (xa2 (xa2 (xa2 (xa2 (xa2 (xa2 h))))))))))
  | 94, _ => exact (xa1 (xa1 (xa2 (xa2 (xa2 (xa2 (xa2 (xa2 (xa2 h)))))))))
  | 95, _ => exact (xa1 (xa2 (xa1 (xa2 (xa2 (xa2 (xa2 (xa2 (xa2 (xa2 h))))))))))
  | 96, _ => exact (xa2 (xa2 (xa1 (xa2 (xa2 (xa2 (xa2 (xa2 (xa2 (xa2 h))))))))))
  | 97, _ => exact (xa1 (xa1 (xa2 (xa2 (xa2 (xa2 (xa2 (xa2 (xa2 (xa2 h))))))))))
  | 98, _ => exact (xa2 (xa1 (xa2 (xa2 (xa2 (xa2 (xa2 (xa2 (xa2 (xa2 h))))))))))
  | 99, _ => exact (xa1 (xa2 (xa2 (xa2 (xa2 (xa2 (xa2 (xa2 (xa2 (xa2 h))))))))))
  | n + 100, hn => exact absurd hn (by omega)
theorem ss_all {args : Array Value} {s : State} (h : narrow_1.before args s = true) : ∀ i, i < 36 → (Cond.exactly (xTm i) "java/lang/String").before args s = true ∧ (Cond.eq (.field (xTm i) "java/lang/String" "coder" "B") (.int 0)).before args s = true ∧ (Cond.arrayOf (xTv i) .byte).before args s = true ∧ (Cond.eq (.length (xTv i)) (.int (Int32.ofNat (xsL.getD i 0)))).before args s = true ∧ ∀ j, j < xsL.getD i 0 → (Cond.eq (.elem (xTv i) (.int (Int32.ofNat j))) (.int ((xsB.getD i []).getD j 0))).before args s = true := by
  intro i hi'
  match i, hi' with
  | 0, _ => exact ss0 h
  | 1, _ => exact ss1 h
  | 2, _ => exact ss2 h
  | 3, _ => exact ss3 h
  | 4, _ => exact ss4 h
  | 5, _ => exact ss5 h
  | 6, _ => exact ss6 h
  | 7, _ => exact ss7 h
  | 8, _ => exact ss8 h
  | 9, _ => exact ss9 h
  | 10, _ => exact ss10 h
  | 11, _ => exact ss11 h
  | 12, _ => exact ss12 h
  | 13, _ => exact ss13 h
  | 14, _ => exact ss14 h
  | 15, _ => exact ss15 h
  | 16, _ => exact ss16 h
  | 17, _ => exact ss17 h
  | 18, _ => exact ss18 h
  | 19, _ => exact ss19 h
  | 20, _ => exact ss20 h
  | 21, _ => exact ss21 h
  | 22, _ => exact ss22 h
  | 23, _ => exact ss23 h
  | 24, _ => exact ss24 h
  | 25, _ => exact ss25 h
  | 26, _ => exact ss26 h
  | 27, _ => exact ss27 h
  | 28, _ => exact ss28 h
  | 29, _ => exact ss29 h
  | 30, _ => exact ss30 h
  | 31, _ => exact ss31 h
  | 32, _ => exact ss32 h
  | 33, _ => exact ss33 h
  | 34, _ => exact ss34 h
  | 35, _ => exact ss35 h
  | n + 36, hn => exact absurd hn (by omega)
theorem sa1 {args : Array Value} {s : State} (h : narrow_1.before args s = true) : (Cond.arrayOf (.static "FlatTables" "SCALAR_BYTES" "[I") .int).before args s = true ∧ (Cond.eq (.length (.static "FlatTables" "SCALAR_BYTES" "[I")) (.int (Int32.ofNat 11))).before args s = true ∧ ∀ j, j < 11 → (Cond.eq (.elem (.static "FlatTables" "SCALAR_BYTES" "[I") (.int (Int32.ofNat j))) (.int (xSB j))).before args s = true := by
  refine ⟨(xa1 (xa2 (xa1 (xa1 (xa1 (xa1 (xa1 (xa1 (xa1 h))))))))), (xa1 (xa2 (xa2 (xa1 (xa1 (xa1 (xa1 (xa1 (xa1 (xa1 h)))))))))), fun j hj => ?_⟩
  match j, hj with
  | 0, _ => exact (xa2 (xa2 (xa2 (xa1 (xa1 (xa1 (xa1 (xa1 (xa1 (xa1 h))))))))))
  | 1, _ => exact (xa1 (xa1 (xa2 (xa1 (xa1 (xa1 (xa1 (xa1 (xa1 h)))))))))
  | 2, _ => exact (xa1 (xa2 (xa1 (xa2 (xa1 (xa1 (xa1 (xa1 (xa1 (xa1 h))))))))))
  | 3, _ => exact (xa2 (xa2 (xa1 (xa2 (xa1 (xa1 (xa1 (xa1 (xa1 (xa1 h))))))))))
  | 4, _ => exact (xa1 (xa1 (xa2 (xa2 (xa1 (xa1 (xa1 (xa1 (xa1 (xa1 h))))))))))
  | 5, _ => exact (xa2 (xa1 (xa2 (xa2 (xa1 (xa1 (xa1 (xa1 (xa1 (xa1 h))))))))))
  | 6, _ => exact (xa1 (xa2 (xa2 (xa2 (xa1 (xa1 (xa1 (xa1 (xa1 (xa1 h))))))))))
  | 7, _ => exact (xa2 (xa2 (xa2 (xa2 (xa1 (xa1 (xa1 (xa1 (xa1 (xa1 h))))))))))
  | 8, _ => exact (xa1 (xa1 (xa1 (xa2 (xa1 (xa1 (xa1 (xa1 (xa1 h)))))))))
  | 9, _ => exact (xa1 (xa2 (xa1 (xa1 (xa2 (xa1 (xa1 (xa1 (xa1 (xa1 h))))))))))
  | 10, _ => exact (xa2 (xa2 (xa1 (xa1 (xa2 (xa1 (xa1 (xa1 (xa1 (xa1 h))))))))))
  | n + 11, hn => exact absurd hn (by omega)
theorem sa2 {args : Array Value} {s : State} (h : narrow_1.before args s = true) : (Cond.arrayOf (.static "FlatTables" "LOWEST" "[J") .long).before args s = true ∧ (Cond.eq (.length (.static "FlatTables" "LOWEST" "[J")) (.int (Int32.ofNat 11))).before args s = true ∧ ∀ j, j < 11 → (Cond.eq (.elem (.static "FlatTables" "LOWEST" "[J") (.int (Int32.ofNat j))) (.long (xLO j))).before args s = true := by
  refine ⟨(xa1 (xa2 (xa2 (xa1 (xa2 (xa1 (xa1 (xa1 (xa1 (xa1 h)))))))))), (xa2 (xa2 (xa2 (xa1 (xa2 (xa1 (xa1 (xa1 (xa1 (xa1 h)))))))))), fun j hj => ?_⟩
  match j, hj with
  | 0, _ => exact (xa1 (xa1 (xa2 (xa2 (xa1 (xa1 (xa1 (xa1 (xa1 h)))))))))
  | 1, _ => exact (xa1 (xa2 (xa1 (xa2 (xa2 (xa1 (xa1 (xa1 (xa1 (xa1 h))))))))))
  | 2, _ => exact (xa2 (xa2 (xa1 (xa2 (xa2 (xa1 (xa1 (xa1 (xa1 (xa1 h))))))))))
  | 3, _ => exact (xa1 (xa1 (xa2 (xa2 (xa2 (xa1 (xa1 (xa1 (xa1 (xa1 h))))))))))
  | 4, _ => exact (xa2 (xa1 (xa2 (xa2 (xa2 (xa1 (xa1 (xa1 (xa1 (xa1 h))))))))))
  | 5, _ => exact (xa1 (xa2 (xa2 (xa2 (xa2 (xa1 (xa1 (xa1 (xa1 (xa1 h))))))))))
  | 6, _ => exact (xa2 (xa2 (xa2 (xa2 (xa2 (xa1 (xa1 (xa1 (xa1 (xa1 h))))))))))
  | 7, _ => exact (xa1 (xa1 (xa1 (xa1 (xa2 (xa1 (xa1 (xa1 (xa1 h)))))))))
  | 8, _ => exact (xa1 (xa2 (xa1 (xa1 (xa1 (xa2 (xa1 (xa1 (xa1 (xa1 h))))))))))
  | 9, _ => exact (xa2 (xa2 (xa1 (xa1 (xa1 (xa2 (xa1 (xa1 (xa1 (xa1 h))))))))))
  | 10, _ => exact (xa1 (xa2 (xa1 (xa1 (xa2 (xa1 (xa1 (xa1 (xa1 h)))))))))
  | n + 11, hn => exact absurd hn (by omega)
theorem sa3 {args : Array Value} {s : State} (h : narrow_1.before args s = true) : (Cond.arrayOf (.static "FlatTables" "HIGHEST" "[J") .long).before args s = true ∧ (Cond.eq (.length (.static "FlatTables" "HIGHEST" "[J")) (.int (Int32.ofNat 11))).before args s = true ∧ ∀ j, j < 11 → (Cond.eq (.elem (.static "FlatTables" "HIGHEST" "[J") (.int (Int32.ofNat j))) (.long (xHI j))).before args s = true := by
  refine ⟨(xa2 (xa2 (xa2 (xa1 (xa1 (xa2 (xa1 (xa1 (xa1 (xa1 h)))))))))), (xa1 (xa1 (xa2 (xa1 (xa2 (xa1 (xa1 (xa1 (xa1 h))))))))), fun j hj => ?_⟩
  match j, hj with
  | 0, _ => exact (xa1 (xa2 (xa1 (xa2 (xa1 (xa2 (xa1 (xa1 (xa1 (xa1 h))))))))))
  | 1, _ => exact (xa2 (xa2 (xa1 (xa2 (xa1 (xa2 (xa1 (xa1 (xa1 (xa1 h))))))))))
  | 2, _ => exact (xa1 (xa1 (xa2 (xa2 (xa1 (xa2 (xa1 (xa1 (xa1 (xa1 h))))))))))
  | 3, _ => exact (xa2 (xa1 (xa2 (xa2 (xa1 (xa2 (xa1 (xa1 (xa1 (xa1 h))))))))))
  | 4, _ => exact (xa1 (xa2 (xa2 (xa2 (xa1 (xa2 (xa1 (xa1 (xa1 (xa1 h))))))))))
  | 5, _ => exact (xa2 (xa2 (xa2 (xa2 (xa1 (xa2 (xa1 (xa1 (xa1 (xa1 h))))))))))
  | 6, _ => exact (xa1 (xa1 (xa1 (xa2 (xa2 (xa1 (xa1 (xa1 (xa1 h)))))))))
  | 7, _ => exact (xa1 (xa2 (xa1 (xa1 (xa2 (xa2 (xa1 (xa1 (xa1 (xa1 h))))))))))
  | 8, _ => exact (xa2 (xa2 (xa1 (xa1 (xa2 (xa2 (xa1 (xa1 (xa1 (xa1 h))))))))))
  | 9, _ => exact (xa1 (xa1 (xa2 (xa1 (xa2 (xa2 (xa1 (xa1 (xa1 (xa1 h))))))))))
  | 10, _ => exact (xa2 (xa1 (xa2 (xa1 (xa2 (xa2 (xa1 (xa1 (xa1 (xa1 h))))))))))
  | n + 11, hn => exact absurd hn (by omega)
theorem sc_cs {args : Array Value} {s : State} (h : narrow_1.before args s = true) : (Cond.eq (.static "java/lang/String" "COMPACT_STRINGS" "Z") (.int 1)).before args s = true := (xa1 (xa2 (xa2 (xa1 (xa2 (xa2 (xa1 (xa1 (xa1 (xa1 h))))))))))
theorem sr0 {args : Array Value} {s : State} (h : narrow_1.before args s = true) : (Cond.isRef (.static "jdk/internal/util/Preconditions" "SIOOBE_FORMATTER" "Ljava/util/function/BiFunction;")).before args s = true := (xa2 (xa2 (xa2 (xa1 (xa2 (xa2 (xa1 (xa1 (xa1 (xa1 h))))))))))
theorem sr1 {args : Array Value} {s : State} (h : narrow_1.before args s = true) : (Cond.isRef (.static "java/lang/Throwable" "UNASSIGNED_STACK" "[Ljava/lang/StackTraceElement;")).before args s = true := (xa1 (xa1 (xa2 (xa2 (xa2 (xa2 (xa1 (xa1 (xa1 (xa1 h))))))))))
theorem sr2 {args : Array Value} {s : State} (h : narrow_1.before args s = true) : (Cond.isRef (.static "java/lang/Throwable" "SUPPRESSED_SENTINEL" "Ljava/util/List;")).before args s = true := (xa2 (xa1 (xa2 (xa2 (xa2 (xa2 (xa1 (xa1 (xa1 (xa1 h))))))))))
theorem sn {args : Array Value} {s : State} (h : narrow_1.before args s = true) : ∀ C ∈ xXs, ∀ T ∈ xXs, C ≠ T → va_Nc C T s := by
  intro C hC T hT hne
  simp only [xXs, List.mem_cons, List.not_mem_nil, or_false] at hC hT
  rcases hC with rfl | rfl | rfl | rfl <;> rcases hT with rfl | rfl | rfl | rfl
  · exact absurd rfl hne
  · exact va_Nc.of (args := args) (xa1 (xa1 (xa1 (xa1 (xa2 (xa2 (xa1 (xa1 (xa1 h)))))))))
  · exact va_Nc.of (args := args) (xa1 (xa1 (xa2 (xa1 (xa2 (xa2 (xa2 (xa1 (xa1 (xa1 h))))))))))
  · exact va_Nc.of (args := args) (xa2 (xa2 (xa2 (xa1 (xa1 (xa1 (xa1 (xa2 (xa1 (xa1 h))))))))))
  · exact va_Nc.of (args := args) (xa2 (xa1 (xa2 (xa2 (xa1 (xa1 (xa2 (xa1 (xa1 (xa1 h))))))))))
  · exact absurd rfl hne
  · exact va_Nc.of (args := args) (xa2 (xa1 (xa2 (xa1 (xa2 (xa2 (xa2 (xa1 (xa1 (xa1 h))))))))))
  · exact va_Nc.of (args := args) (xa1 (xa1 (xa2 (xa1 (xa1 (xa1 (xa2 (xa1 (xa1 h)))))))))
  · exact va_Nc.of (args := args) (xa1 (xa2 (xa2 (xa2 (xa1 (xa1 (xa2 (xa1 (xa1 (xa1 h))))))))))
  · exact va_Nc.of (args := args) (xa1 (xa2 (xa1 (xa1 (xa1 (xa2 (xa2 (xa1 (xa1 (xa1 h))))))))))
  · exact absurd rfl hne
  · exact va_Nc.of (args := args) (xa1 (xa2 (xa1 (xa2 (xa1 (xa1 (xa1 (xa2 (xa1 (xa1 h))))))))))
  · exact va_Nc.of (args := args) (xa2 (xa2 (xa2 (xa2 (xa1 (xa1 (xa2 (xa1 (xa1 (xa1 h))))))))))
  · exact va_Nc.of (args := args) (xa2 (xa2 (xa1 (xa1 (xa1 (xa2 (xa2 (xa1 (xa1 (xa1 h))))))))))
  · exact va_Nc.of (args := args) (xa1 (xa2 (xa2 (xa1 (xa2 (xa2 (xa2 (xa1 (xa1 (xa1 h))))))))))
  · exact absurd rfl hne
