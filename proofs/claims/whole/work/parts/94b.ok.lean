/-! Steps through a function -/
section OSteps
variable {α β : Type} {c : Prop} {dc : Decidable c} {A B X : Option β}
theorem o_pos (q : c) (k : A = X) : (@ite _ c dc A B) = X := by rw [if_pos q]; exact k
theorem o_neg (q : ¬ c) (k : B = X) : (@ite _ c dc A B) = X := by rw [if_neg q]; exact k
theorem o_bind {x : Option α} {v : α} {f : α → Option β} (e : x = some v) (k : f v = X) : Option.bind x f = X := by rw [e]; exact k
theorem o_elim {v : α} {f : α → Option β} (k : f v = X) : Option.elim (some v) A f = X := k
theorem o_elimn {f : α → Option β} (k : A = X) : Option.elim none A f = X := k
end OSteps
section OAnd
variable {β : Type} {c : Prop} {dc : Decidable c} {A B X : Option β} {Q : Prop}
theorem a_pos (q : c) (k : A = X ∧ Q) : (@ite _ c dc A B) = X ∧ Q := ⟨o_pos q k.1, k.2⟩
theorem a_neg (q : ¬ c) (k : B = X ∧ Q) : (@ite _ c dc A B) = X ∧ Q := ⟨o_neg q k.1, k.2⟩
end OAnd
