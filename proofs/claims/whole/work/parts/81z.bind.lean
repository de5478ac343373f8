/-! binds, so that simp looks at what is bound first -/
theorem zy_bm {α β : Type} (X : Option α) (f : α → Option β) : X.bind f = (match X with | none => none | some a => f a) := by cases X <;> rfl
theorem ze_decT {p : Prop} [i : Decidable p] (h : p) : decide p = true := decide_eq_true h
theorem ze_decF {p : Prop} [i : Decidable p] (h : ¬ p) : decide p = false := decide_eq_false h
