/-! ===== plain rows for the symbolic runs ===== -/
theorem ob_ite {α β : Type} {c : Prop} [Decidable c] (a b : Option α) (f : α → Option β) : (if c then a else b).bind f = if c then a.bind f else b.bind f := by
  by_cases h : c
  · rw [if_pos h, if_pos h]
  · rw [if_neg h, if_neg h]
theorem i01 : ((0 : Int32) = 1) = False := eq_false (by decide)
theorem i10 : ((1 : Int32) = 0) = False := eq_false (by decide)
theorem i00 : ((0 : Int32) = 0) = True := eq_true rfl
theorem ifT {α : Type} (a b : α) : (if True then a else b) = a := if_pos trivial
theorem ifF {α : Type} (a b : α) : (if False then a else b) = b := if_neg id
