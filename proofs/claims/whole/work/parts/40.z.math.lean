/-- the row that a product is put into -/
def mo_pr (u : Nat → Nat) (x : Nat) : Nat → Nat := fun k => if k = 0 then x else nb_val 268435456 u (8 * k) 8
theorem mo_pr0 (u : Nat → Nat) (x : Nat) : mo_pr u x 0 = x := if_pos rfl
