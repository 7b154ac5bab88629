/-! What a quotient and the best rate rest on. -/
theorem su_lt28 {a n b : Nat} (hb : 0 < b) (h : a * n < 2 ^ 28 * b) : a * n / b < 2 ^ 28 := (Nat.div_lt_iff_lt_mul hb).mpr h
theorem su_tr {P b t : Nat} (hb : 0 < b) : t ≤ P / b ↔ b * t ≤ P := by
  rw [Nat.le_div_iff_mul_le hb, Nat.mul_comm]
def su_Jk (B : Nat) (r : Nat → Nat) (F : Nat → Nat → Nat) (M g : Nat) (k : Nat) : Nat := jn_J B (va_up r g k) F M
theorem su_up16 {r : Nat → Nat} {N g x : Nat} (hr : ∀ i, i + 1 < N → r i ≤ 16) (hx : x ≤ 16) : ∀ i, i + 1 < N → va_up r g x i ≤ 16 := fun i hi => by
  by_cases h : i = g
  · subst h; rw [va_up_self]; exact hx
  · rw [va_up_ne _ _ h]; exact hr i hi
theorem su_th {a b : Nat} (h : a ≤ b) (hb : 0 < b) : a * 1000 < 2 ^ 28 * b := by
  have h1 : a * 1000 ≤ b * 1000 := Nat.mul_le_mul_right _ h
  omega
