/-! The markers' own numbers. -/
def ma_rt (n : Nat) (rt : Nat → Nat) : Nat → Nat := if 0 < n then va_up rt (n - 1) 8 else rt
def ma_wt (wt : Nat → Nat) (m l : Nat) : Nat := wt (m * 3 + l - 1)
theorem ft_w_le {W L : Nat → Nat} {K : Nat} (hW : ∀ l, 1 ≤ l → l ≤ 3 → W l ≤ 8) (hL : ∀ k, k < K → L k ≤ 3) : ∀ k, k ≤ K → ft_w W L k ≤ 8 ^ k := by
  intro k
  induction k with
  | zero => intro _; exact Nat.le_refl _
  | succ k ih =>
    intro hk
    show ft_w W L k * (if L k = 0 then 8 else W (L k)) ≤ 8 ^ (k + 1)
    rw [Nat.pow_succ]
    refine Nat.mul_le_mul (ih (by omega)) ?_
    have h1 := hL k (by omega)
    by_cases h : L k = 0
    · rw [if_pos h]; exact Nat.le_refl _
    · rw [if_neg h]; exact hW _ (by omega) h1
/-- the search restores what it laid down -/
theorem fi_back1 (L : Nat → Nat) (a x : Nat) : va_up (va_up L a x) a (L a) = L := by
  funext j
  by_cases h : j = a
  · subst h; rw [va_up_self]
  · rw [va_up_ne _ _ h, va_up_ne _ _ h]
theorem fi_back2 (L : Nat → Nat) (a b x y : Nat) : va_up (va_up (va_up (va_up L a x) b y) b (va_up L a x b)) a (L a) = L := by
  rw [fi_back1 (va_up L a x) b y, fi_back1]
