/-! Sums along the line: rows of numbers and how large they get. -/
theorem su_big : 2 ^ 178 < 1000000000 ^ 6 := by decide +kernel
theorem su_lt {x k : Nat} (h : x ≤ 2 ^ k) (hk : k ≤ 178) : x < 1000000000 ^ 6 := Nat.lt_of_le_of_lt (Nat.le_trans h (Nat.pow_le_pow_right (by decide) hk)) su_big
theorem su_mul {x y a b : Nat} (hx : x ≤ 2 ^ a) (hy : y ≤ 2 ^ b) : x * y ≤ 2 ^ (a + b) := by
  rw [Nat.pow_add]; exact Nat.mul_le_mul hx hy
def su_F (tb : Nat → Nat) (i w : Nat) : Nat := tb (i * 64 + w)
/-- F j up to k, V from there on -/
def su_pt (F V : Nat → Nat) (k : Nat) : Nat → Nat := fun j => if j < k then F j else V j
theorem su_pt0 (F V : Nat → Nat) : su_pt F V 0 = V := by
  funext j; unfold su_pt; rw [if_neg (by omega)]
theorem su_ptS (F V : Nat → Nat) (k : Nat) : va_up (su_pt F V k) k (F k) = su_pt F V (k + 1) := by
  funext j
  by_cases h : j = k
  · subst h; rw [va_up_self]; unfold su_pt; rw [if_pos (by omega)]
  · rw [va_up_ne _ _ h]
    unfold su_pt
    by_cases h1 : j < k
    · rw [if_pos h1, if_pos (by omega)]
    · rw [if_neg h1, if_neg (by omega)]
theorem su_ptk (F V : Nat → Nat) (k : Nat) : su_pt F V k k = V k := by unfold su_pt; rw [if_neg (by omega)]
theorem su_ptl (F V : Nat → Nat) {k j : Nat} (h : j < k) : su_pt F V k j = F j := by unfold su_pt; rw [if_pos h]
theorem su_16 {B : Nat} (hB : B ≤ 6) : 16 ^ B ≤ 2 ^ 24 := by
  have h : 16 ^ B ≤ 16 ^ 6 := Nat.pow_le_pow_right (by decide) hB
  exact Nat.le_trans h (by decide)
theorem su_al_le {B : Nat} {r : Nat → Nat} {F : Nat → Nat → Nat} {N : Nat} (hB : B ≤ 6) (hN : N ≤ 4) (hr : ∀ i, i + 1 < N → r i ≤ 16) (hF : ∀ i w, i < N → w < 2 ^ B → F i w ≤ 2 ^ 18) : ∀ m, m < N → ∀ w, w < 2 ^ B → jn_al B r F m w ≤ 2 ^ (42 * m) := by
  intro m
  induction m with
  | zero => intro _ w _; exact Nat.le_refl _
  | succ m ih =>
    intro hm w hw
    have h1 : jn_cr (r m) B (fun u => jn_al B r F m u * F m u) w ≤ 2 ^ (42 * m + 18) * 16 ^ B := jn_cr_le (hr m hm) hw (fun u hu => su_mul (ih (by omega) u hu) (hF m u (by omega) hu))
    refine Nat.le_trans h1 ?_
    rw [show 42 * (m + 1) = (42 * m + 18) + 24 by omega, Nat.pow_add 2 (42 * m + 18) 24]
    exact Nat.mul_le_mul_left _ (su_16 hB)
theorem su_be_le {B : Nat} {r : Nat → Nat} {F : Nat → Nat → Nat} {N : Nat} (hB : B ≤ 6) (hN : N ≤ 4) (hr : ∀ i, i + 1 < N → r i ≤ 16) (hF : ∀ i w, i < N → w < 2 ^ B → F i w ≤ 2 ^ 18) : ∀ d, d < N → ∀ w, w < 2 ^ B → jn_be B r F (N - 1) d w ≤ 2 ^ (42 * d) := by
  intro d
  induction d with
  | zero => intro _ w _; exact Nat.le_refl _
  | succ d ih =>
    intro hd w hw
    have h1 : jn_cr (r (N - 1 - (d + 1))) B (fun u => jn_be B r F (N - 1) d u * F (N - 1 - d) u) w ≤ 2 ^ (42 * d + 18) * 16 ^ B := jn_cr_le (hr _ (by omega)) hw (fun u hu => su_mul (ih (by omega) u hu) (hF _ u (by omega) hu))
    refine Nat.le_trans h1 ?_
    rw [show 42 * (d + 1) = (42 * d + 18) + 24 by omega, Nat.pow_add 2 (42 * d + 18) 24]
    exact Nat.mul_le_mul_left _ (su_16 hB)
theorem su_sum_le {B : Nat} (hB : B ≤ 6) {f : Nat → Nat} {k : Nat} (h : ∀ w, w < 2 ^ B → f w ≤ 2 ^ k) : ∀ n, n ≤ 2 ^ B → zs_sum n f ≤ 2 ^ (k + 6) := by
  intro n hn
  have h1 : zs_sum n f ≤ zs_sum n (fun _ => 2 ^ k) := zs_le (fun i hi => h i (by omega))
  rw [zs_const] at h1
  have h2 : n ≤ 2 ^ 6 := Nat.le_trans hn (Nat.pow_le_pow_right (by decide) hB)
  refine Nat.le_trans h1 ?_
  rw [Nat.add_comm k 6]
  exact su_mul h2 (Nat.le_refl _)
/-- rates that are tried -/
theorem su_J_le {B : Nat} {r : Nat → Nat} {F : Nat → Nat → Nat} {N : Nat} (hB : B ≤ 6) (hN : N ≤ 4) (h0 : 0 < N) (hr : ∀ i, i + 1 < N → r i ≤ 16) (hF : ∀ i w, i < N → w < 2 ^ B → F i w ≤ 2 ^ 18) : jn_J B r F (N - 1) ≤ 2 ^ 150 := by
  unfold jn_J
  have h1 : ∀ w, w < 2 ^ B → jn_al B r F (N - 1) w * F (N - 1) w ≤ 2 ^ 144 := fun w hw => by
    have a := su_mul (su_al_le hB hN hr hF (N - 1) (by omega) w hw) (hF (N - 1) w (by omega) hw)
    exact Nat.le_trans a (Nat.pow_le_pow_right (by decide) (by omega))
  exact su_sum_le hB h1 _ (Nat.le_refl _)
theorem jn_al_congr {B : Nat} {r r' : Nat → Nat} {F : Nat → Nat → Nat} : ∀ m, (∀ i, i < m → r i = r' i) → ∀ w, jn_al B r F m w = jn_al B r' F m w := by
  intro m
  induction m with
  | zero => intro _ w; rfl
  | succ m ih =>
    intro h w
    show jn_cr (r m) B (fun u => jn_al B r F m u * F m u) w = jn_cr (r' m) B (fun u => jn_al B r' F m u * F m u) w
    rw [h m (by omega), show (fun u => jn_al B r F m u * F m u) = (fun u => jn_al B r' F m u * F m u) from funext (fun u => by rw [ih (fun i hi => h i (by omega)) u])]
/-- blend in range -/
theorem su_bl {r M b B x y : Nat} (hr : r ≤ 16) (hb : b < B) (hx : x ≤ M * 16 ^ b) (hy : y ≤ M * 16 ^ b) (hM : M * 16 ^ B < 1000000000 ^ 6) : (16 - r) * x + r * y < 1000000000 ^ 6 ∧ r * x + (16 - r) * y < 1000000000 ^ 6 := by
  have h1 : M * 16 ^ (b + 1) ≤ M * 16 ^ B := Nat.mul_le_mul_left _ (Nat.pow_le_pow_right (by decide) hb)
  have h2 : M * 16 ^ (b + 1) = 16 * (M * 16 ^ b) := by rw [Nat.pow_succ, Nat.mul_comm 16, Nat.mul_assoc]
  have a1 := Nat.mul_le_mul_left (16 - r) hx
  have a2 := Nat.mul_le_mul_left r hy
  have a3 := Nat.mul_le_mul_left r hx
  have a4 := Nat.mul_le_mul_left (16 - r) hy
  have a5 : (16 - r) * (M * 16 ^ b) + r * (M * 16 ^ b) = 16 * (M * 16 ^ b) := by rw [← Nat.add_mul, Nat.sub_add_cancel hr]
  generalize 1000000000 ^ 6 = Z at hM ⊢
  omega
/-- a part over the whole, by bits from above -/
def su_q (N k q : Nat) : Prop := q ≤ N ∧ N < q + 2 ^ k
theorem su_qy {N k q : Nat} (h : su_q N (k + 1) q) (hy : q + 2 ^ k ≤ N) : su_q N k (q + 2 ^ k) := by
  have := h.2
  rw [Nat.pow_succ] at this
  exact ⟨hy, by omega⟩
theorem su_qn {N k q : Nat} (h : su_q N (k + 1) q) (hn : N < q + 2 ^ k) : su_q N k q := ⟨h.1, hn⟩
theorem su_q0 {N q : Nat} (h : su_q N 0 q) : q = N := by
  have h1 := h.1
  have h2 := h.2
  rw [Nat.pow_zero] at h2
  omega
