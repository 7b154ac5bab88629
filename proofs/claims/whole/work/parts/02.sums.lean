/-! Sums of natural numbers, and sums over xor. -/
def zs_sum : Nat → (Nat → Nat) → Nat
  | 0, _ => 0
  | n + 1, f => zs_sum n f + f n
theorem zs_0 (f : Nat → Nat) : zs_sum 0 f = 0 := rfl
theorem zs_s (n : Nat) (f : Nat → Nat) : zs_sum (n + 1) f = zs_sum n f + f n := rfl
theorem zs_congr {n : Nat} {f g : Nat → Nat} (h : ∀ i, i < n → f i = g i) : zs_sum n f = zs_sum n g := by
  induction n with
  | zero => rfl
  | succ n ih => rw [zs_s, zs_s, ih (fun i hi => h i (by omega)), h n (by omega)]
theorem zs_add (n : Nat) (f g : Nat → Nat) : zs_sum n (fun i => f i + g i) = zs_sum n f + zs_sum n g := by
  induction n with
  | zero => rfl
  | succ n ih => rw [zs_s, zs_s, zs_s, ih]; omega
theorem zs_mul (n c : Nat) (f : Nat → Nat) : zs_sum n (fun i => c * f i) = c * zs_sum n f := by
  induction n with
  | zero => rfl
  | succ n ih => rw [zs_s, zs_s, ih, Nat.mul_add]
theorem zs_mulr (n c : Nat) (f : Nat → Nat) : zs_sum n (fun i => f i * c) = zs_sum n f * c := by
  induction n with
  | zero => rw [zs_0, zs_0, Nat.zero_mul]
  | succ n ih => rw [zs_s, zs_s, ih, Nat.add_mul]
theorem zs_zero (n : Nat) : zs_sum n (fun _ => 0) = 0 := by
  induction n with
  | zero => rfl
  | succ n ih => rw [zs_s, ih]
theorem zs_const (n c : Nat) : zs_sum n (fun _ => c) = n * c := by
  induction n with
  | zero => rw [zs_0, Nat.zero_mul]
  | succ n ih => rw [zs_s, ih, Nat.add_mul, Nat.one_mul]
theorem zs_swap (n m : Nat) (f : Nat → Nat → Nat) : zs_sum n (fun i => zs_sum m (fun j => f i j)) = zs_sum m (fun j => zs_sum n (fun i => f i j)) := by
  induction n with
  | zero => exact (zs_zero m).symm
  | succ n ih =>
    rw [zs_s, ih, ← zs_add]
    rfl
theorem zs_app (n m : Nat) (f : Nat → Nat) : zs_sum (n + m) f = zs_sum n f + zs_sum m (fun i => f (n + i)) := by
  induction m with
  | zero => rfl
  | succ m ih => rw [← Nat.add_assoc, zs_s, ih, zs_s, Nat.add_assoc]
theorem zs_le {n : Nat} {f g : Nat → Nat} (h : ∀ i, i < n → f i ≤ g i) : zs_sum n f ≤ zs_sum n g := by
  induction n with
  | zero => exact Nat.le_refl _
  | succ n ih =>
    have h1 := ih (fun i hi => h i (by omega))
    have h2 := h n (by omega)
    rw [zs_s, zs_s]
    omega
theorem zs_one {n k : Nat} {f : Nat → Nat} (hk : k < n) : f k ≤ zs_sum n f := by
  induction n with
  | zero => omega
  | succ n ih =>
    rw [zs_s]
    by_cases h : k = n
    · subst h; omega
    · have := ih (by omega)
      omega
theorem zs_mono {n m : Nat} {f : Nat → Nat} (h : n ≤ m) : zs_sum n f ≤ zs_sum m f := by
  obtain ⟨d, rfl⟩ := Nat.exists_eq_add_of_le h
  rw [zs_app]
  exact Nat.le_add_right _ _
/-- the bit b set on top of a number below 2^b -/
theorem zx_top {b x : Nat} (hx : x < 2 ^ b) : 2 ^ b + x = 2 ^ b ^^^ x := by
  apply Nat.eq_of_testBit_eq
  intro i
  rw [Nat.testBit_xor, Nat.testBit_two_pow]
  by_cases h : b = i
  · subst h
    rw [Nat.testBit_two_pow_add_eq, Nat.testBit_lt_two_pow hx]
    simp
  · by_cases h2 : i < b
    · rw [Nat.testBit_two_pow_add_gt h2]
      simp [h]
    · have h3 : b < i := by omega
      have h4 : 2 ^ (b + 1) ≤ 2 ^ i := Nat.pow_le_pow_right (by omega) h3
      have h5 : 2 ^ b + x < 2 ^ i := by rw [Nat.pow_succ] at h4; omega
      have h6 : x < 2 ^ i := by rw [Nat.pow_succ] at h4; omega
      rw [Nat.testBit_lt_two_pow h5, Nat.testBit_lt_two_pow h6]
      simp [h]
theorem zx_comm (a b : Nat) : a ^^^ b = b ^^^ a := Nat.xor_comm a b
theorem zx_inv (a b : Nat) : a ^^^ (a ^^^ b) = b := by rw [← Nat.xor_assoc, Nat.xor_self, Nat.zero_xor]
theorem zx_split (b : Nat) (h : Nat → Nat) : zs_sum (2 ^ (b + 1)) h = zs_sum (2 ^ b) h + zs_sum (2 ^ b) (fun x => h (2 ^ b ^^^ x)) := by
  rw [Nat.pow_succ, Nat.mul_two, zs_app]
  congr 1
  exact zs_congr (fun i hi => by rw [zx_top hi])
theorem zx_low {b w : Nat} (hw : w < 2 ^ (b + 1)) : w < 2 ^ b ∨ ∃ v, v < 2 ^ b ∧ w = 2 ^ b ^^^ v := by
  by_cases h : w < 2 ^ b
  · exact Or.inl h
  · refine Or.inr ⟨w - 2 ^ b, ?_, ?_⟩
    · rw [Nat.pow_succ] at hw; omega
    · rw [← zx_top (by rw [Nat.pow_succ] at hw; omega)]; omega
/-- a sum over all numbers below 2^b doesn't change when they are all xored with one of them -/
theorem zx_shift (b : Nat) : ∀ (h : Nat → Nat) (w : Nat), w < 2 ^ b → zs_sum (2 ^ b) (fun u => h (u ^^^ w)) = zs_sum (2 ^ b) h := by
  induction b with
  | zero =>
    intro h w hw
    have : w = 0 := by simpa using hw
    subst this
    exact zs_congr (fun i _ => by rw [Nat.xor_zero])
  | succ b ih =>
    intro h w hw
    rw [zx_split, zx_split b h]
    rcases zx_low hw with h1 | ⟨v, hv, rfl⟩
    · rw [ih h w h1]
      congr 1
      rw [← ih (fun x => h (2 ^ b ^^^ x)) w h1]
      exact zs_congr (fun i _ => by rw [Nat.xor_assoc])
    · rw [← ih h v hv, ← ih (fun x => h (2 ^ b ^^^ x)) v hv, Nat.add_comm]
      congr 1
      · exact zs_congr (fun i _ => by
          rw [zx_comm (2 ^ b) i, Nat.xor_assoc, zx_inv])
      · exact zs_congr (fun i _ => by
          rw [← Nat.xor_assoc, ← Nat.xor_assoc, zx_comm i])
/-! How a way may change over a gap: a bit at a time, and all at once. -/
def jn_kx (k : Nat) : Nat → Nat → Nat
  | 0, _ => 1
  | b + 1, x => jn_kx k b x * (if x.testBit b = true then k else 16 - k)
/-- what reaches w when each of b bits may have changed -/
def jn_cr (k b : Nat) (v : Nat → Nat) (w : Nat) : Nat := zs_sum (2 ^ b) (fun x => v (w ^^^ x) * jn_kx k b x)
/-- one bit -/
def jn_bp (k b : Nat) (v : Nat → Nat) (w : Nat) : Nat := (16 - k) * v w + k * v (w ^^^ 2 ^ b)
def jn_ps (k : Nat) : Nat → (Nat → Nat) → Nat → Nat
  | 0, v => v
  | b + 1, v => jn_bp k b (jn_ps k b v)
theorem jn_kx_lo {k b x : Nat} : ∀ {j : Nat}, j ≤ b → jn_kx k j (2 ^ b ^^^ x) = jn_kx k j x := by
  intro j
  induction j with
  | zero => intro _; rfl
  | succ j ih =>
    intro h
    show jn_kx k j (2 ^ b ^^^ x) * _ = jn_kx k j x * _
    rw [ih (by omega), Nat.testBit_xor, Nat.testBit_two_pow_of_ne (by omega), Bool.false_xor]
theorem jn_ps_eq (k : Nat) (v : Nat → Nat) : ∀ (b w : Nat), jn_ps k b v w = jn_cr k b v w := by
  intro b
  induction b with
  | zero =>
    intro w
    show v w = 0 + v (w ^^^ 0) * 1
    rw [Nat.xor_zero]; omega
  | succ b ih =>
    intro w
    show (16 - k) * jn_ps k b v w + k * jn_ps k b v (w ^^^ 2 ^ b) = jn_cr k (b + 1) v w
    rw [ih, ih]
    unfold jn_cr
    rw [zx_split, ← zs_mul, ← zs_mul]
    congr 1
    · refine zs_congr (fun x hx => ?_)
      show _ = v (w ^^^ x) * (jn_kx k b x * (if x.testBit b = true then k else 16 - k))
      rw [Nat.testBit_lt_two_pow hx]
      simp only [Bool.false_eq_true, if_false]
      rw [Nat.mul_comm (16 - k), Nat.mul_assoc]
    · refine zs_congr (fun x hx => ?_)
      show _ = v (w ^^^ (2 ^ b ^^^ x)) * (jn_kx k b (2 ^ b ^^^ x) * (if (2 ^ b ^^^ x).testBit b = true then k else 16 - k))
      rw [jn_kx_lo (Nat.le_refl b), Nat.testBit_xor, Nat.testBit_two_pow_self, Nat.testBit_lt_two_pow hx]
      simp only [Bool.true_xor, Bool.not_false, if_true]
      rw [Nat.mul_comm k, Nat.mul_assoc, Nat.xor_assoc]
/-- the sum over the other way instead of over the change -/
theorem jn_cr_by (k b : Nat) (v : Nat → Nat) {w : Nat} (hw : w < 2 ^ b) : jn_cr k b v w = zs_sum (2 ^ b) (fun u => v u * jn_kx k b (u ^^^ w)) := by
  unfold jn_cr
  rw [← zx_shift b (fun x => v (w ^^^ x) * jn_kx k b x) w hw]
  exact zs_congr (fun u _ => by
    show v (w ^^^ (u ^^^ w)) * _ = _
    rw [zx_comm u w, zx_inv])
/-- the change is the same in both directions -/
theorem jn_cr_adj (k b : Nat) (f g : Nat → Nat) : zs_sum (2 ^ b) (fun w => jn_cr k b f w * g w) = zs_sum (2 ^ b) (fun w => f w * jn_cr k b g w) := by
  have h1 : zs_sum (2 ^ b) (fun w => jn_cr k b f w * g w) = zs_sum (2 ^ b) (fun w => zs_sum (2 ^ b) (fun x => f (w ^^^ x) * jn_kx k b x * g w)) :=
    zs_congr (fun w _ => (zs_mulr _ _ _).symm)
  have h2 : zs_sum (2 ^ b) (fun w => f w * jn_cr k b g w) = zs_sum (2 ^ b) (fun w => zs_sum (2 ^ b) (fun x => f w * (g (w ^^^ x) * jn_kx k b x))) :=
    zs_congr (fun w _ => (zs_mul _ _ _).symm)
  rw [h1, h2, zs_swap, zs_swap (2 ^ b) (2 ^ b) (fun w x => f w * (g (w ^^^ x) * jn_kx k b x))]
  refine zs_congr (fun x hx => ?_)
  rw [← zx_shift b (fun w => f w * (g (w ^^^ x) * jn_kx k b x)) x hx]
  refine zs_congr (fun w _ => ?_)
  show f (w ^^^ x) * jn_kx k b x * g w = f (w ^^^ x) * (g (w ^^^ x ^^^ x) * jn_kx k b x)
  rw [Nat.xor_assoc, Nat.xor_self, Nat.xor_zero, Nat.mul_assoc, Nat.mul_comm (jn_kx k b x)]
theorem jn_cr_congr {k b : Nat} {v v' : Nat → Nat} {w : Nat} (hw : w < 2 ^ b) (h : ∀ u, u < 2 ^ b → v u = v' u) : jn_cr k b v w = jn_cr k b v' w := by
  unfold jn_cr
  exact zs_congr (fun x hx => by rw [h _ (Nat.xor_lt_two_pow hw hx)])
/-- all changes together -/
theorem jn_kx_sum {k : Nat} (hk : k ≤ 16) : ∀ b, zs_sum (2 ^ b) (jn_kx k b) = 16 ^ b := by
  intro b
  induction b with
  | zero => rfl
  | succ b ih =>
    rw [zx_split]
    have h1 : zs_sum (2 ^ b) (jn_kx k (b + 1)) = zs_sum (2 ^ b) (jn_kx k b) * (16 - k) := by
      rw [← zs_mulr]
      refine zs_congr (fun x hx => ?_)
      show jn_kx k b x * _ = _
      rw [Nat.testBit_lt_two_pow hx]
      simp
    have h2 : zs_sum (2 ^ b) (fun x => jn_kx k (b + 1) (2 ^ b ^^^ x)) = zs_sum (2 ^ b) (jn_kx k b) * k := by
      rw [← zs_mulr]
      refine zs_congr (fun x hx => ?_)
      show jn_kx k b (2 ^ b ^^^ x) * _ = _
      rw [jn_kx_lo (Nat.le_refl b), Nat.testBit_xor, Nat.testBit_two_pow_self, Nat.testBit_lt_two_pow hx]
      simp
    rw [h1, h2, ih, ← Nat.mul_add, Nat.sub_add_cancel hk, Nat.pow_succ]
theorem jn_cr_le {k b M : Nat} {v : Nat → Nat} {w : Nat} (hk : k ≤ 16) (hw : w < 2 ^ b) (h : ∀ u, u < 2 ^ b → v u ≤ M) : jn_cr k b v w ≤ M * 16 ^ b := by
  unfold jn_cr
  rw [← jn_kx_sum hk b, ← zs_mul]
  exact zs_le (fun x hx => Nat.mul_le_mul_right _ (h _ (Nat.xor_lt_two_pow hw hx)))
/-- at rate 8 every change weighs the same; at any rate at most 2^b times that -/
theorem jn_kx_8 : ∀ (b x : Nat), jn_kx 8 b x = 8 ^ b := by
  intro b
  induction b with
  | zero => intro _; rfl
  | succ b ih =>
    intro x
    show jn_kx 8 b x * _ = _
    rw [ih, Nat.pow_succ]
    by_cases h : x.testBit b = true
    · rw [if_pos h]
    · rw [if_neg h]
theorem jn_kx_16 {k : Nat} (hk : k ≤ 16) : ∀ (b x : Nat), jn_kx k b x ≤ 16 ^ b := by
  intro b
  induction b with
  | zero => intro _; exact Nat.le_refl _
  | succ b ih =>
    intro x
    show jn_kx k b x * _ ≤ _
    rw [Nat.pow_succ]
    refine Nat.mul_le_mul (ih x) ?_
    by_cases h : x.testBit b = true
    · rw [if_pos h]; exact hk
    · rw [if_neg h]; omega
theorem jn_cr_8 {k b : Nat} (hk : k ≤ 16) {v v' : Nat → Nat} {c w : Nat} (hw : w < 2 ^ b) (h : ∀ u, u < 2 ^ b → v u ≤ c * v' u) : jn_cr k b v w ≤ c * 2 ^ b * jn_cr 8 b v' w := by
  unfold jn_cr
  rw [← zs_mul]
  refine zs_le (fun x hx => ?_)
  have h1 := h _ (Nat.xor_lt_two_pow hw hx)
  have h2 : jn_kx k b x ≤ 2 ^ b * jn_kx 8 b x := by
    rw [jn_kx_8, ← Nat.mul_pow]
    exact jn_kx_16 hk b x
  calc v (w ^^^ x) * jn_kx k b x ≤ (c * v' (w ^^^ x)) * (2 ^ b * jn_kx 8 b x) := Nat.mul_le_mul h1 h2
    _ = c * 2 ^ b * (v' (w ^^^ x) * jn_kx 8 b x) := by
      simp only [Nat.mul_comm, Nat.mul_left_comm, Nat.mul_assoc]
/-! The line of markers: B bits, M markers, the rate r m of the gap behind marker m, the fit ft m w. -/
def jn_al (B : Nat) (r : Nat → Nat) (ft : Nat → Nat → Nat) : Nat → Nat → Nat
  | 0, _ => 1
  | m + 1, w => jn_cr (r m) B (fun u => jn_al B r ft m u * ft m u) w
/-- JOINT of M + 1 markers -/
def jn_J (B : Nat) (r : Nat → Nat) (ft : Nat → Nat → Nat) (M : Nat) : Nat := zs_sum (2 ^ B) (fun w => jn_al B r ft M w * ft M w)
/-- from the last marker M back: d steps -/
def jn_be (B : Nat) (r : Nat → Nat) (ft : Nat → Nat → Nat) (M : Nat) : Nat → Nat → Nat
  | 0, _ => 1
  | d + 1, w => jn_cr (r (M - (d + 1))) B (fun u => jn_be B r ft M d u * ft (M - d) u) w
/-- the part of JOINT that has the way w at marker m -/
def jn_pt (B : Nat) (r : Nat → Nat) (ft : Nat → Nat → Nat) (M m w : Nat) : Nat := jn_al B r ft m w * jn_be B r ft M (M - m) w * ft m w
theorem jn_pt_sum (B : Nat) (r : Nat → Nat) (ft : Nat → Nat → Nat) (M : Nat) : ∀ d, d ≤ M → zs_sum (2 ^ B) (fun w => jn_pt B r ft M (M - d) w) = jn_J B r ft M := by
  intro d
  induction d with
  | zero =>
    intro _
    refine zs_congr (fun w _ => ?_)
    show jn_al B r ft (M - 0) w * jn_be B r ft M (M - (M - 0)) w * ft (M - 0) w = _
    rw [Nat.sub_zero, Nat.sub_self]
    show jn_al B r ft M w * 1 * ft M w = _
    rw [Nat.mul_one]
  | succ d ih =>
    intro h
    rw [← ih (by omega)]
    have e1 : M - (M - (d + 1)) = d + 1 := by omega
    have e2 : M - (M - d) = d := by omega
    have e3 : M - d = (M - (d + 1)) + 1 := by omega
    have h1 : zs_sum (2 ^ B) (fun w => jn_pt B r ft M (M - (d + 1)) w) = zs_sum (2 ^ B) (fun w => (jn_al B r ft (M - (d + 1)) w * ft (M - (d + 1)) w) * jn_cr (r (M - (d + 1))) B (fun u => jn_be B r ft M d u * ft (M - d) u) w) := by
      refine zs_congr (fun w _ => ?_)
      unfold jn_pt
      rw [e1]
      show jn_al B r ft (M - (d + 1)) w * jn_cr (r (M - (d + 1))) B (fun u => jn_be B r ft M d u * ft (M - d) u) w * ft (M - (d + 1)) w = _
      rw [Nat.mul_assoc, Nat.mul_comm (jn_cr _ _ _ _), ← Nat.mul_assoc]
    rw [h1, ← jn_cr_adj]
    refine zs_congr (fun w _ => ?_)
    unfold jn_pt
    rw [e2, e3]
    show jn_al B r ft (M - (d + 1) + 1) w * (jn_be B r ft M d w * ft (M - (d + 1) + 1) w) = _
    rw [Nat.mul_assoc]
theorem jn_pt_all {B : Nat} {r : Nat → Nat} {ft : Nat → Nat → Nat} {M m : Nat} (h : m ≤ M) : zs_sum (2 ^ B) (fun w => jn_pt B r ft M m w) = jn_J B r ft M := by
  have := jn_pt_sum B r ft M (M - m) (by omega)
  rwa [show M - (M - m) = m by omega] at this
