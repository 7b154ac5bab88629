/-! A number by its places in base B: k places of the row d from s on. -/
def nb_val (B : Nat) (d : Nat → Nat) (s : Nat) : Nat → Nat
  | 0 => 0
  | k + 1 => nb_val B d s k + d (s + k) * B ^ k
theorem nb_0 (B : Nat) (d : Nat → Nat) (s : Nat) : nb_val B d s 0 = 0 := rfl
theorem nb_s (B : Nat) (d : Nat → Nat) (s k : Nat) : nb_val B d s (k + 1) = nb_val B d s k + d (s + k) * B ^ k := rfl
theorem nb_congr {B : Nat} {d d' : Nat → Nat} {s s' k : Nat} (h : ∀ j, j < k → d (s + j) = d' (s' + j)) : nb_val B d s k = nb_val B d' s' k := by
  induction k with
  | zero => rfl
  | succ k ih => rw [nb_s, nb_s, ih (fun j hj => h j (by omega)), h k (by omega)]
theorem nb_lt {B : Nat} {d : Nat → Nat} {s k : Nat} (h : ∀ j, j < k → d (s + j) < B) : nb_val B d s k < B ^ k := by
  induction k with
  | zero => show 0 < 1; omega
  | succ k ih =>
    have h1 := ih (fun j hj => h j (by omega))
    have h2 := h k (by omega)
    rw [nb_s, Nat.pow_succ]
    have h3 : (d (s + k) + 1) * B ^ k ≤ B * B ^ k := Nat.mul_le_mul_right _ h2
    rw [Nat.add_mul, Nat.one_mul, Nat.mul_comm B] at h3
    omega
theorem nb_zero {B : Nat} {d : Nat → Nat} {s k : Nat} (h : ∀ j, j < k → d (s + j) = 0) : nb_val B d s k = 0 := by
  induction k with
  | zero => rfl
  | succ k ih => rw [nb_s, ih (fun j hj => h j (by omega)), h k (by omega), Nat.zero_mul]
theorem nb_is0 {B : Nat} {d : Nat → Nat} {s k : Nat} (hB : 0 < B) (h : nb_val B d s k = 0) : ∀ j, j < k → d (s + j) = 0 := by
  induction k with
  | zero => intro j hj; omega
  | succ k ih =>
    rw [nb_s] at h
    intro j hj
    have h1 : nb_val B d s k = 0 := by omega
    have h2 : d (s + k) * B ^ k = 0 := by omega
    by_cases e : j = k
    · subst e
      rcases Nat.mul_eq_zero.mp h2 with h3 | h3
      · exact h3
      · exact absurd h3 (Nat.ne_of_gt (Nat.pow_pos hB))
    · exact ih h1 j (by omega)
/-- the places above p alike, the place p less: the number is less -/
theorem nb_less {B : Nat} {a b : Nat → Nat} {s t p k : Nat} (hp : p < k) (ha : ∀ j, j < k → a (s + j) < B) (hab : ∀ j, p < j → j < k → a (s + j) = b (t + j)) (hl : a (s + p) < b (t + p)) : nb_val B a s k < nb_val B b t k := by
  induction k with
  | zero => omega
  | succ k ih =>
    rw [nb_s, nb_s]
    by_cases e : p = k
    · subst e
      have h1 := nb_lt (B := B) (d := a) (s := s) (k := p) (fun j hj => ha j (by omega))
      have h3 : (a (s + p) + 1) * B ^ p ≤ b (t + p) * B ^ p := Nat.mul_le_mul_right _ hl
      rw [Nat.add_mul, Nat.one_mul] at h3
      omega
    · have h1 := ih (by omega) (fun j hj => ha j (by omega)) (fun j h1 h2 => hab j h1 (by omega))
      rw [hab k (by omega) (by omega)]
      omega
theorem nb_inj {B : Nat} {a b : Nat → Nat} {s t k : Nat} (h : ∀ j, j < k → a (s + j) = b (t + j)) : nb_val B a s k = nb_val B b t k := nb_congr h
/-- the place i of a number -/
theorem nb_at {B : Nat} {d : Nat → Nat} {s k i : Nat} (h : ∀ j, j < k → d (s + j) < B) (hi : i < k) : nb_val B d s k / B ^ i % B = d (s + i) := by
  induction k with
  | zero => omega
  | succ k ih =>
    have hB : 0 < B := Nat.lt_of_le_of_lt (Nat.zero_le _) (h k (by omega))
    rw [nb_s]
    by_cases e : i = k
    · subst e
      rw [Nat.add_mul_div_right _ _ (Nat.pow_pos hB), Nat.div_eq_of_lt (nb_lt (fun j hj => h j (by omega))), Nat.zero_add]
      exact Nat.mod_eq_of_lt (h i (by omega))
    · have hik : i < k := by omega
      obtain ⟨e2, rfl⟩ : ∃ q, k = i + 1 + q := ⟨k - (i + 1), by omega⟩
      have h2 : d (s + (i + 1 + e2)) * B ^ (i + 1 + e2) = (d (s + (i + 1 + e2)) * B ^ e2 * B) * B ^ i := by
        rw [Nat.pow_add, Nat.pow_add, Nat.pow_one]
        simp only [Nat.mul_comm, Nat.mul_left_comm, Nat.mul_assoc]
      rw [h2, Nat.add_mul_div_right _ _ (Nat.pow_pos hB), Nat.add_mul_mod_self_right]
      exact ih (fun j hj => h j (by omega)) hik
/-- nothing is carried out of the top -/
theorem nb_top {x cy M t : Nat} (h : x + cy * M = t) (ht : t < M) : x = t := by
  rcases Nat.eq_zero_or_pos cy with h1 | h1
  · rw [h1, Nat.zero_mul] at h; omega
  · have h2 : 1 * M ≤ cy * M := Nat.mul_le_mul_right _ h1
    omega
/-- a row of numbers of P places each: how a new number is put there -/
theorem nb_up_out {B : Nat} {d : Nat → Nat} {s k i x : Nat} (h : i < s ∨ s + k ≤ i) : nb_val B (va_up d i x) s k = nb_val B d s k :=
  nb_congr (fun j hj => va_up_ne d x (by omega))
/-! Amounts: rows of numbers of six places in base 10^9. -/
theorem nb_carry {B : Nat} (u : Nat → Nat) (s k t : Nat) : nb_val B (va_up u (s + k) (t % B)) s (k + 1) + (t / B) * B ^ (k + 1) = nb_val B u s k + t * B ^ k := by
  rw [nb_s, va_up_self, nb_up_out (Or.inr (Nat.le_refl _)), Nat.pow_succ]
  have h1 : t = t % B + t / B * B := by rw [Nat.mul_comm]; exact (Nat.mod_add_div t B).symm
  have h2 : t / B * (B ^ k * B) = t / B * B * B ^ k := by
    rw [Nat.mul_comm (B ^ k) B, ← Nat.mul_assoc]
  have h3 : t * B ^ k = t % B * B ^ k + t / B * B * B ^ k := by
    rw [← Nat.add_mul, ← h1]
  omega
def am_ok (n : Nat) (d : Nat → Nat) : Prop := ∀ k, k < n * 6 → d k < 1000000000
def am_v (d : Nat → Nat) (i : Nat) : Nat := nb_val 1000000000 d (i * 6) 6
def am_R (n : Nat) (d V : Nat → Nat) : Prop := am_ok n d ∧ ∀ j, j < n → am_v d j = V j
/-- u is d but for the places of the number i below k -/
def am_W (n i k : Nat) (d u : Nat → Nat) : Prop := am_ok n u ∧ ∀ j, j < n * 6 → j < i * 6 ∨ i * 6 + k ≤ j → u j = d j
theorem am_W0 {n i : Nat} {d : Nat → Nat} (h : am_ok n d) : am_W n i 0 d d := ⟨h, fun _ _ _ => rfl⟩
theorem am_WS {n i k x : Nat} {d u : Nat → Nat} (h : am_W n i k d u) (hi : i < n) (hk : k < 6) (hx : x < 1000000000) : am_W n i (k + 1) d (va_up u (i * 6 + k) x) := by
  refine ⟨fun j hj => ?_, fun j hj hc => ?_⟩
  · by_cases e : j = i * 6 + k
    · rw [e, va_up_self]; exact hx
    · rw [va_up_ne _ _ e]; exact h.1 j hj
  · rw [va_up_ne _ _ (by omega)]
    exact h.2 j hj (by omega)
theorem am_Wat {n i k : Nat} {d u : Nat → Nat} (h : am_W n i k d u) (hi : i < n) (hk : k < 6) : u (i * 6 + k) = d (i * 6 + k) := h.2 _ (by omega) (Or.inr (Nat.le_refl _))
theorem am_WF {n i x : Nat} {d u V : Nat → Nat} (h : am_W n i 6 d u) (hR : am_R n d V) (hx : am_v u i = x) : am_R n u (va_up V i x) := by
  refine ⟨h.1, fun j hj => ?_⟩
  by_cases e : j = i
  · subst e; rw [va_up_self]; exact hx
  · rw [va_up_ne _ _ e, ← hR.2 j hj]
    exact nb_congr (fun q hq => h.2 _ (by omega) (by omega))
theorem am_lt {n i : Nat} {d : Nat → Nat} (h : am_ok n d) (hi : i < n) : am_v d i < 1000000000 ^ 6 := nb_lt (fun j hj => h _ (by omega))
/-- set -/
def am_setI (n i v k : Nat) (d u : Nat → Nat) : Prop := am_W n i k d u ∧ 1 ≤ k ∧ nb_val 1000000000 u (i * 6) k = v
theorem am_set1 {n i v : Nat} {d : Nat → Nat} (h : am_ok n d) (hi : i < n) (hv : v < 1000000000) : am_setI n i v 1 d (va_up d (i * 6) v) := by
  refine ⟨am_WS (am_W0 h) hi (by omega) hv, by omega, ?_⟩
  show 0 + va_up d (i * 6) v (i * 6 + 0) * 1000000000 ^ 0 = v
  rw [Nat.add_zero, va_up_self]; omega
theorem am_setS {n i v k : Nat} {d u : Nat → Nat} (h : am_setI n i v k d u) (hi : i < n) (hk : k < 6) : am_setI n i v (k + 1) d (va_up u (i * 6 + k) 0) := by
  refine ⟨am_WS h.1 hi hk (by omega), by omega, ?_⟩
  rw [nb_s, va_up_self, Nat.zero_mul, Nat.add_zero, nb_up_out (Or.inr (Nat.le_refl _))]
  exact h.2.2
theorem am_setF {n i v : Nat} {d u V : Nat → Nat} (h : am_setI n i v 6 d u) (hR : am_R n d V) : am_R n u (va_up V i v) := am_WF h.1 hR h.2.2
/-- copy -/
def am_cpI (n to fr k : Nat) (d u : Nat → Nat) : Prop := am_W n to k d u ∧ ∀ j, j < k → u (to * 6 + j) = d (fr * 6 + j)
theorem am_cp0 {n to fr : Nat} {d : Nat → Nat} (h : am_ok n d) : am_cpI n to fr 0 d d := ⟨am_W0 h, fun j hj => by omega⟩
theorem am_cp_at {n to fr k : Nat} {d u : Nat → Nat} (h : am_cpI n to fr k d u) (hf : fr < n) (hk : k < 6) : u (fr * 6 + k) = d (fr * 6 + k) := by
  by_cases e : fr = to
  · subst e; exact am_Wat h.1 hf hk
  · exact h.1.2 _ (by omega) (by omega)
theorem am_cpS {n to fr k : Nat} {d u : Nat → Nat} (h : am_cpI n to fr k d u) (ht : to < n) (hf : fr < n) (hk : k < 6) : am_cpI n to fr (k + 1) d (va_up u (to * 6 + k) (u (fr * 6 + k))) := by
  refine ⟨am_WS h.1 ht hk (h.1.1 _ (by omega)), fun j hj => ?_⟩
  by_cases e : j = k
  · subst e; rw [va_up_self]; exact am_cp_at h hf hk
  · rw [va_up_ne _ _ (by omega)]; exact h.2 j (by omega)
theorem am_cpF {n to fr : Nat} {d u V : Nat → Nat} (h : am_cpI n to fr 6 d u) (hR : am_R n d V) (hf : fr < n) : am_R n u (va_up V to (V fr)) :=
  am_WF h.1 hR ((nb_congr h.2).trans (hR.2 fr hf))
/-- add -/
def am_adI (n to fr k cy : Nat) (d u d2 : Nat → Nat) : Prop := am_W n to k d u ∧ nb_val 1000000000 u (to * 6) k + cy * 1000000000 ^ k = nb_val 1000000000 d (to * 6) k + nb_val 1000000000 d2 (fr * 6) k ∧ cy ≤ 1
theorem am_ad0 {n to fr : Nat} {d d2 : Nat → Nat} (h : am_ok n d) : am_adI n to fr 0 0 d d d2 := ⟨am_W0 h, rfl, by omega⟩
theorem am_adS {n n2 to fr k cy : Nat} {d u d2 : Nat → Nat} (h : am_adI n to fr k cy d u d2) (h2 : am_ok n2 d2) (ht : to < n) (hf : fr < n2) (hk : k < 6) :
    am_adI n to fr (k + 1) ((u (to * 6 + k) + d2 (fr * 6 + k) + cy) / 1000000000) d (va_up u (to * 6 + k) ((u (to * 6 + k) + d2 (fr * 6 + k) + cy) % 1000000000)) d2 := by
  have b1 := h.1.1 (to * 6 + k) (by omega)
  have b2 := h2 (fr * 6 + k) (by omega)
  have b3 := h.2.2
  refine ⟨am_WS h.1 ht hk (Nat.mod_lt _ (by omega)), ?_, by omega⟩
  rw [nb_carry, nb_s, nb_s, ← am_Wat h.1 ht hk]
  have h3 := h.2.1
  rw [Nat.add_mul, Nat.add_mul]
  omega
theorem am_adF {n n2 to fr cy : Nat} {d u d2 V V2 : Nat → Nat} (h : am_adI n to fr 6 cy d u d2) (hR : am_R n d V) (hR2 : am_R n2 d2 V2) (ht : to < n) (hf : fr < n2) (hl : V to + V2 fr < 1000000000 ^ 6) : am_R n u (va_up V to (V to + V2 fr)) := by
  refine am_WF h.1 hR ?_
  rw [← hR.2 to ht, ← hR2.2 fr hf] at hl ⊢
  exact nb_top h.2.1 hl
/-- multiply -/
def am_muI (n i f k cy : Nat) (d u : Nat → Nat) : Prop := am_W n i k d u ∧ nb_val 1000000000 u (i * 6) k + cy * 1000000000 ^ k = nb_val 1000000000 d (i * 6) k * f ∧ cy ≤ f
theorem am_mu0 {n i f : Nat} {d : Nat → Nat} (h : am_ok n d) : am_muI n i f 0 0 d d := ⟨am_W0 h, by rw [nb_0]; omega, by omega⟩
theorem am_mu_lt {n i f k cy : Nat} {d u : Nat → Nat} (h : am_muI n i f k cy d u) (hi : i < n) (hk : k < 6) (hf : f < 2147483648) : u (i * 6 + k) * f + cy < 2 ^ 63 := by
  have b1 := h.1.1 (i * 6 + k) (by omega)
  have b3 := h.2.2
  have h1 : u (i * 6 + k) * f ≤ 999999999 * f := Nat.mul_le_mul_right _ (by omega)
  omega
theorem am_muS {n i f k cy : Nat} {d u : Nat → Nat} (h : am_muI n i f k cy d u) (hi : i < n) (hk : k < 6) :
    am_muI n i f (k + 1) ((u (i * 6 + k) * f + cy) / 1000000000) d (va_up u (i * 6 + k) ((u (i * 6 + k) * f + cy) % 1000000000)) := by
  have b1 := h.1.1 (i * 6 + k) (by omega)
  have b3 := h.2.2
  refine ⟨am_WS h.1 hi hk (Nat.mod_lt _ (by omega)), ?_, ?_⟩
  · rw [nb_carry, nb_s, ← am_Wat h.1 hi hk]
    have h3 := h.2.1
    rw [Nat.add_mul, Nat.add_mul (nb_val _ _ _ _), ← h3, Nat.mul_assoc, Nat.mul_assoc, Nat.mul_comm f]
    omega
  · have h1 : u (i * 6 + k) * f ≤ 999999999 * f := Nat.mul_le_mul_right _ (by omega)
    omega
theorem am_muF {n i f cy : Nat} {d u V : Nat → Nat} (h : am_muI n i f 6 cy d u) (hR : am_R n d V) (hi : i < n) (hl : V i * f < 1000000000 ^ 6) : am_R n u (va_up V i (V i * f)) := by
  refine am_WF h.1 hR ?_
  rw [← hR.2 i hi] at hl ⊢
  exact nb_top h.2.1 hl
