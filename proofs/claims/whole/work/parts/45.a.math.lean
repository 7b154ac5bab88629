/-! FREE bounds JOINT; decimal digits; what the sums rest on. -/
theorem jn_al_8 {B : Nat} {r r8 : Nat → Nat} {F : Nat → Nat → Nat} : ∀ m, (∀ i, i < m → r i ≤ 16) → (∀ i, i < m → r8 i = 8) → ∀ w, w < 2 ^ B → jn_al B r F m w ≤ 2 ^ (B * m) * jn_al B r8 F m w := by
  intro m
  induction m with
  | zero => intro _ _ w _; show 1 ≤ 2 ^ (B * 0) * 1; rw [Nat.mul_zero]; decide
  | succ m ih =>
    intro h1 h2 w hw
    show jn_cr (r m) B _ w ≤ _ * jn_cr (r8 m) B _ w
    rw [h2 m (by omega), show B * (m + 1) = B * m + B from rfl, Nat.pow_add]
    refine jn_cr_8 (h1 m (by omega)) hw (fun u hu => ?_)
    rw [← Nat.mul_assoc]
    exact Nat.mul_le_mul_right _ (ih (fun i hi => h1 i (by omega)) (fun i hi => h2 i (by omega)) u hu)
theorem jn_J_8 {B M : Nat} {r r8 : Nat → Nat} {F : Nat → Nat → Nat} (h1 : ∀ i, i < M → r i ≤ 16) (h2 : ∀ i, i < M → r8 i = 8) : jn_J B r F M ≤ 2 ^ (B * M) * jn_J B r8 F M := by
  unfold jn_J
  rw [← zs_mul]
  refine zs_le (fun w hw => ?_)
  rw [← Nat.mul_assoc]
  exact Nat.mul_le_mul_right _ (jn_al_8 M h1 h2 w hw)
theorem jn_odds {nc nm n : Nat} {r r8 : Nat → Nat} {F : Nat → Nat → Nat} (hnc : nc ≤ 3) (hm : nm ≤ 4) (hn : n ≤ 1000) (h1 : ∀ i, i + 1 < nm → r i ≤ 16) (h2 : ∀ i, i + 1 < nm → r8 i = 8) (h0 : 0 < jn_J (2 * nc) r8 F (nm - 1)) : jn_J (2 * nc) r F (nm - 1) * n < 2 ^ 28 * jn_J (2 * nc) r8 F (nm - 1) := by
  have h3 := jn_J_8 (B := 2 * nc) (M := nm - 1) (F := F) (fun i hi => h1 i (by omega)) (fun i hi => h2 i (by omega))
  have h4 : 2 * nc * (nm - 1) ≤ 6 * 3 := Nat.mul_le_mul (by omega) (by omega)
  have h5 : 2 ^ (2 * nc * (nm - 1)) ≤ 2 ^ 18 := Nat.pow_le_pow_right (by decide) h4
  generalize jn_J (2 * nc) r8 F (nm - 1) = b at *
  generalize jn_J (2 * nc) r F (nm - 1) = a at *
  have h6 : a ≤ 2 ^ 18 * b := Nat.le_trans h3 (Nat.mul_le_mul_right _ h5)
  have h7 : a * n ≤ 2 ^ 18 * b * 1000 := Nat.mul_le_mul h6 hn
  omega
/-- digits -/
theorem nb_head (B : Nat) (d : Nat → Nat) (s : Nat) : ∀ k, nb_val B d s (k + 1) = d s + B * nb_val B d (s + 1) k := by
  intro k
  induction k with
  | zero => rw [nb_s, nb_0, nb_0]; simp
  | succ k ih =>
    rw [nb_s, ih, nb_s B d (s + 1) k, Nat.mul_add, Nat.pow_succ, show s + (k + 1) = s + 1 + k by omega]
    have h : d (s + 1 + k) * (B ^ k * B) = B * (d (s + 1 + k) * B ^ k) := by
      rw [Nat.mul_comm (B ^ k), ← Nat.mul_assoc, Nat.mul_comm _ B, Nat.mul_assoc]
    rw [h]; omega
def mo_dvI (k1 rs : Nat) (d u : Nat → Nat) : Prop := li_ok 8 u ∧ (∀ q, q < k1 → u q = d q) ∧ 10 * nb_val 268435456 u k1 (8 - k1) + rs = nb_val 268435456 d k1 (8 - k1) ∧ rs < 10
theorem mo_dv0 {d : Nat → Nat} (h : li_ok 8 d) : mo_dvI 8 0 d d := ⟨h, fun _ _ => rfl, rfl, by decide⟩
theorem mo_dv_lt {k rs : Nat} {d u : Nat → Nat} (h : mo_dvI (k + 1) rs d u) (hk : k < 8) : rs * 268435456 + u k < 10 * 268435456 := by
  have h1 := h.1 k hk
  have h2 := h.2.2.2
  omega
theorem mo_dvS {k rs : Nat} {d u : Nat → Nat} (h : mo_dvI (k + 1) rs d u) (hk : k < 8) : mo_dvI k ((rs * 268435456 + u k) % 10) d (va_up u k ((rs * 268435456 + u k) / 10)) := by
  have h1 := mo_dv_lt h hk
  refine ⟨li_up h.1 (by omega), fun q hq => ?_, ?_, Nat.mod_lt _ (by decide)⟩
  · rw [va_up_ne _ _ (by omega)]; exact h.2.1 q (by omega)
  · have h2 := h.2.2.1
    rw [show 8 - k = (8 - (k + 1)) + 1 by omega, nb_head, nb_head, va_up_self, nb_up_out (Or.inl (by omega))]
    have h3 := h.2.1 k (by omega)
    rw [← h3, ← h2]
    generalize nb_val 268435456 u (k + 1) (8 - (k + 1)) = y
    omega
theorem mo_dvF {rs : Nat} {d u V : Nat → Nat} (h : mo_dvI 0 rs d u) (hR : li_R 8 d V) : li_R 8 u (va_up V 0 (V 0 / 10)) ∧ rs = V 0 % 10 := by
  have h1 := h.2.2.1
  have h2 := hR.2 0 (by decide)
  have h3 := h.2.2.2
  rw [Nat.mul_zero] at h2
  have e1 : nb_val 268435456 d 0 (8 - 0) = V 0 := h2
  have e2 : nb_val 268435456 u 0 (8 - 0) = nb_val 268435456 u 0 8 := rfl
  rw [e1, e2] at h1
  refine ⟨⟨h.1, fun j hj => ?_⟩, by omega⟩
  obtain rfl : j = 0 := by omega
  rw [va_up_self, Nat.mul_zero]
  omega
/-- n is the number of J's decimal digits -/
def de_ok (J n : Nat) : Prop := 1 ≤ n ∧ J < 10 ^ n ∧ (n ≤ 1 ∨ 10 ^ (n - 1) ≤ J)
theorem de_le {J n m : Nat} (h1 : de_ok J n) (h2 : de_ok J m) : n ≤ m := by
  rcases h1.2.2 with e | e
  · have := h2.1; omega
  · have h3 : 10 ^ (n - 1) < 10 ^ m := Nat.lt_of_le_of_lt e h2.2.1
    have h4 := (Nat.pow_lt_pow_iff_right (show 1 < 10 by decide)).mp h3
    omega
theorem de_one {J n m : Nat} (h1 : de_ok J n) (h2 : de_ok J m) : n = m := Nat.le_antisymm (de_le h1 h2) (de_le h2 h1)
def de_d (J i : Nat) : Nat := 48 + J / 10 ^ i % 10
theorem de_big : 2 ^ 150 < 10 ^ 54 := by decide +kernel
theorem de_w {J w : Nat} (hJ : J ≤ 2 ^ 150) (h : w = 0 ∨ J / 10 ^ w ≠ 0) : w + 1 ≤ 54 ∧ (w + 1 ≤ 1 ∨ 10 ^ (w + 1 - 1) ≤ J) := by
  rcases h with h | h
  · subst h; exact ⟨by decide, Or.inl (Nat.le_refl _)⟩
  · have h1 : 10 ^ w ≤ J := Nat.not_lt.mp (fun q => h (Nat.div_eq_of_lt q))
    have h2 := (Nat.pow_lt_pow_iff_right (show 1 < 10 by decide)).mp (Nat.lt_of_le_of_lt h1 (Nat.lt_of_le_of_lt hJ de_big))
    exact ⟨by omega, Or.inr h1⟩
theorem de_div (J w : Nat) : J / 10 ^ w / 10 = J / 10 ^ (w + 1) := by rw [Nat.div_div_eq_div_mul, ← Nat.pow_succ]
theorem de_fin {J w : Nat} (h1 : 1 ≤ w) (h0 : J / 10 ^ w = 0) (hlo : w ≤ 1 ∨ 10 ^ (w - 1) ≤ J) : de_ok J w := by
  refine ⟨h1, ?_, hlo⟩
  rcases Nat.div_eq_zero_iff.mp h0 with h | h
  · exact absurd h (Nat.ne_of_gt (Nat.pow_pos (by decide)))
  · exact h
/-- turning the page round -/
def mo_rvI (n k : Nat) (dg pg : Nat → Nat) : Prop := ∀ i, i < n → pg i = if i < k ∨ n ≤ i + k then dg (n - 1 - i) else dg i
theorem mo_rv0 {n : Nat} {dg pg : Nat → Nat} (h : ∀ i, i < n → pg i = dg i) : mo_rvI n 0 dg pg := fun i hi => by rw [if_neg (by omega)]; exact h i hi
theorem mo_rvS {n k : Nat} {dg pg : Nat → Nat} (h : mo_rvI n k dg pg) (hk : k < n / 2) : mo_rvI n (k + 1) dg (va_up (va_up pg k (pg (n - 1 - k))) (n - 1 - k) (pg k)) := fun i hi => by
  by_cases e1 : i = n - 1 - k
  · rw [e1, va_up_self, h k (by omega), if_neg (by omega), if_pos (by omega), show n - 1 - (n - 1 - k) = k by omega]
  · rw [va_up_ne _ _ e1]
    by_cases e2 : i = k
    · rw [e2, va_up_self, h (n - 1 - k) (by omega), if_neg (by omega), if_pos (by omega)]
    · rw [va_up_ne _ _ e2, h i hi]
      by_cases h3 : i < k ∨ n ≤ i + k
      · rw [if_pos h3, if_pos (by omega)]
      · rw [if_neg h3, if_neg (by omega)]
theorem mo_rvF {n k : Nat} {dg pg : Nat → Nat} (h : mo_rvI n k dg pg) (hk : n / 2 ≤ k) : ∀ i, i < n → pg i = dg (n - 1 - i) := fun i hi => by
  rw [h i hi]
  by_cases h3 : i < k ∨ n ≤ i + k
  · rw [if_pos h3]
  · rw [if_neg h3, show n - 1 - i = i by omega]
