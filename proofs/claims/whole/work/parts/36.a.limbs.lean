/-! Rows of numbers of eight places in base 2^28 (the reference's). -/
def li_ok (N : Nat) (d : Nat → Nat) : Prop := ∀ k, k < N → d k < 268435456
def li_R (N : Nat) (d V : Nat → Nat) : Prop := li_ok N d ∧ ∀ j, 8 * j + 8 ≤ N → nb_val 268435456 d (8 * j) 8 = V j
def li_W (N a k : Nat) (d u : Nat → Nat) : Prop := li_ok N u ∧ ∀ j, j < N → j < a ∨ a + k ≤ j → u j = d j
theorem li_W0 {N a : Nat} {d : Nat → Nat} (h : li_ok N d) : li_W N a 0 d d := ⟨h, fun _ _ _ => rfl⟩
theorem li_up {N i x : Nat} {u : Nat → Nat} (h : li_ok N u) (hx : x < 268435456) : li_ok N (va_up u i x) := fun j hj => by
  by_cases e : j = i
  · rw [e, va_up_self]; exact hx
  · rw [va_up_ne _ _ e]; exact h j hj
theorem li_WS {N a k x : Nat} {d u : Nat → Nat} (h : li_W N a k d u) (hx : x < 268435456) : li_W N a (k + 1) d (va_up u (a + k) x) := by
  refine ⟨li_up h.1 hx, fun j hj hc => ?_⟩
  rw [va_up_ne _ _ (by omega)]
  exact h.2 j hj (by omega)
theorem li_Wat {N a k : Nat} {d u : Nat → Nat} (h : li_W N a k d u) (hk : a + k < N) : u (a + k) = d (a + k) := h.2 _ hk (Or.inr (Nat.le_refl _))
theorem li_WF {N a i x : Nat} {d u V : Nat → Nat} (h : li_W N a 8 d u) (hR : li_R N d V) (ha : a = 8 * i) (hx : nb_val 268435456 u a 8 = x) : li_R N u (va_up V i x) := by
  subst ha
  refine ⟨h.1, fun j hj => ?_⟩
  by_cases e : j = i
  · subst e; rw [va_up_self]; exact hx
  · rw [va_up_ne _ _ e, ← hR.2 j hj]
    exact nb_congr (fun q hq => h.2 _ (by omega) (by omega))
/-- clear -/
def li_clI (N a k : Nat) (d u : Nat → Nat) : Prop := li_W N a k d u ∧ ∀ j, j < k → u (a + j) = 0
theorem li_cl0 {N a : Nat} {d : Nat → Nat} (h : li_ok N d) : li_clI N a 0 d d := ⟨li_W0 h, fun j hj => by omega⟩
theorem li_clS {N a k : Nat} {d u : Nat → Nat} (h : li_clI N a k d u) : li_clI N a (k + 1) d (va_up u (a + k) 0) := by
  refine ⟨li_WS h.1 (by omega), fun j hj => ?_⟩
  by_cases e : j = k
  · subst e; rw [va_up_self]
  · rw [va_up_ne _ _ (by omega)]; exact h.2 j (by omega)
theorem li_clF {N a i : Nat} {d u V : Nat → Nat} (h : li_clI N a 8 d u) (hR : li_R N d V) (ha : a = 8 * i) : li_R N u (va_up V i 0) := li_WF h.1 hR ha (nb_zero h.2)
/-- one number put at a row's start, the row being 0 -/
theorem li_one {N a i x : Nat} {d V : Nat → Nat} (hR : li_R N d (va_up V i 0)) (ha : a = 8 * i) (hn : 8 * i + 8 ≤ N) (hx : x < 268435456) : li_R N (va_up d a x) (va_up V i x) := by
  subst ha
  have h0 : nb_val 268435456 d (8 * i) 8 = 0 := by rw [hR.2 i hn, va_up_self]
  have hz := nb_is0 (by decide) h0
  refine ⟨li_up hR.1 hx, fun j hj => ?_⟩
  by_cases e : j = i
  · subst e
    rw [va_up_self]
    show nb_val _ _ _ (7 + 1) = x
    have h7 : ∀ k, k ≤ 7 → nb_val 268435456 (va_up d (8 * j) x) (8 * j) (k + 1) = x := by
      intro k
      induction k with
      | zero => intro _; rw [nb_s, nb_0, Nat.add_zero, va_up_self]; omega
      | succ k ih => intro hk; rw [nb_s, ih (by omega), va_up_ne _ _ (by omega), hz (k + 1) (by omega), Nat.zero_mul, Nat.add_zero]
    exact h7 7 (Nat.le_refl _)
  · rw [va_up_ne _ _ e]
    have h3 := hR.2 j hj
    rw [va_up_ne _ _ e] at h3
    rw [← h3]
    exact nb_up_out (by omega)
/-- addTimes -/
def li_adI (N a f n k cy : Nat) (d u d2 : Nat → Nat) : Prop := li_W N a k d u ∧ nb_val 268435456 u a k + cy * 268435456 ^ k = nb_val 268435456 d a k + nb_val 268435456 d2 f k * n ∧ cy ≤ n
theorem li_ad0 {N a f n : Nat} {d d2 : Nat → Nat} (h : li_ok N d) : li_adI N a f n 0 0 d d d2 := ⟨li_W0 h, by rw [nb_0, nb_0]; omega, by omega⟩
theorem li_ad_lt {x y cy n : Nat} (hx : x < 268435456) (hy : y < 268435456) (hc : cy ≤ n) (hn : n < 4294967296) : cy + x + y * n < 2 ^ 63 := by
  have h1 : y * n ≤ 268435455 * n := Nat.mul_le_mul_right _ (by omega)
  omega
theorem li_adS {N N2 a f n k cy : Nat} {d u d2 : Nat → Nat} (h : li_adI N a f n k cy d u d2) (h2 : li_ok N2 d2) (ha : a + k < N) (hf : f + k < N2) {y : Nat} (hy : y = d2 (f + k)) :
    li_adI N a f n (k + 1) ((cy + u (a + k) + y * n) / 268435456) d (va_up u (a + k) ((cy + u (a + k) + y * n) % 268435456)) d2 := by
  subst hy
  have b1 := h.1.1 (a + k) ha
  have b2 := h2 (f + k) hf
  have b3 := h.2.2
  refine ⟨li_WS h.1 (Nat.mod_lt _ (by omega)), ?_, ?_⟩
  · rw [nb_carry, nb_s, nb_s, ← li_Wat h.1 ha]
    have h3 := h.2.1
    rw [Nat.add_mul, Nat.add_mul, Nat.add_mul (nb_val _ d2 _ _), Nat.mul_assoc, Nat.mul_assoc (d2 (f + k)), Nat.mul_comm n]
    omega
  · have h1 : d2 (f + k) * n ≤ 268435455 * n := Nat.mul_le_mul_right _ (by omega)
    omega
theorem li_adF {N N2 a f i j n cy : Nat} {d u d2 V V2 : Nat → Nat} (h : li_adI N a f n 8 cy d u d2) (hR : li_R N d V) (hR2 : li_R N2 d2 V2) (ha : a = 8 * i) (hf : f = 8 * j) (hi : 8 * i + 8 ≤ N) (hj : 8 * j + 8 ≤ N2) (hl : V i + V2 j * n < 268435456 ^ 8) : li_R N u (va_up V i (V i + V2 j * n)) := by
  refine li_WF h.1 hR ha ?_
  subst ha; subst hf
  rw [← hR.2 i hi, ← hR2.2 j hj] at hl ⊢
  exact nb_top h.2.1 hl
/-- times -/
def li_muI (N a n k cy : Nat) (d u : Nat → Nat) : Prop := li_W N a k d u ∧ nb_val 268435456 u a k + cy * 268435456 ^ k = nb_val 268435456 d a k * n ∧ cy ≤ n
theorem li_mu0 {N a n : Nat} {d : Nat → Nat} (h : li_ok N d) : li_muI N a n 0 0 d d := ⟨li_W0 h, by rw [nb_0]; omega, by omega⟩
theorem li_mu_lt {x cy n : Nat} (hx : x < 268435456) (hc : cy ≤ n) (hn : n < 4294967296) : cy + x * n < 2 ^ 63 := by
  have h1 : x * n ≤ 268435455 * n := Nat.mul_le_mul_right _ (by omega)
  omega
theorem li_muS {N a n k cy : Nat} {d u : Nat → Nat} (h : li_muI N a n k cy d u) (ha : a + k < N) :
    li_muI N a n (k + 1) ((cy + u (a + k) * n) / 268435456) d (va_up u (a + k) ((cy + u (a + k) * n) % 268435456)) := by
  have b1 := h.1.1 (a + k) ha
  have b3 := h.2.2
  refine ⟨li_WS h.1 (Nat.mod_lt _ (by omega)), ?_, ?_⟩
  · rw [nb_carry, nb_s, ← li_Wat h.1 ha]
    have h3 := h.2.1
    rw [Nat.add_mul, Nat.add_mul (nb_val _ _ _ _), ← h3, Nat.mul_assoc, Nat.mul_assoc, Nat.mul_comm n]
    omega
  · have h1 : u (a + k) * n ≤ 268435455 * n := Nat.mul_le_mul_right _ (by omega)
    omega
theorem li_muF {N a i n cy : Nat} {d u V : Nat → Nat} (h : li_muI N a n 8 cy d u) (hR : li_R N d V) (ha : a = 8 * i) (hi : 8 * i + 8 ≤ N) (hl : V i * n < 268435456 ^ 8) : li_R N u (va_up V i (V i * n)) := by
  refine li_WF h.1 hR ha ?_
  subst ha
  rw [← hR.2 i hi] at hl ⊢
  exact nb_top h.2.1 hl
/-- compare -/
def li_cp (N N2 a f : Nat) (d d2 : Nat → Nat) (k : Nat) : Prop := li_ok N d ∧ li_ok N2 d2 ∧ a + k ≤ N ∧ f + k ≤ N2
theorem li_c0 : mg_cmp 0 0 = 0 := rfl
theorem li_clt {N N2 a f k : Nat} {d d2 : Nat → Nat} (h : li_cp N N2 a f d d2 (k + 1)) (hl : d (a + k) < d2 (f + k)) : mg_cmp (nb_val 268435456 d a (k + 1)) (nb_val 268435456 d2 f (k + 1)) = 4294967295 :=
  if_pos (nb_less (Nat.lt_succ_self k) (fun j hj => h.1 _ (by have := h.2.2.1; omega)) (fun j a b => by omega) hl)
theorem li_cgt {N N2 a f k : Nat} {d d2 : Nat → Nat} (h : li_cp N N2 a f d d2 (k + 1)) (hl : d2 (f + k) < d (a + k)) : mg_cmp (nb_val 268435456 d a (k + 1)) (nb_val 268435456 d2 f (k + 1)) = 1 := by
  have h1 : nb_val 268435456 d2 f (k + 1) < nb_val 268435456 d a (k + 1) := nb_less (Nat.lt_succ_self k) (fun j hj => h.2.1 _ (by have := h.2.2.2; omega)) (fun j a b => by omega) hl
  unfold mg_cmp
  rw [if_neg (by omega), if_neg (by omega)]
theorem mg_cmp_add (x y z : Nat) : mg_cmp (x + z) (y + z) = mg_cmp x y := by
  unfold mg_cmp
  by_cases h : x < y
  · rw [if_pos h, if_pos (by omega)]
  · by_cases h2 : x = y
    · rw [if_neg h, if_pos h2, if_neg (by omega), if_pos (by omega)]
    · rw [if_neg h, if_neg h2, if_neg (by omega), if_neg (by omega)]
theorem li_ceq {a f k : Nat} {d d2 : Nat → Nat} (hl : d (a + k) = d2 (f + k)) : mg_cmp (nb_val 268435456 d a (k + 1)) (nb_val 268435456 d2 f (k + 1)) = mg_cmp (nb_val 268435456 d a k) (nb_val 268435456 d2 f k) := by
  show mg_cmp (nb_val _ d a k + _) (nb_val _ d2 f k + _) = _
  rw [hl]
  exact mg_cmp_add _ _ _
theorem mg_cmp_lt32 (x y : Nat) : mg_cmp x y < 2 ^ 32 := by
  unfold mg_cmp
  by_cases h : x < y
  · rw [if_pos h]; decide
  · by_cases h2 : x = y
    · rw [if_neg h, if_pos h2]; decide
    · rw [if_neg h, if_neg h2]; decide
/-- isNothing -/
theorem li_z {d : Nat → Nat} {k : Nat} : nb_val 268435456 d 0 (k + 1) = 0 ↔ nb_val 268435456 d 0 k = 0 ∧ d k = 0 := by
  show nb_val _ d 0 k + d (0 + k) * 268435456 ^ k = 0 ↔ _
  rw [Nat.zero_add]
  have hp : 0 < 268435456 ^ k := Nat.pow_pos (by decide)
  constructor
  · intro h
    refine ⟨by omega, ?_⟩
    have h2 : d k * 268435456 ^ k = 0 := by omega
    rcases Nat.mul_eq_zero.mp h2 with h3 | h3
    · exact h3
    · omega
  · rintro ⟨h1, h2⟩
    rw [h1, h2, Nat.zero_mul]
/-- multiply -/
def li_prO (i a f : Nat) (pr d d2 : Nat → Nat) : Prop := li_ok 17 pr ∧ nb_val 268435456 pr 0 (i + 8) = nb_val 268435456 d a i * nb_val 268435456 d2 f 8
def li_prI (i j cy a f : Nat) (p0 pr d d2 : Nat → Nat) : Prop := li_ok 17 pr ∧ (∀ q, i + j ≤ q → pr q = p0 q) ∧ nb_val 268435456 pr 0 (i + j) + cy * 268435456 ^ (i + j) = nb_val 268435456 p0 0 (i + j) + d (a + i) * 268435456 ^ i * nb_val 268435456 d2 f j ∧ cy < 268435456
theorem li_prI0 {i a f : Nat} {pr d d2 : Nat → Nat} (h : li_ok 17 pr) : li_prI i 0 0 a f pr pr d d2 := ⟨h, fun _ _ => rfl, by rw [nb_0, Nat.mul_zero, Nat.zero_mul], by decide⟩
theorem li_pr_mul {x y cy z : Nat} (hx : x < 268435456) (hy : y < 268435456) (hc : cy < 268435456) (hz : z < 268435456) : cy + z + x * y < 268435456 * 268435456 := by
  have h1 : x * y ≤ 268435455 * 268435455 := Nat.mul_le_mul (by omega) (by omega)
  omega
theorem li_prIS {N N2 i j cy a f : Nat} {p0 pr d d2 : Nat → Nat} (h : li_prI i j cy a f p0 pr d d2) (h1 : li_ok N d) (h2 : li_ok N2 d2) (hi : i < 8) (hj : j < 8) (ha : a + 8 ≤ N) (hf : f + 8 ≤ N2) :
    li_prI i (j + 1) ((cy + pr (i + j) + d (a + i) * d2 (f + j)) / 268435456) a f p0 (va_up pr (i + j) ((cy + pr (i + j) + d (a + i) * d2 (f + j)) % 268435456)) d d2 := by
  have b0 := li_pr_mul (h1 (a + i) (by omega)) (h2 (f + j) (by omega)) h.2.2.2 (h.1 (i + j) (by omega))
  refine ⟨li_up h.1 (Nat.mod_lt _ (by decide)), fun q hq => ?_, ?_, (Nat.div_lt_iff_lt_mul (by decide)).mpr b0⟩
  · rw [va_up_ne _ _ (by omega)]; exact h.2.1 q (by omega)
  · have h3 := nb_carry (B := 268435456) pr 0 (i + j) (cy + pr (i + j) + d (a + i) * d2 (f + j))
    rw [Nat.zero_add] at h3
    show nb_val _ _ 0 (i + j + 1) + _ * _ ^ (i + j + 1) = nb_val _ _ 0 (i + j + 1) + _
    rw [h3, nb_s, nb_s, Nat.zero_add]
    have h4 := h.2.2.1
    have h5 := h.2.1 (i + j) (Nat.le_refl _)
    rw [h5]
    have h6 : d (a + i) * d2 (f + j) * 268435456 ^ (i + j) = d (a + i) * 268435456 ^ i * (d2 (f + j) * 268435456 ^ j) := by
      rw [Nat.pow_add]; simp only [Nat.mul_comm, Nat.mul_left_comm, Nat.mul_assoc]
    rw [Nat.add_mul, Nat.add_mul, h6, Nat.mul_add (d (a + i) * 268435456 ^ i)]
    omega
theorem li_prOS {i cy a f : Nat} {p0 pr d d2 : Nat → Nat} (h0 : li_prO i a f p0 d d2) (h : li_prI i 8 cy a f p0 pr d d2) : li_prO (i + 1) a f (va_up pr (i + 8) cy) d d2 := by
  refine ⟨li_up h.1 h.2.2.2, ?_⟩
  rw [show i + 1 + 8 = i + 8 + 1 by omega]
  show nb_val _ _ 0 (i + 8 + 1) = nb_val _ d a (i + 1) * _
  rw [nb_s 268435456 _ 0 (i + 8), nb_s 268435456 d a i, Nat.zero_add, va_up_self, nb_up_out (Or.inr (by omega)), Nat.add_mul, ← h0.2]
  exact h.2.2.1
theorem nb_hi (B : Nat) (d : Nat → Nat) (s k : Nat) : ∀ e, ∃ x, nb_val B d s (k + e) = nb_val B d s k + x * B ^ k := by
  intro e
  induction e with
  | zero => exact ⟨0, by rw [Nat.zero_mul]; rfl⟩
  | succ e ih =>
    obtain ⟨x, hx⟩ := ih
    refine ⟨x + d (s + (k + e)) * B ^ e, ?_⟩
    show nb_val B d s (k + e) + d (s + (k + e)) * B ^ (k + e) = _
    rw [hx, Nat.add_mul, Nat.mul_assoc (d _), ← Nat.pow_add, Nat.add_comm e k, Nat.add_assoc]
theorem li_prF {N N2 a f i j : Nat} {pr d d2 V V2 : Nat → Nat} (h : li_prO 8 a f pr d d2) (hR : li_R N d V) (hR2 : li_R N2 d2 V2) (ha : a = 8 * i) (hf : f = 8 * j) (hi : 8 * i + 8 ≤ N) (hj : 8 * j + 8 ≤ N2) (hl : V i * V2 j < 268435456 ^ 8) : li_R 17 pr (fun k => if k = 0 then V i * V2 j else nb_val 268435456 pr (8 * k) 8) := by
  refine ⟨h.1, fun k hk => ?_⟩
  by_cases e : k = 0
  · subst e
    show _ = if (0 : Nat) = 0 then _ else _
    rw [if_pos rfl]
    subst ha; subst hf
    have h1 := h.2
    rw [← hR.2 i hi, ← hR2.2 j hj] at hl ⊢
    obtain ⟨x, hx⟩ := nb_hi 268435456 pr 0 8 8
    exact nb_top (hx.symm.trans h1) hl
  · show _ = if k = 0 then _ else _
    rw [if_neg e]
theorem li_pr0 {a f : Nat} {pr d d2 : Nat → Nat} (h : ∀ q, q < 17 → pr q = 0) : li_prO 0 a f pr d d2 :=
  ⟨fun k hk => by rw [h k hk]; decide, by rw [nb_0, Nat.zero_mul]; exact nb_zero (fun j hj => h _ (by omega))⟩
theorem li_big : 2 ^ 223 < 268435456 ^ 8 := by decide +kernel
theorem li_lt {x k : Nat} (h : x ≤ 2 ^ k) (hk : k ≤ 223) : x < 268435456 ^ 8 := Nat.lt_of_le_of_lt (Nat.le_trans h (Nat.pow_le_pow_right (by decide) hk)) li_big
