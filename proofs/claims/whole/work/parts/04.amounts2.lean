/-! Amounts: product, blend, compare. -/
/-- the column p of a product -/
def am_cv (l r : Nat → Nat) (s p : Nat) : Nat := zs_sum (p + 1) (fun j => l (s + j) * r (s + p - j))
def am_cs (l r : Nat → Nat) (s : Nat) : Nat → Nat
  | 0 => 0
  | k + 1 => am_cs l r s k + am_cv l r s k * 1000000000 ^ k
theorem am_cs6 (l r : Nat → Nat) (s : Nat) : ∃ x, nb_val 1000000000 l s 6 * nb_val 1000000000 r s 6 = am_cs l r s 6 + x * 1000000000 ^ 6 := by
  refine ⟨l (s + 1) * r (s + 5) + l (s + 2) * r (s + 4) + l (s + 3) * r (s + 3) + l (s + 4) * r (s + 2) + l (s + 5) * r (s + 1) + (l (s + 2) * r (s + 5) + l (s + 3) * r (s + 4) + l (s + 4) * r (s + 3) + l (s + 5) * r (s + 2)) * 1000000000 + (l (s + 3) * r (s + 5) + l (s + 4) * r (s + 4) + l (s + 5) * r (s + 3)) * 1000000000 ^ 2 + (l (s + 4) * r (s + 5) + l (s + 5) * r (s + 4)) * 1000000000 ^ 3 + l (s + 5) * r (s + 5) * 1000000000 ^ 4, ?_⟩
  have e : ∀ p j, s + p - j = s + (p - j) ∨ p < j := fun p j => by omega
  simp only [nb_val, am_cs, am_cv, zs_sum, Nat.add_zero, Nat.sub_zero, Nat.zero_add]
  have e1 : ∀ q, s + (q + 1) - 1 = s + q := fun q => by omega
  rw [show s + 1 - 1 = s by omega, show s + 2 - 1 = s + 1 by omega, show s + 2 - 2 = s by omega, show s + 3 - 1 = s + 2 by omega, show s + 3 - 2 = s + 1 by omega, show s + 3 - 3 = s by omega,
    show s + 4 - 1 = s + 3 by omega, show s + 4 - 2 = s + 2 by omega, show s + 4 - 3 = s + 1 by omega, show s + 4 - 4 = s by omega,
    show s + 5 - 1 = s + 4 by omega, show s + 5 - 2 = s + 3 by omega, show s + 5 - 3 = s + 2 by omega, show s + 5 - 4 = s + 1 by omega, show s + 5 - 5 = s by omega]
  generalize l s = a0, l (s + 1) = a1, l (s + 2) = a2, l (s + 3) = a3, l (s + 4) = a4, l (s + 5) = a5
  generalize r s = b0, r (s + 1) = b1, r (s + 2) = b2, r (s + 3) = b3, r (s + 4) = b4, r (s + 5) = b5
  grind
def am_prI (n i k col : Nat) (d u l r : Nat → Nat) : Prop := am_W n i k d u ∧ nb_val 1000000000 u (i * 6) k + col * 1000000000 ^ k = am_cs l r (i * 6) k ∧ col ≤ 7000000000
theorem am_pr0 {n i : Nat} {d l r : Nat → Nat} (h : am_ok n d) : am_prI n i 0 0 d d l r := ⟨am_W0 h, rfl, by omega⟩
/-- inside a column: j products summed -/
def am_prC (s k col j cj : Nat) (l r : Nat → Nat) : Prop := cj = col + zs_sum j (fun q => l (s + q) * r (s + k - q))
theorem am_prC0 (s k col : Nat) (l r : Nat → Nat) : am_prC s k col 0 col l r := rfl
theorem am_prCS {s k col j cj : Nat} {l r : Nat → Nat} (h : am_prC s k col j cj l r) : am_prC s k col (j + 1) (cj + l (s + j) * r (s + k - j)) l r := by
  unfold am_prC at h ⊢
  rw [zs_s, h]; omega
theorem am_prC_le {n i k col j cj : Nat} {l r : Nat → Nat} (hl : am_ok n l) (hr : am_ok n r) (hi : i < n) (hk : k < 6) (hj : j ≤ k + 1) (hc : col ≤ 7000000000) (h : am_prC (i * 6) k col j cj l r) : cj ≤ 7000000000 + j * 1000000000000000000 := by
  unfold am_prC at h
  have h1 : zs_sum j (fun q => l (i * 6 + q) * r (i * 6 + k - q)) ≤ zs_sum j (fun _ => 1000000000000000000) := zs_le (fun q hq => by
    have a1 := hl (i * 6 + q) (by omega)
    have a2 := hr (i * 6 + k - q) (by omega)
    exact Nat.le_trans (Nat.mul_le_mul (Nat.le_of_lt a1) (Nat.le_of_lt a2)) (by decide))
  rw [zs_const] at h1
  omega
theorem am_pr_mul {n i k j : Nat} {l r : Nat → Nat} (hl : am_ok n l) (hr : am_ok n r) (hi : i < n) (hk : k < 6) (hj : j ≤ k) : l (i * 6 + j) * r (i * 6 + k - j) ≤ 1000000000000000000 := by
  have a1 := hl (i * 6 + j) (by omega)
  have a2 := hr (i * 6 + k - j) (by omega)
  exact Nat.le_trans (Nat.mul_le_mul (Nat.le_of_lt a1) (Nat.le_of_lt a2)) (by decide)
theorem am_prS {n i k col cj : Nat} {d u l r : Nat → Nat} (h : am_prI n i k col d u l r) (hl : am_ok n l) (hr : am_ok n r) (hi : i < n) (hk : k < 6) (hC : am_prC (i * 6) k col (k + 1) cj l r) :
    am_prI n i (k + 1) (cj / 1000000000) d (va_up u (i * 6 + k) (cj % 1000000000)) l r := by
  have hb := am_prC_le hl hr hi hk (Nat.le_refl _) h.2.2 hC
  refine ⟨am_WS h.1 hi hk (Nat.mod_lt _ (by omega)), ?_, by omega⟩
  rw [nb_carry]
  show _ = am_cs l r (i * 6) k + am_cv l r (i * 6) k * 1000000000 ^ k
  have h3 := h.2.1
  have h4 : cj = col + am_cv l r (i * 6) k := hC
  rw [h4, Nat.add_mul]
  omega
theorem am_prF {n i col : Nat} {d u l r V Vl Vr : Nat → Nat} (h : am_prI n i 6 col d u l r) (hR : am_R n d V) (hl : am_R n l Vl) (hr : am_R n r Vr) (hi : i < n) (hb : Vl i * Vr i < 1000000000 ^ 6) : am_R n u (va_up V i (Vl i * Vr i)) := by
  refine am_WF h.1 hR ?_
  obtain ⟨x, hx⟩ := am_cs6 l r (i * 6)
  rw [← hl.2 i hi, ← hr.2 i hi] at hb ⊢
  refine nb_top (cy := col + x) (M := 1000000000 ^ 6) ?_ hb
  have h2 := h.2.1
  show nb_val 1000000000 u (i * 6) 6 + (col + x) * 1000000000 ^ 6 = nb_val 1000000000 l (i * 6) 6 * nb_val 1000000000 r (i * 6) 6
  rw [hx, ← h2, Nat.add_mul, Nat.add_assoc]
/-- blend: two numbers o, t of one row at once -/
def am_blI (n o t r k c1 c2 : Nat) (d u : Nat → Nat) : Prop := am_ok n u ∧ (∀ j, j < n * 6 → j < o * 6 ∨ o * 6 + k ≤ j → j < t * 6 ∨ t * 6 + k ≤ j → u j = d j) ∧
  nb_val 1000000000 u (o * 6) k + c1 * 1000000000 ^ k = (16 - r) * nb_val 1000000000 d (o * 6) k + r * nb_val 1000000000 d (t * 6) k ∧
  nb_val 1000000000 u (t * 6) k + c2 * 1000000000 ^ k = r * nb_val 1000000000 d (o * 6) k + (16 - r) * nb_val 1000000000 d (t * 6) k ∧ c1 ≤ 16 ∧ c2 ≤ 16
theorem am_bl0 {n o t r : Nat} {d : Nat → Nat} (h : am_ok n d) : am_blI n o t r 0 0 0 d d := ⟨h, fun _ _ _ _ => rfl, rfl, rfl, by omega, by omega⟩
theorem am_bl_lt {n o t r k c1 c2 : Nat} {d u : Nat → Nat} (h : am_blI n o t r k c1 c2 d u) (ho : o < n) (ht : t < n) (hr : r ≤ 16) (hk : k < 6) : (16 - r) * u (o * 6 + k) + r * u (t * 6 + k) + c1 < 2 ^ 63 ∧ r * u (o * 6 + k) + (16 - r) * u (t * 6 + k) + c2 < 2 ^ 63 := by
  obtain ⟨h1, h2, h3, h4, h5, h6⟩ := h
  have b1 := h1 (o * 6 + k) (by omega)
  have b2 := h1 (t * 6 + k) (by omega)
  have x1 : (16 - r) * u (o * 6 + k) ≤ 16 * 999999999 := Nat.mul_le_mul (by omega) (by omega)
  have x2 : r * u (t * 6 + k) ≤ 16 * 999999999 := Nat.mul_le_mul hr (by omega)
  have x3 : r * u (o * 6 + k) ≤ 16 * 999999999 := Nat.mul_le_mul hr (by omega)
  have x4 : (16 - r) * u (t * 6 + k) ≤ 16 * 999999999 := Nat.mul_le_mul (by omega) (by omega)
  omega
theorem am_blS {n o t r k c1 c2 : Nat} {d u : Nat → Nat} (h : am_blI n o t r k c1 c2 d u) (ho : o < n) (ht : t < n) (hot : o ≠ t) (hr : r ≤ 16) (hk : k < 6) :
    am_blI n o t r (k + 1) (((16 - r) * u (o * 6 + k) + r * u (t * 6 + k) + c1) / 1000000000) ((r * u (o * 6 + k) + (16 - r) * u (t * 6 + k) + c2) / 1000000000) d
      (va_up (va_up u (o * 6 + k) (((16 - r) * u (o * 6 + k) + r * u (t * 6 + k) + c1) % 1000000000)) (t * 6 + k) ((r * u (o * 6 + k) + (16 - r) * u (t * 6 + k) + c2) % 1000000000)) := by
  obtain ⟨h1, h2, h3, h4, h5, h6⟩ := h
  have b1 := h1 (o * 6 + k) (by omega)
  have b2 := h1 (t * 6 + k) (by omega)
  have q1 : u (o * 6 + k) = d (o * 6 + k) := h2 _ (by omega) (by omega) (by omega)
  have q2 : u (t * 6 + k) = d (t * 6 + k) := h2 _ (by omega) (by omega) (by omega)
  have m1 : (16 - r) * u (o * 6 + k) + r * u (t * 6 + k) ≤ 16 * 999999999 := by
    have a1 : (16 - r) * u (o * 6 + k) ≤ (16 - r) * 999999999 := Nat.mul_le_mul_left _ (by omega)
    have a2 : r * u (t * 6 + k) ≤ r * 999999999 := Nat.mul_le_mul_left _ (by omega)
    have a3 : (16 - r) * 999999999 + r * 999999999 = 16 * 999999999 := by rw [← Nat.add_mul, Nat.sub_add_cancel hr]
    omega
  have m2 : r * u (o * 6 + k) + (16 - r) * u (t * 6 + k) ≤ 16 * 999999999 := by
    have a1 : (16 - r) * u (t * 6 + k) ≤ (16 - r) * 999999999 := Nat.mul_le_mul_left _ (by omega)
    have a2 : r * u (o * 6 + k) ≤ r * 999999999 := Nat.mul_le_mul_left _ (by omega)
    have a3 : (16 - r) * 999999999 + r * 999999999 = 16 * 999999999 := by rw [← Nat.add_mul, Nat.sub_add_cancel hr]
    omega
  refine ⟨fun j hj => ?_, fun j hj e1 e2 => ?_, ?_, ?_, by omega, by omega⟩
  · by_cases e2 : j = t * 6 + k
    · rw [e2, va_up_self]; exact Nat.mod_lt _ (by omega)
    · rw [va_up_ne _ _ e2]
      by_cases e1 : j = o * 6 + k
      · rw [e1, va_up_self]; exact Nat.mod_lt _ (by omega)
      · rw [va_up_ne _ _ e1]; exact h1 j hj
  · rw [va_up_ne _ _ (by omega), va_up_ne _ _ (by omega)]
    exact h2 j hj (by omega) (by omega)
  · rw [nb_up_out (by omega), nb_carry, nb_s, nb_s, ← q1, ← q2]
    simp only [Nat.add_mul, Nat.mul_add, ← Nat.mul_assoc]
    omega
  · rw [show va_up (va_up u (o * 6 + k) (((16 - r) * u (o * 6 + k) + r * u (t * 6 + k) + c1) % 1000000000)) (t * 6 + k) ((r * u (o * 6 + k) + (16 - r) * u (t * 6 + k) + c2) % 1000000000) = va_up (va_up u (o * 6 + k) (((16 - r) * u (o * 6 + k) + r * u (t * 6 + k) + c1) % 1000000000)) (t * 6 + k) ((r * u (o * 6 + k) + (16 - r) * u (t * 6 + k) + c2) % 1000000000) from rfl, nb_carry, nb_up_out (by omega), nb_s, nb_s, ← q1, ← q2]
    simp only [Nat.add_mul, Nat.mul_add, ← Nat.mul_assoc]
    omega
theorem am_blF {n o t r c1 c2 : Nat} {d u V : Nat → Nat} (h : am_blI n o t r 6 c1 c2 d u) (hR : am_R n d V) (ho : o < n) (ht : t < n) (hl1 : (16 - r) * V o + r * V t < 1000000000 ^ 6) (hl2 : r * V o + (16 - r) * V t < 1000000000 ^ 6) :
    am_R n u (va_up (va_up V o ((16 - r) * V o + r * V t)) t (r * V o + (16 - r) * V t)) := by
  obtain ⟨h1, h2, h3, h4, -, -⟩ := h
  rw [← hR.2 o ho, ← hR.2 t ht] at hl1 hl2 ⊢
  have z1 : am_v u o = (16 - r) * am_v d o + r * am_v d t := nb_top h3 hl1
  have z2 : am_v u t = r * am_v d o + (16 - r) * am_v d t := nb_top h4 hl2
  refine ⟨h1, fun j hj => ?_⟩
  by_cases q2 : j = t
  · subst q2; rw [va_up_self]; exact z2
  · rw [va_up_ne _ _ q2]
    by_cases q1 : j = o
    · subst q1; rw [va_up_self]; exact z1
    · rw [va_up_ne _ _ q1, ← hR.2 j hj]
      exact nb_congr (fun q hq => h2 _ (by omega) (by omega) (by omega))
/-- what a comparison answers: 1, 0, or -1 as 2^32 - 1 -/
def mg_cmp (a b : Nat) : Nat := if a < b then 4294967295 else if a = b then 0 else 1
theorem am_cmp_lt {n o t p : Nat} {d V : Nat → Nat} (hR : am_R n d V) (ho : o < n) (ht : t < n) (hp : p < 6) (he : ∀ j, p < j → j < 6 → d (o * 6 + j) = d (t * 6 + j)) (hl : d (o * 6 + p) < d (t * 6 + p)) : mg_cmp (V o) (V t) = 4294967295 := by
  have h : am_v d o < am_v d t := nb_less hp (fun j hj => hR.1 _ (by omega)) he hl
  rw [hR.2 o ho, hR.2 t ht] at h
  exact if_pos h
theorem am_cmp_gt {n o t p : Nat} {d V : Nat → Nat} (hR : am_R n d V) (ho : o < n) (ht : t < n) (hp : p < 6) (he : ∀ j, p < j → j < 6 → d (o * 6 + j) = d (t * 6 + j)) (hl : d (t * 6 + p) < d (o * 6 + p)) : mg_cmp (V o) (V t) = 1 := by
  have h : am_v d t < am_v d o := nb_less hp (fun j hj => hR.1 _ (by omega)) (fun j a b => (he j a b).symm) hl
  rw [hR.2 o ho, hR.2 t ht] at h
  unfold mg_cmp
  rw [if_neg (by omega), if_neg (by omega)]
theorem am_cmp_eq {n o t : Nat} {d V : Nat → Nat} (hR : am_R n d V) (ho : o < n) (ht : t < n) (he : ∀ j, j < 6 → d (o * 6 + j) = d (t * 6 + j)) : mg_cmp (V o) (V t) = 0 := by
  have h : am_v d o = am_v d t := nb_congr he
  rw [hR.2 o ho, hR.2 t ht] at h
  unfold mg_cmp
  rw [if_neg (by omega), if_pos h]
theorem am_zero {n i : Nat} {d V : Nat → Nat} (hR : am_R n d V) (hi : i < n) (h : ∀ j, j < 6 → d (i * 6 + j) = 0) : V i = 0 := by
  rw [← hR.2 i hi]
  exact nb_zero h
theorem am_nonzero {n i k : Nat} {d V : Nat → Nat} (hR : am_R n d V) (hi : i < n) (hk : k < 6) (h : d (i * 6 + k) ≠ 0) : V i ≠ 0 := fun e => by
  rw [← hR.2 i hi] at e
  exact h (nb_is0 (by decide) e k hk)
