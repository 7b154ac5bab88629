/-! FIT: over all letters of the founders' copies. -/
/-- the sum over all letters of the copies below k, weighed, of g -/
def ft_sum (wt : Nat → Nat) : Nat → (Nat → Nat) → ((Nat → Nat) → Nat) → Nat
  | 0, a, g => g a
  | k + 1, a, g => wt 1 * ft_sum wt k (va_up a k 1) g + wt 2 * ft_sum wt k (va_up a k 2) g + wt 3 * ft_sum wt k (va_up a k 3) g
theorem ft_congr {wt : Nat → Nat} {g g' : (Nat → Nat) → Nat} : ∀ (k : Nat) (a : Nat → Nat), (∀ a' : Nat → Nat, (∀ j, j < k → 1 ≤ a' j ∧ a' j ≤ 3) → (∀ j, k ≤ j → a' j = a j) → g a' = g' a') → ft_sum wt k a g = ft_sum wt k a g' := by
  intro k
  induction k with
  | zero => intro a h; exact h a (fun j hj => absurd hj (Nat.not_lt_zero j)) (fun _ _ => rfl)
  | succ k ih =>
    intro a h
    have key : ∀ l, 1 ≤ l → l ≤ 3 → ft_sum wt k (va_up a k l) g = ft_sum wt k (va_up a k l) g' := by
      intro l h1 h3
      refine ih _ (fun a' ha hb => h a' (fun j hj => ?_) (fun j hj => ?_))
      · by_cases e : j = k
        · subst e
          rw [hb j (Nat.le_refl j), va_up_self]
          exact ⟨h1, h3⟩
        · exact ha j (by omega)
      · rw [hb j (by omega), va_up_ne a l (by omega)]
    show _ + _ + _ = _ + _ + _
    rw [key 1 (by omega) (by omega), key 2 (by omega) (by omega), key 3 (by omega) (by omega)]
theorem ft_add {wt : Nat → Nat} (g g' : (Nat → Nat) → Nat) : ∀ (k : Nat) (a : Nat → Nat), ft_sum wt k a (fun b => g b + g' b) = ft_sum wt k a g + ft_sum wt k a g' := by
  intro k
  induction k with
  | zero => intro a; rfl
  | succ k ih =>
    intro a
    show wt 1 * _ + wt 2 * _ + wt 3 * _ = (wt 1 * _ + wt 2 * _ + wt 3 * _) + (wt 1 * _ + wt 2 * _ + wt 3 * _)
    rw [ih, ih, ih, Nat.mul_add, Nat.mul_add, Nat.mul_add]
    omega
theorem ft_zero {wt : Nat → Nat} : ∀ (k : Nat) (a : Nat → Nat), ft_sum wt k a (fun _ => 0) = 0 := by
  intro k
  induction k with
  | zero => intro a; rfl
  | succ k ih =>
    intro a
    show wt 1 * _ + wt 2 * _ + wt 3 * _ = 0
    rw [ih, ih, ih]
    rfl
/-- 1 if P, else 0 -/
noncomputable def ft_c (P : Prop) : Nat := @ite Nat P (Classical.propDecidable P) 1 0
theorem ft_c1 {P : Prop} (h : P) : ft_c P = 1 := @if_pos P (Classical.propDecidable P) h Nat 1 0
theorem ft_c0 {P : Prop} (h : ¬ P) : ft_c P = 0 := @if_neg P (Classical.propDecidable P) h Nat 1 0
theorem ft_cc {P Q : Prop} (h : P ↔ Q) : ft_c P = ft_c Q := by rw [propext h]
theorem ft_ca (P Q : Prop) : ft_c (P ∧ Q) = ft_c P * ft_c Q := by
  by_cases hp : P
  · by_cases hq : Q
    · rw [ft_c1 ⟨hp, hq⟩, ft_c1 hp, ft_c1 hq]
    · rw [ft_c0 (fun h => hq h.2), ft_c0 hq, Nat.mul_zero]
  · rw [ft_c0 (fun h => hp h.1), ft_c0 hp, Nat.zero_mul]
/-- what the letters L weigh, those not known (0) being any -/
def ft_w (wt L : Nat → Nat) : Nat → Nat
  | 0 => 1
  | k + 1 => ft_w wt L k * (if L k = 0 then 8 else wt (L k))
theorem ft_ext {wt L : Nat → Nat} {K : Nat} (hw : wt 1 + wt 2 + wt 3 = 8) (hL : ∀ k, k < K → L k ≤ 3) : ∀ (k : Nat) (a : Nat → Nat), k ≤ K →
    ft_sum wt k a (fun b => ft_c (∀ j, j < K → L j = 0 ∨ L j = b j)) = ft_w wt L k * ft_c (∀ j, k ≤ j → j < K → L j = 0 ∨ L j = a j) := by
  intro k
  induction k with
  | zero =>
    intro a _
    show ft_c _ = 1 * ft_c _
    rw [Nat.one_mul]
    exact ft_cc ⟨fun h j _ hj => h j hj, fun h j hj => h j (Nat.zero_le j) hj⟩
  | succ k ih =>
    intro a hk
    show wt 1 * ft_sum wt k (va_up a k 1) _ + wt 2 * ft_sum wt k (va_up a k 2) _ + wt 3 * ft_sum wt k (va_up a k 3) _ = _
    rw [ih _ (by omega), ih _ (by omega), ih _ (by omega)]
    have key : ∀ l, ft_c (∀ j, k ≤ j → j < K → L j = 0 ∨ L j = va_up a k l j) = ft_c (L k = 0 ∨ L k = l) * ft_c (∀ j, k + 1 ≤ j → j < K → L j = 0 ∨ L j = a j) := by
      intro l
      rw [← ft_ca]
      refine ft_cc ⟨fun h => ⟨?_, fun j h1 h2 => ?_⟩, fun h j h1 h2 => ?_⟩
      · have := h k (Nat.le_refl k) (by omega)
        rwa [va_up_self] at this
      · have := h j (by omega) h2
        rwa [va_up_ne a l (by omega)] at this
      · by_cases e : j = k
        · subst e
          rw [va_up_self]
          exact h.1
        · rw [va_up_ne a l e]
          exact h.2 j (by omega) h2
    rw [key 1, key 2, key 3]
    show _ = ft_w wt L k * (if L k = 0 then 8 else wt (L k)) * _
    generalize ft_c (∀ j, k + 1 ≤ j → j < K → L j = 0 ∨ L j = a j) = R
    have hLk := hL k (by omega)
    have hc : L k = 0 ∨ L k = 1 ∨ L k = 2 ∨ L k = 3 := by omega
    rcases hc with h | h | h | h
    · rw [ft_c1 (Or.inl h), ft_c1 (Or.inl h), ft_c1 (Or.inl h), if_pos h, ← Nat.add_mul, ← Nat.add_mul, hw, Nat.one_mul, Nat.mul_comm (ft_w wt L k) 8, Nat.mul_assoc]
    · rw [ft_c1 (show L k = 0 ∨ L k = 1 from Or.inr h), ft_c0 (show ¬ (L k = 0 ∨ L k = 2) by omega), ft_c0 (show ¬ (L k = 0 ∨ L k = 3) by omega), if_neg (by omega), h]
      simp only [Nat.one_mul, Nat.zero_mul, Nat.mul_zero, Nat.add_zero]
      rw [Nat.mul_comm (ft_w wt L k) (wt 1), Nat.mul_assoc]
    · rw [ft_c1 (show L k = 0 ∨ L k = 2 from Or.inr h), ft_c0 (show ¬ (L k = 0 ∨ L k = 1) by omega), ft_c0 (show ¬ (L k = 0 ∨ L k = 3) by omega), if_neg (by omega), h]
      simp only [Nat.one_mul, Nat.zero_mul, Nat.mul_zero, Nat.add_zero, Nat.zero_add]
      rw [Nat.mul_comm (ft_w wt L k) (wt 2), Nat.mul_assoc]
    · rw [ft_c1 (show L k = 0 ∨ L k = 3 from Or.inr h), ft_c0 (show ¬ (L k = 0 ∨ L k = 1) by omega), ft_c0 (show ¬ (L k = 0 ∨ L k = 2) by omega), if_neg (by omega), h]
      simp only [Nat.one_mul, Nat.zero_mul, Nat.mul_zero, Nat.zero_add]
      rw [Nat.mul_comm (ft_w wt L k) (wt 3), Nat.mul_assoc]
/-- the letters a are so as the persons p .. p + j - 1 are seen (o, t: the two letters of a person, 0 where it isn't seen; s0, s1: whose its copies are) -/
def ft_con (o t s0 s1 : Nat → Nat) (p j : Nat) (a : Nat → Nat) : Prop := ∀ q, p ≤ q → q < p + j → o q = 0 ∨ (a (s0 q) = o q ∧ a (s1 q) = t q) ∨ (a (s0 q) = t q ∧ a (s1 q) = o q)
/-- the search with the person p's copies having the letters x, y; F: what comes behind -/
def ft_with (s0 s1 : Nat → Nat) (F : (Nat → Nat) → Nat) (p : Nat) (L : Nat → Nat) (x y : Nat) : Nat :=
  if L (s0 p) = 0 ∨ L (s0 p) = x then (if va_up L (s0 p) x (s1 p) = 0 ∨ va_up L (s0 p) x (s1 p) = y then F (va_up (va_up L (s0 p) x) (s1 p) y) else 0) else 0
/-- the search over persons: j persons from p on, L laid down so far -/
def ft_from (wt : Nat → Nat) (K : Nat) (o t s0 s1 : Nat → Nat) : Nat → Nat → (Nat → Nat) → Nat
  | 0, _, L => ft_w wt L K
  | j + 1, p, L =>
    if o p = 0 then ft_from wt K o t s0 s1 j (p + 1) L
    else ft_with s0 s1 (ft_from wt K o t s0 s1 j (p + 1)) p L (o p) (t p) + (if o p = t p then 0 else ft_with s0 s1 (ft_from wt K o t s0 s1 j (p + 1)) p L (t p) (o p))
/-- FIT -/
noncomputable def ft_fit (wt : Nat → Nat) (K : Nat) (o t s0 s1 : Nat → Nat) (n : Nat) : Nat := ft_sum wt K (fun _ => 0) (fun a => ft_c (ft_con o t s0 s1 0 n a))
theorem ft_con_s {o t s0 s1 : Nat → Nat} {p j : Nat} {a : Nat → Nat} : ft_con o t s0 s1 p (j + 1) a ↔ (o p = 0 ∨ (a (s0 p) = o p ∧ a (s1 p) = t p) ∨ (a (s0 p) = t p ∧ a (s1 p) = o p)) ∧ ft_con o t s0 s1 (p + 1) j a := by
  constructor
  · intro h
    exact ⟨h p (Nat.le_refl p) (by omega), fun q h1 h2 => h q (by omega) (by omega)⟩
  · intro h q h1 h2
    by_cases e : q = p
    · subst e; exact h.1
    · exact h.2 q (by omega) (by omega)
theorem ft_from_eq {wt : Nat → Nat} {K : Nat} {o t s0 s1 : Nat → Nat} (hw : wt 1 + wt 2 + wt 3 = 8) : ∀ (j p : Nat) (L : Nat → Nat), (∀ k, k < K → L k ≤ 3) →
    (∀ q, p ≤ q → q < p + j → s0 q < K ∧ s1 q < K ∧ (o q = 0 ∨ (1 ≤ o q ∧ o q ≤ 3 ∧ 1 ≤ t q ∧ t q ≤ 3))) →
    ft_from wt K o t s0 s1 j p L = ft_sum wt K (fun _ => 0) (fun a => ft_c ((∀ k, k < K → L k = 0 ∨ L k = a k) ∧ ft_con o t s0 s1 p j a)) := by
  intro j
  induction j with
  | zero =>
    intro p L hL _
    have h := ft_ext (wt := wt) (K := K) hw hL K (fun _ => 0) (Nat.le_refl K)
    rw [ft_c1 (P := ∀ j, K ≤ j → j < K → L j = 0 ∨ L j = 0) (fun j h1 h2 => by omega), Nat.mul_one] at h
    show ft_w wt L K = _
    rw [← h]
    exact ft_congr K _ (fun a _ _ => ft_cc ⟨fun h1 => ⟨h1, fun q h2 h3 => by omega⟩, fun h1 => h1.1⟩)
  | succ j ih =>
    intro p L hL hq
    obtain ⟨h0, h1, hs⟩ := hq p (Nat.le_refl p) (by omega)
    have hq' : ∀ q, p + 1 ≤ q → q < p + 1 + j → s0 q < K ∧ s1 q < K ∧ (o q = 0 ∨ (1 ≤ o q ∧ o q ≤ 3 ∧ 1 ≤ t q ∧ t q ≤ 3)) := fun q a b => hq q (by omega) (by omega)
    show (if o p = 0 then ft_from wt K o t s0 s1 j (p + 1) L else _) = _
    by_cases ho : o p = 0
    · rw [if_pos ho, ih (p + 1) L hL hq']
      refine ft_congr K _ (fun a _ _ => ft_cc ?_)
      rw [ft_con_s]
      exact ⟨fun h => ⟨h.1, Or.inl ho, h.2⟩, fun h => ⟨h.1, h.2.2⟩⟩
    · rw [if_neg ho]
      have hs := hs.resolve_left ho
      have aux : ∀ x y, 1 ≤ x → x ≤ 3 → 1 ≤ y → y ≤ 3 → ft_with s0 s1 (ft_from wt K o t s0 s1 j (p + 1)) p L x y = ft_sum wt K (fun _ => 0) (fun a => ft_c ((∀ k, k < K → L k = 0 ∨ L k = a k) ∧ (a (s0 p) = x ∧ a (s1 p) = y) ∧ ft_con o t s0 s1 (p + 1) j a)) := by
        intro x y hx1 hx3 hy1 hy3
        unfold ft_with
        by_cases c1 : L (s0 p) = 0 ∨ L (s0 p) = x
        · rw [if_pos c1]
          by_cases c2 : va_up L (s0 p) x (s1 p) = 0 ∨ va_up L (s0 p) x (s1 p) = y
          · rw [if_pos c2, ih (p + 1) _ (fun k hk => ?_) hq']
            · refine ft_congr K _ (fun a _ _ => ft_cc ⟨fun h => ⟨fun k hk => ?_, ⟨?_, ?_⟩, h.2⟩, fun h => ⟨fun k hk => ?_, h.2.2⟩⟩)
              · have h2 := h.1 k hk
                by_cases e1 : k = s1 p
                · subst e1
                  rw [va_up_self] at h2
                  by_cases e0 : s1 p = s0 p
                  · rw [e0, va_up_self] at c2
                    rw [e0] at h2 ⊢
                    omega
                  · rw [va_up_ne _ _ e0] at c2
                    omega
                · rw [va_up_ne _ _ e1] at h2
                  by_cases e0 : k = s0 p
                  · subst e0
                    rw [va_up_self] at h2
                    omega
                  · rw [va_up_ne _ _ e0] at h2
                    exact h2
              · have h2 := h.1 (s0 p) h0
                by_cases e0 : s0 p = s1 p
                · rw [← e0, va_up_self] at h2 c2
                  omega
                · rw [va_up_ne _ _ e0, va_up_self] at h2
                  omega
              · have h2 := h.1 (s1 p) h1
                rw [va_up_self] at h2
                omega
              · obtain ⟨hE, ⟨ha0, ha1⟩, -⟩ := h
                by_cases e1 : k = s1 p
                · subst e1
                  rw [va_up_self]
                  exact Or.inr ha1.symm
                · rw [va_up_ne _ _ e1]
                  by_cases e0 : k = s0 p
                  · subst e0
                    rw [va_up_self]
                    exact Or.inr ha0.symm
                  · rw [va_up_ne _ _ e0]
                    exact hE k hk
            · by_cases e1 : k = s1 p
              · rw [e1, va_up_self]; exact hy3
              · rw [va_up_ne _ _ e1]
                by_cases e0 : k = s0 p
                · rw [e0, va_up_self]; exact hx3
                · rw [va_up_ne _ _ e0]; exact hL k hk
          · rw [if_neg c2]
            refine (ft_zero (wt := wt) K (fun _ => 0)).symm.trans (ft_congr K _ (fun a _ _ => (ft_c0 ?_).symm))
            rintro ⟨hE, ⟨ha0, ha1⟩, -⟩
            apply c2
            by_cases e0 : s1 p = s0 p
            · rw [e0, va_up_self]
              rw [e0] at ha1
              omega
            · rw [va_up_ne _ _ e0]
              have := hE (s1 p) h1
              omega
        · rw [if_neg c1]
          refine (ft_zero (wt := wt) K (fun _ => 0)).symm.trans (ft_congr K _ (fun a _ _ => (ft_c0 ?_).symm))
          rintro ⟨hE, ⟨ha0, ha1⟩, -⟩
          apply c1
          have := hE (s0 p) h0
          omega
      rw [aux (o p) (t p) hs.1 hs.2.1 hs.2.2.1 hs.2.2.2]
      by_cases hot : o p = t p
      · rw [if_pos hot, Nat.add_zero]
        refine ft_congr K _ (fun a _ _ => ft_cc ?_)
        rw [ft_con_s, ← hot]
        exact ⟨fun h => ⟨h.1, Or.inr (Or.inl h.2.1), h.2.2⟩, fun h => ⟨h.1, by rcases h.2.1 with h1 | h1 | h1; exact absurd h1 ho; exact h1; exact h1, h.2.2⟩⟩
      · rw [if_neg hot, aux (t p) (o p) hs.2.2.1 hs.2.2.2 hs.1 hs.2.1, ← ft_add]
        refine ft_congr K _ (fun a _ _ => ?_)
        by_cases hA : ((∀ k, k < K → L k = 0 ∨ L k = a k) ∧ (a (s0 p) = o p ∧ a (s1 p) = t p) ∧ ft_con o t s0 s1 (p + 1) j a)
        · rw [ft_c1 hA, ft_c0 (fun h => hot (by rw [← hA.2.1.1, h.2.1.1])), ft_c1]
          exact ⟨hA.1, ft_con_s.mpr ⟨Or.inr (Or.inl hA.2.1), hA.2.2⟩⟩
        · rw [ft_c0 hA, Nat.zero_add]
          refine ft_cc ⟨fun h => ⟨h.1, ft_con_s.mpr ⟨Or.inr (Or.inr h.2.1), h.2.2⟩⟩, fun h => ?_⟩
          obtain ⟨h1, h2⟩ := h
          obtain ⟨h3, h4⟩ := ft_con_s.mp h2
          rcases h3 with h3 | h3 | h3
          · exact absurd h3 ho
          · exact absurd ⟨h1, h3, h4⟩ hA
          · exact ⟨h1, h3, h4⟩
theorem ft_from_fit {wt : Nat → Nat} {K n : Nat} {o t s0 s1 : Nat → Nat} (hw : wt 1 + wt 2 + wt 3 = 8) (hq : ∀ q, q < n → s0 q < K ∧ s1 q < K ∧ (o q = 0 ∨ (1 ≤ o q ∧ o q ≤ 3 ∧ 1 ≤ t q ∧ t q ≤ 3))) : ft_from wt K o t s0 s1 n 0 (fun _ => 0) = ft_fit wt K o t s0 s1 n := by
  rw [ft_from_eq hw n 0 (fun _ => 0) (fun _ _ => Nat.zero_le _) (fun q _ h => hq q (by omega))]
  exact ft_congr K _ (fun a _ _ => ft_cc ⟨fun h => h.2, fun h => ⟨fun _ _ => Or.inl rfl, h⟩⟩)
/-! .. and by counting through all letters. -/
def ft_dg (n j : Nat) : Nat := 1 + n / 3 ^ j % 3
def ft_p (wt a : Nat → Nat) : Nat → Nat
  | 0 => 1
  | k + 1 => ft_p wt a k * wt (a k)
theorem ft_p_congr {wt a b : Nat → Nat} : ∀ {k : Nat}, (∀ j, j < k → a j = b j) → ft_p wt a k = ft_p wt b k := by
  intro k
  induction k with
  | zero => intro _; rfl
  | succ k ih =>
    intro h
    show ft_p wt a k * wt (a k) = ft_p wt b k * wt (b k)
    rw [ih (fun j hj => h j (by omega)), h k (by omega)]
theorem ft_dg_lo {l k r j : Nat} (hj : j < k) : ft_dg (l * 3 ^ k + r) j = ft_dg r j := by
  obtain ⟨q, rfl⟩ : ∃ q, k = j + 1 + q := ⟨k - (j + 1), by omega⟩
  unfold ft_dg
  have h2 : l * 3 ^ (j + 1 + q) + r = r + (l * 3 ^ q * 3) * 3 ^ j := by
    rw [Nat.pow_add, Nat.pow_add, Nat.pow_one, Nat.add_comm]
    congr 1
    simp only [Nat.mul_comm, Nat.mul_left_comm, Nat.mul_assoc]
  rw [h2, Nat.add_mul_div_right _ _ (Nat.pow_pos (by omega)), Nat.add_mul_mod_self_right]
theorem ft_dg_hi {l k r : Nat} (hr : r < 3 ^ k) (hl : l < 3) : ft_dg (l * 3 ^ k + r) k = 1 + l := by
  unfold ft_dg
  rw [Nat.add_comm (l * 3 ^ k), Nat.add_mul_div_right _ _ (Nat.pow_pos (by omega)), Nat.div_eq_of_lt hr, Nat.zero_add, Nat.mod_eq_of_lt hl]
theorem ft_count {wt : Nat → Nat} {g : (Nat → Nat) → Nat} : ∀ (k : Nat) (a : Nat → Nat), zs_sum (3 ^ k) (fun n => ft_p wt (ft_dg n) k * g (fun j => if j < k then ft_dg n j else a j)) = ft_sum wt k a g := by
  intro k
  induction k with
  | zero =>
    intro a
    show 0 + 1 * g (fun j => if j < 0 then ft_dg 0 j else a j) = g a
    rw [Nat.zero_add, Nat.one_mul]
    congr 1
  | succ k ih =>
    intro a
    have key : ∀ l, l < 3 → zs_sum (3 ^ k) (fun r => ft_p wt (ft_dg (l * 3 ^ k + r)) (k + 1) * g (fun j => if j < k + 1 then ft_dg (l * 3 ^ k + r) j else a j)) = wt (1 + l) * ft_sum wt k (va_up a k (1 + l)) g := by
      intro l hl
      rw [← ih, ← zs_mul]
      refine zs_congr (fun r hr => ?_)
      show ft_p wt (ft_dg (l * 3 ^ k + r)) k * wt (ft_dg (l * 3 ^ k + r) k) * _ = _
      rw [ft_dg_hi hr hl, ft_p_congr (fun j hj => ft_dg_lo (l := l) (r := r) hj)]
      have e : (fun j => if j < k + 1 then ft_dg (l * 3 ^ k + r) j else a j) = (fun j => if j < k then ft_dg r j else va_up a k (1 + l) j) := by
        funext j
        by_cases h1 : j < k
        · rw [if_pos (by omega), if_pos h1, ft_dg_lo h1]
        · rw [if_neg h1]
          by_cases h2 : j = k
          · subst h2
            rw [if_pos (by omega), va_up_self, ft_dg_hi hr hl]
          · rw [if_neg (by omega), va_up_ne a _ h2]
      rw [e, Nat.mul_comm (ft_p wt (ft_dg r) k), Nat.mul_assoc]
    have e3 : 3 ^ (k + 1) = 3 ^ k + 3 ^ k + 3 ^ k := by rw [Nat.pow_succ]; omega
    rw [e3, zs_app, zs_app]
    have h0 := key 0 (by omega)
    have h1 := key 1 (by omega)
    have h2 := key 2 (by omega)
    simp only [Nat.zero_mul, Nat.zero_add, Nat.one_mul, Nat.add_zero] at h0 h1
    have e2 : ∀ r, 3 ^ k + 3 ^ k + r = 2 * 3 ^ k + r := fun r => by omega
    simp only [e2]
    show _ = wt 1 * _ + wt 2 * _ + wt 3 * _
    rw [h0, h1, h2]
theorem ft_count_fit {wt : Nat → Nat} {K n : Nat} {o t s0 s1 : Nat → Nat} (hq : ∀ q, q < n → s0 q < K ∧ s1 q < K) : zs_sum (3 ^ K) (fun i => ft_p wt (ft_dg i) K * ft_c (ft_con o t s0 s1 0 n (ft_dg i))) = ft_fit wt K o t s0 s1 n := by
  unfold ft_fit
  rw [← ft_count]
  refine zs_congr (fun i _ => ?_)
  congr 1
  refine ft_cc ⟨fun h q h1 h2 => ?_, fun h q h1 h2 => ?_⟩
  · have := hq q (by omega)
    show o q = 0 ∨ ((if s0 q < K then ft_dg i (s0 q) else 0) = o q ∧ (if s1 q < K then ft_dg i (s1 q) else 0) = t q) ∨ ((if s0 q < K then ft_dg i (s0 q) else 0) = t q ∧ (if s1 q < K then ft_dg i (s1 q) else 0) = o q)
    rw [if_pos this.1, if_pos this.2]
    exact h q h1 h2
  · have := hq q (by omega)
    have h3 : o q = 0 ∨ ((if s0 q < K then ft_dg i (s0 q) else 0) = o q ∧ (if s1 q < K then ft_dg i (s1 q) else 0) = t q) ∨ ((if s0 q < K then ft_dg i (s0 q) else 0) = t q ∧ (if s1 q < K then ft_dg i (s1 q) else 0) = o q) := h q h1 h2
    rwa [if_pos this.1, if_pos this.2] at h3
