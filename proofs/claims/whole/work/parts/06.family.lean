/-! One bit of a gap, way by way: the row of numbers as the loop changes it. -/
def cg_lo (b j : Nat) : Nat := if j.testBit b = true then j ^^^ 2 ^ b else j
def cg_I (r b B w : Nat) (V0 V : Nat → Nat) : Prop := ∀ j, j < 2 ^ B → V j = if cg_lo b j < w then jn_bp r b V0 j else V0 j
theorem cg_lo_bit (b j : Nat) : (cg_lo b j).testBit b = false := by
  unfold cg_lo
  by_cases h : j.testBit b = true
  · rw [if_pos h, Nat.testBit_xor, Nat.testBit_two_pow_self, h]; rfl
  · rw [if_neg h]; simpa using h
theorem cg_lo_cases (b j : Nat) : j = cg_lo b j ∨ j = cg_lo b j ^^^ 2 ^ b := by
  unfold cg_lo
  by_cases h : j.testBit b = true
  · rw [if_pos h, Nat.xor_assoc, Nat.xor_self, Nat.xor_zero]; exact Or.inr rfl
  · rw [if_neg h]; exact Or.inl rfl
theorem cg_lo_self {b w : Nat} (h : w.testBit b = false) : cg_lo b w = w := by
  unfold cg_lo
  rw [if_neg (by rw [h]; decide)]
theorem cg_lo_up {b w : Nat} (h : w.testBit b = false) : cg_lo b (w ^^^ 2 ^ b) = w := by
  unfold cg_lo
  rw [if_pos (by rw [Nat.testBit_xor, Nat.testBit_two_pow_self, h]; rfl), Nat.xor_assoc, Nat.xor_self, Nat.xor_zero]
theorem cg_lo_lt {b B j : Nat} (hb : b < B) (hj : j < 2 ^ B) : cg_lo b j < 2 ^ B := by
  unfold cg_lo
  by_cases h : j.testBit b = true
  · rw [if_pos h]
    exact Nat.xor_lt_two_pow hj (Nat.pow_lt_pow_right (by omega) hb)
  · rw [if_neg h]; exact hj
theorem cg_up_ne {b w : Nat} : w ≠ w ^^^ 2 ^ b := fun h => by
  have h1 : w ^^^ w = w ^^^ (w ^^^ 2 ^ b) := congrArg (fun z => w ^^^ z) h
  rw [Nat.xor_self, zx_inv] at h1
  have := Nat.pow_pos (n := b) (show 0 < 2 by decide)
  omega
theorem cg_0 (r b B : Nat) (V : Nat → Nat) : cg_I r b B 0 V V := fun j _ => by rw [if_neg (Nat.not_lt_zero _)]
theorem cg_skip {r b B w : Nat} {V0 V : Nat → Nat} (h : cg_I r b B w V0 V) (hw : w.testBit b = true) : cg_I r b B (w + 1) V0 V := fun j hj => by
  rw [h j hj]
  have h1 : cg_lo b j ≠ w := fun e => by
    have := cg_lo_bit b j
    rw [e, hw] at this
    cases this
  by_cases h2 : cg_lo b j < w
  · rw [if_pos h2, if_pos (by omega)]
  · rw [if_neg h2, if_neg (by omega)]
theorem cg_step {r b B w : Nat} {V0 V : Nat → Nat} (h : cg_I r b B w V0 V) (hb : b < B) (hw : w < 2 ^ B) (hbit : w.testBit b = false) :
    cg_I r b B (w + 1) V0 (va_up (va_up V w ((16 - r) * V w + r * V (w ^^^ 2 ^ b))) (w ^^^ 2 ^ b) (r * V w + (16 - r) * V (w ^^^ 2 ^ b))) := by
  have hw2 : w ^^^ 2 ^ b < 2 ^ B := Nat.xor_lt_two_pow hw (Nat.pow_lt_pow_right (by omega) hb)
  have v1 : V w = V0 w := by rw [h w hw, if_neg (by rw [cg_lo_self hbit]; omega)]
  have v2 : V (w ^^^ 2 ^ b) = V0 (w ^^^ 2 ^ b) := by rw [h _ hw2, if_neg (by rw [cg_lo_up hbit]; omega)]
  intro j hj
  by_cases e2 : j = w ^^^ 2 ^ b
  · subst e2
    rw [va_up_self, if_pos (by rw [cg_lo_up hbit]; omega), v1, v2]
    unfold jn_bp
    rw [Nat.xor_assoc, Nat.xor_self, Nat.xor_zero]; omega
  · rw [va_up_ne _ _ e2]
    by_cases e1 : j = w
    · subst e1
      rw [va_up_self, if_pos (by rw [cg_lo_self hbit]; omega), v1, v2]
      rfl
    · rw [va_up_ne _ _ e1, h j hj]
      have h1 : cg_lo b j ≠ w := fun e => by
        rcases cg_lo_cases b j with q | q
        · exact e1 (q.trans e)
        · exact e2 (by rw [← e]; exact q)
      by_cases h2 : cg_lo b j < w
      · rw [if_pos h2, if_pos (by omega)]
      · rw [if_neg h2, if_neg (by omega)]
theorem cg_end {r b B : Nat} {V0 V : Nat → Nat} (h : cg_I r b B (2 ^ B) V0 V) (hb : b < B) : ∀ j, j < 2 ^ B → V j = jn_bp r b V0 j := fun j hj => by
  rw [h j hj, if_pos (cg_lo_lt hb hj)]
/-- all bits below b passed -/
theorem cg_bits {r b B : Nat} {V V1 V0 : Nat → Nat} (hb : b < B) (h : ∀ j, j < 2 ^ B → V j = jn_ps r b V0 j) (h1 : ∀ j, j < 2 ^ B → V1 j = jn_bp r b V j) : ∀ j, j < 2 ^ B → V1 j = jn_ps r (b + 1) V0 j := fun j hj => by
  rw [h1 j hj]
  show (16 - r) * V j + r * V (j ^^^ 2 ^ b) = (16 - r) * jn_ps r b V0 j + r * jn_ps r b V0 (j ^^^ 2 ^ b)
  rw [h j hj, h _ (Nat.xor_lt_two_pow hj (Nat.pow_lt_pow_right (by omega) hb))]
theorem cg_ps_le {r M : Nat} (hr : r ≤ 16) {B : Nat} {V0 : Nat → Nat} (h : ∀ j, j < 2 ^ B → V0 j ≤ M) : ∀ b, b ≤ B → ∀ j, j < 2 ^ B → jn_ps r b V0 j ≤ M * 16 ^ b := by
  intro b
  induction b with
  | zero => intro _ j hj; show V0 j ≤ M * 1; rw [Nat.mul_one]; exact h j hj
  | succ b ih =>
    intro hb j hj
    have h1 := ih (by omega) j hj
    have h2 := ih (by omega) (j ^^^ 2 ^ b) (Nat.xor_lt_two_pow hj (Nat.pow_lt_pow_right (by omega) hb))
    show (16 - r) * jn_ps r b V0 j + r * jn_ps r b V0 (j ^^^ 2 ^ b) ≤ M * 16 ^ (b + 1)
    have a1 := Nat.mul_le_mul_left (16 - r) h1
    have a2 := Nat.mul_le_mul_left r h2
    have a3 : (16 - r) * (M * 16 ^ b) + r * (M * 16 ^ b) = M * 16 ^ (b + 1) := by
      rw [← Nat.add_mul, Nat.sub_add_cancel hr, Nat.pow_succ, Nat.mul_comm 16, Nat.mul_assoc]
    omega
/-- what a way holds while the bit b is passed -/
theorem cg_I_le {r b B w M : Nat} (hr : r ≤ 16) (hb : b < B) {V0 V : Nat → Nat} (h : cg_I r b B w V0 V) (hV : ∀ j, j < 2 ^ B → V0 j ≤ M) : ∀ j, j < 2 ^ B → V j ≤ 16 * M := fun j hj => by
  rw [h j hj]
  have h1 := hV j hj
  by_cases c : cg_lo b j < w
  · rw [if_pos c]
    have h2 := hV (j ^^^ 2 ^ b) (Nat.xor_lt_two_pow hj (Nat.pow_lt_pow_right (by omega) hb))
    have a1 := Nat.mul_le_mul_left (16 - r) h1
    have a2 := Nat.mul_le_mul_left r h2
    have a3 : (16 - r) * M + r * M = 16 * M := by rw [← Nat.add_mul, Nat.sub_add_cancel hr]
    show (16 - r) * V0 j + r * V0 (j ^^^ 2 ^ b) ≤ 16 * M
    omega
  · rw [if_neg c]; omega
/-! The family: whose copy a copy is. 4294967295 stands for NONE. -/
def fm_src (fa mo rk : Nat → Nat) (w : Nat) : Nat → Nat → Nat → Nat
  | 0, p, c => 2 * rk p + c
  | k + 1, p, c => if fa p = 4294967295 then 2 * rk p + c else fm_src fa mo rk w k (if c = 0 then fa p else mo p) (w / 2 ^ (2 * rk p + c) % 2)
def fm_ok (nf nc : Nat) (fa mo rk : Nat → Nat) : Prop := nf ≤ 3 ∧ nc ≤ 3 ∧ ∀ p, p < nf + nc → (fa p = 4294967295 ∧ rk p < nf) ∨ (fa p < p ∧ mo p < p ∧ rk p < nc ∧ ∀ q, q < p → fa q ≠ 4294967295 → rk q < rk p)
theorem fm_end {fa mo rk : Nat → Nat} {w k p c : Nat} (h : fa p = 4294967295) : fm_src fa mo rk w k p c = 2 * rk p + c := by
  cases k with
  | zero => rfl
  | succ k => show (if fa p = 4294967295 then _ else _) = _; rw [if_pos h]
theorem fm_step {fa mo rk : Nat → Nat} {w k p c : Nat} (h : fa p ≠ 4294967295) : fm_src fa mo rk w (k + 1) p c = fm_src fa mo rk w k (if c = 0 then fa p else mo p) (w / 2 ^ (2 * rk p + c) % 2) := by
  show (if fa p = 4294967295 then _ else _) = _
  rw [if_neg h]
theorem fm_par {nf nc : Nat} {fa mo rk : Nat → Nat} (h : fm_ok nf nc fa mo rk) {p c : Nat} (hp : p < nf + nc) (hc : fa p ≠ 4294967295) : (if c = 0 then fa p else mo p) < p ∧ rk p < nc ∧ (fa (if c = 0 then fa p else mo p) = 4294967295 ∨ rk (if c = 0 then fa p else mo p) < rk p) := by
  rcases h.2.2 p hp with h1 | ⟨h1, h2, h3, h4⟩
  · exact absurd h1.1 hc
  · have hq : (if c = 0 then fa p else mo p) < p := by by_cases e : c = 0 <;> simp only [e, if_true, if_false] <;> omega
    refine ⟨hq, h3, ?_⟩
    by_cases hf : fa (if c = 0 then fa p else mo p) = 4294967295
    · exact Or.inl hf
    · exact Or.inr (h4 _ hq hf)
theorem fm_lt {nf nc : Nat} {fa mo rk : Nat → Nat} (h : fm_ok nf nc fa mo rk) (w : Nat) : ∀ (k p c : Nat), p < nf + nc → c < 2 → (fa p = 4294967295 ∨ rk p < k) → fm_src fa mo rk w k p c < 2 * nf := by
  have hb1 := h.1
  have hb2 := h.2.1
  intro k
  induction k with
  | zero =>
    intro p c hp hc hk
    have hf : fa p = 4294967295 := by omega
    rw [fm_end hf]
    rcases h.2.2 p hp with h1 | h1
    · omega
    · omega
  | succ k ih =>
    intro p c hp hc hk
    by_cases hf : fa p = 4294967295
    · rw [fm_end hf]
      rcases h.2.2 p hp with h1 | h1
      · omega
      · omega
    · rw [fm_step hf]
      obtain ⟨q1, q2, q3⟩ := fm_par h (c := c) hp hf
      exact ih _ _ (by omega) (Nat.mod_lt _ (by decide)) (by omega)
theorem fm_more {nf nc : Nat} {fa mo rk : Nat → Nat} (h : fm_ok nf nc fa mo rk) (w : Nat) : ∀ (k p c : Nat), p < nf + nc → (fa p = 4294967295 ∨ rk p < k) → fm_src fa mo rk w (k + 1) p c = fm_src fa mo rk w k p c := by
  intro k
  induction k with
  | zero =>
    intro p c hp hk
    have hf : fa p = 4294967295 := by omega
    rw [fm_end hf, fm_end hf]
  | succ k ih =>
    intro p c hp hk
    by_cases hf : fa p = 4294967295
    · rw [fm_end hf, fm_end hf]
    · rw [fm_step hf, fm_step hf]
      obtain ⟨q1, q2, q3⟩ := fm_par h (c := c) hp hf
      exact ih _ _ (by omega) (by omega)
theorem fm_all {nf nc : Nat} {fa mo rk : Nat → Nat} (h : fm_ok nf nc fa mo rk) {p : Nat} (hp : p < nf + nc) : fa p = 4294967295 ∨ rk p < 3 := by
  rcases h.2.2 p hp with h1 | h1
  · exact Or.inl h1.1
  · have := h.2.1; exact Or.inr (by omega)
theorem fm_lt3 {nf nc : Nat} {fa mo rk : Nat → Nat} (h : fm_ok nf nc fa mo rk) (w : Nat) {p c : Nat} (hp : p < nf + nc) (hc : c < 2) : fm_src fa mo rk w 3 p c < 2 * nf := fm_lt h w 3 p c hp hc (fm_all h hp)
/-- one step up, to a source that isn't cut short -/
theorem fm_up {nf nc : Nat} {fa mo rk : Nat → Nat} (h : fm_ok nf nc fa mo rk) (w : Nat) {p c : Nat} (hp : p < nf + nc) (hf : fa p ≠ 4294967295) : fm_src fa mo rk w 3 p c = fm_src fa mo rk w 3 (if c = 0 then fa p else mo p) (w / 2 ^ (2 * rk p + c) % 2) := by
  obtain ⟨q1, q2, q3⟩ := fm_par h (c := c) hp hf
  have := h.2.1
  rw [fm_step hf, fm_more h w 2 _ _ (by omega) (by omega)]
theorem fm_rk {nf nc : Nat} {fa mo rk : Nat → Nat} (h : fm_ok nf nc fa mo rk) {p : Nat} (hp : p < nf + nc) : rk p < 3 := by
  have h1 := h.1
  have h2 := h.2.1
  rcases h.2.2 p hp with h3 | h3 <;> omega
theorem fm_fa {nf nc : Nat} {fa mo rk : Nat → Nat} (h : fm_ok nf nc fa mo rk) {p : Nat} (hp : p < nf + nc) : fa p = 4294967295 ∨ fa p < 6 := by
  have h1 := h.1
  have h2 := h.2.1
  rcases h.2.2 p hp with h3 | h3 <;> omega
/-- a founder more, a child more -/
theorem fm_founder {nf nc : Nat} {fa mo rk : Nat → Nat} (h : fm_ok nf nc fa mo rk) (hn : nf < 3) (x : Nat) : fm_ok (nf + 1) nc (va_up fa (nf + nc) 4294967295) (va_up mo (nf + nc) x) (va_up rk (nf + nc) nf) := by
  refine ⟨by omega, h.2.1, fun p hp => ?_⟩
  by_cases e : p = nf + nc
  · subst e
    rw [va_up_self, va_up_self]
    exact Or.inl ⟨rfl, by omega⟩
  · rw [va_up_ne _ _ e, va_up_ne _ _ e, va_up_ne _ _ e]
    rcases h.2.2 p (by omega) with h1 | ⟨h1, h2, h3, h4⟩
    · exact Or.inl ⟨h1.1, by omega⟩
    · refine Or.inr ⟨h1, h2, h3, fun q hq => ?_⟩
      rw [va_up_ne _ _ (by omega), va_up_ne _ _ (by omega)]
      exact h4 q hq
theorem fm_child {nf nc : Nat} {fa mo rk : Nat → Nat} (h : fm_ok nf nc fa mo rk) (hn : nc < 3) {x y : Nat} (hx : x < nf + nc) (hy : y < nf + nc) : fm_ok nf (nc + 1) (va_up fa (nf + nc) x) (va_up mo (nf + nc) y) (va_up rk (nf + nc) nc) := by
  refine ⟨h.1, by omega, fun p hp => ?_⟩
  by_cases e : p = nf + nc
  · subst e
    rw [va_up_self, va_up_self, va_up_self]
    refine Or.inr ⟨hx, hy, by omega, fun q hq hf => ?_⟩
    rw [va_up_ne _ _ (by omega)] at hf ⊢
    rcases h.2.2 q (by omega) with h1 | h1
    · exact absurd h1.1 hf
    · exact h1.2.2.1
  · rw [va_up_ne _ _ e, va_up_ne _ _ e, va_up_ne _ _ e]
    rcases h.2.2 p (by omega) with h1 | ⟨h1, h2, h3, h4⟩
    · exact Or.inl h1
    · refine Or.inr ⟨h1, h2, by omega, fun q hq => ?_⟩
      rw [va_up_ne _ _ (by omega), va_up_ne _ _ (by omega)]
      exact h4 q hq
theorem mg_ways {nc : Nat} (h : nc ≤ 3) : 2 ^ (2 * nc) ≤ 64 := by
  rcases (show nc = 0 ∨ nc = 1 ∨ nc = 2 ∨ nc = 3 by omega) with h | h | h | h <;> subst h <;> decide
theorem fm_bk0 {fa mo rk : Nat → Nat} {w k p c r : Nat} (hI : fm_src fa mo rk w (3 - k) p c = r) (hk : k < 3) (hf : fa p ≠ 4294967295) (hc : c = 0) : fm_src fa mo rk w (3 - (k + 1)) (fa p) (w / 2 ^ (2 * rk p + c) % 2) = r := by
  rw [← hI, show 3 - k = (3 - (k + 1)) + 1 by omega, fm_step hf, if_pos hc]
theorem fm_bk1 {fa mo rk : Nat → Nat} {w k p c r : Nat} (hI : fm_src fa mo rk w (3 - k) p c = r) (hk : k < 3) (hf : fa p ≠ 4294967295) (hc : c ≠ 0) : fm_src fa mo rk w (3 - (k + 1)) (mo p) (w / 2 ^ (2 * rk p + c) % 2) = r := by
  rw [← hI, show 3 - k = (3 - (k + 1)) + 1 by omega, fm_step hf, if_neg hc]
theorem fm_lo0 {nf nc : Nat} {fa mo rk : Nat → Nat} (h : fm_ok nf nc fa mo rk) {p : Nat} (hp : p < nf + nc) (hf : fa p ≠ 4294967295) : fa p < nf + nc := by
  rcases h.2.2 p hp with h1 | h1 <;> omega
theorem fm_lo1 {nf nc : Nat} {fa mo rk : Nat → Nat} (h : fm_ok nf nc fa mo rk) {p : Nat} (hp : p < nf + nc) (hf : fa p ≠ 4294967295) : mo p < nf + nc := by
  rcases h.2.2 p hp with h1 | h1 <;> omega
theorem fm_fin {fa mo rk : Nat → Nat} {w k p c : Nat} (h : 3 ≤ k ∨ fa p = 4294967295) : fm_src fa mo rk w (3 - k) p c = 2 * rk p + c := by
  rcases h with h | h
  · rw [show 3 - k = 0 by omega]; rfl
  · exact fm_end h
/-- two persons share a founder's copy -/
def fm_shr (fa mo rk : Nat → Nat) (a b w : Nat) : Prop := fm_src fa mo rk w 3 a 0 = fm_src fa mo rk w 3 b 0 ∨ fm_src fa mo rk w 3 a 0 = fm_src fa mo rk w 3 b 1 ∨ fm_src fa mo rk w 3 a 1 = fm_src fa mo rk w 3 b 0 ∨ fm_src fa mo rk w 3 a 1 = fm_src fa mo rk w 3 b 1
