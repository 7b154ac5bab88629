set_option maxRecDepth 100000 in
theorem ex_IS : mg_EX R_LM 57 59 xIS := ⟨by decide, mg_in 234 (by decide +kernel) (by decide +kernel), mg_in 44 (by decide +kernel) (by decide +kernel), mg_inL [41, 256, 265, 269, 272, 274, 257, 258, 53, 54, 259, 264, 270, 286, 246, 287, 248, 288, 250, 260, 262, 252, 276, 277, 278, 279, 237, 279, 280, 281, 282, 239, 282, 283, 284, 257, 241, 275, 235, 236, 243, 244, 245, 247, 249, 251, 255, 254, 253] (by decide +kernel) (by decide +kernel)⟩
set_option maxRecDepth 100000 in
theorem ex_IO : mg_EX R_LM 71 73 xIO := ⟨by decide, mg_in 356 (by decide +kernel) (by decide +kernel), mg_in 45 (by decide +kernel) (by decide +kernel), mg_inL [41, 256, 265, 269, 272, 274, 257, 258, 53, 54, 259, 264, 270, 286, 246, 287, 248, 288, 250, 260, 262, 252, 366, 367, 368, 279, 237, 279, 280, 281, 282, 239, 282, 283, 284, 257, 241, 365, 357, 358, 359, 268, 360, 361, 362, 363, 255, 254, 364] (by decide +kernel) (by decide +kernel)⟩
set_option maxRecDepth 100000 in
theorem ex_IA : mg_EX R_LM 85 87 xIA := ⟨by decide, mg_in 389 (by decide +kernel) (by decide +kernel), mg_in 46 (by decide +kernel) (by decide +kernel), mg_inL [41, 256, 265, 269, 272, 274, 257, 258, 53, 54, 259, 264, 270, 286, 246, 287, 248, 288, 250, 260, 262, 252, 399, 400, 401, 279, 237, 279, 280, 281, 282, 239, 282, 283, 284, 257, 241, 398, 390, 391, 392, 267, 393, 394, 395, 396, 255, 254, 397] (by decide +kernel) (by decide +kernel)⟩
section MT
variable {p : Program} {l : Launch} {e : Env} {R : Room} {s : State} {m : MethodId} {args : Array Value} {below : List Frame} {meth : Method} {c : Code} {H : Heap} {locs : List Loc} {cells slots : Nat} {Q : State → Prop}
variable {cc : ByteArray} {nL pc k tt index : Nat} {own : String} {ls : Array Slot} {rest : List Value} {D : va_G} {A : Nat → Prop} {ws : va_W}
theorem mg_gets (X : CallFix p m c cc nL s args mg_T own) (hw : mg_H D A s.heap H locs ws) (hZ : va_Z R_Am "TENS" "[I" (.ref tt) A s s.heap) (pc' : Nat) (hl : Cond.fieldLink own index R_Am "TENS" "[I" ∈ mg_T) (hdg : decode cc pc = .ok (.getstatic index, 3)) (hq : pc + 3 = pc')
    (kk : W p l e R s m args below meth c H locs cells slots Q (F0 m pc' ls (.ref tt :: rest))) : W p l e R s m args below meth c H locs cells slots Q (F0 m pc ls rest) := by
  subst hq
  exact va_gets X.1 X.2.1 hZ hw.2.2 X.2.2.2.1 (X.2.2.2.2 _ hl) (fun _ h => h) hdg kk
theorem mg_tens (X : CallFix p m c cc nL s args mg_T own) (hw : mg_H D A s.heap H locs ws) (hT : va_T .int tt 9 (fun j => .int (nI (10 ^ j))) A s s.heap) (pc' : Nat) (hk : k < 9) (hdg : decode cc pc = .ok (.iaload, 1)) (hq : pc + 1 = pc')
    (kk : W p l e R s m args below meth c H locs cells slots Q (F0 m pc' ls (.int (nI (10 ^ k)) :: rest))) : W p l e R s m args below meth c H locs cells slots Q (F0 m pc ls (.int (nI k) :: .ref tt :: rest)) := by
  subst hq
  refine va_ti X.1 X.2.1 hT hw.2.2 (vp_in_nI hk (by decide)) (v := .int (nI (10 ^ k))) ?_ hdg kk
  rw [nI_clamp (by omega)]
end MT
/-- the digits of a number in a row of places of nine digits -/
theorem wr_mod {x r : Nat} (hr : r < 9) : x % 1000000000 / 10 ^ r % 10 = x / 10 ^ r % 10 := by
  rcases (show r = 0 ∨ r = 1 ∨ r = 2 ∨ r = 3 ∨ r = 4 ∨ r = 5 ∨ r = 6 ∨ r = 7 ∨ r = 8 by omega) with h | h | h | h | h | h | h | h | h <;> subst h <;> omega
theorem wr_dg {n i k : Nat} {d V : Nat → Nat} (hR : am_R n d V) (hi : i < n) (hk : k < 54) : d (i * 6 + k / 9) / 10 ^ (k % 9) % 10 = V i / 10 ^ k % 10 := by
  have h1 := nb_at (B := 1000000000) (d := d) (s := i * 6) (k := 6) (i := k / 9) (fun j hj => hR.1 _ (by omega)) (by omega)
  have h2 : nb_val 1000000000 d (i * 6) 6 = V i := hR.2 i hi
  rw [h2] at h1
  rw [← h1, wr_mod (Nat.mod_lt _ (by decide)), Nat.div_div_eq_div_mul, show (1000000000 : Nat) = 10 ^ 9 from rfl, ← Nat.pow_mul, ← Nat.pow_add, show 9 * (k / 9) + k % 9 = k by omega]
/-- k1 places are still to be looked at, n digits written -/
def wr_I (V k1 n : Nat) (pg : Nat → Nat) : Prop := ((n = 0 ∧ V / 10 ^ k1 = 0 ∧ 0 < k1) ∨ (1 ≤ n ∧ V < 10 ^ (k1 + n) ∧ (k1 + n ≤ 1 ∨ 10 ^ (k1 + n - 1) ≤ V))) ∧ (∀ j, j < n → pg j = de_d V (k1 + n - 1 - j)) ∧ k1 + n ≤ 54
theorem wr_0 {V : Nat} {pg : Nat → Nat} (h : V < 10 ^ 54) : wr_I V 54 0 pg := ⟨Or.inl ⟨rfl, Nat.div_eq_of_lt h, by decide⟩, fun j hj => by omega, by decide⟩
theorem wr_div (V k : Nat) : V / 10 ^ k = 10 * (V / 10 ^ (k + 1)) + V / 10 ^ k % 10 := by
  rw [← de_div]; omega
/-- a digit is written -/
theorem wr_y {V k n x : Nat} {pg : Nat → Nat} (h : wr_I V (k + 1) n pg) (hx : x = V / 10 ^ k % 10) (hc : x ≠ 0 ∨ 0 < n ∨ k = 0) : wr_I V k (n + 1) (va_up pg n (48 + x)) := by
  have hd := wr_div V k
  have hp : 0 < 10 ^ k := Nat.pow_pos (by decide)
  refine ⟨Or.inr ⟨by omega, ?_, ?_⟩, fun j hj => ?_, by have := h.2.2; omega⟩
  · rcases h.1 with ⟨h1, h2, h3⟩ | ⟨h1, h2, h3⟩
    · subst h1
      rw [h2] at hd
      rw [Nat.pow_succ]
      have := Nat.mod_lt (V / 10 ^ k) (show 0 < 10 by decide)
      have h5 := (Nat.div_lt_iff_lt_mul hp).mp (show V / 10 ^ k < 10 by omega)
      show V < 10 ^ k * 10
      omega
    · rw [show k + (n + 1) = k + 1 + n by omega]; exact h2
  · rcases h.1 with ⟨h1, h2, h3⟩ | ⟨h1, h2, h3⟩
    · subst h1
      by_cases hk : k = 0
      · left; omega
      · right
        rw [h2] at hd
        rw [show k + (0 + 1) - 1 = k by omega]
        have h4 : V / 10 ^ k ≠ 0 := by omega
        exact Nat.not_lt.mp (fun q => h4 (Nat.div_eq_of_lt q))
    · right
      rw [show k + (n + 1) - 1 = k + 1 + n - 1 by omega]
      rcases h3 with h3 | h3
      · omega
      · exact h3
  · by_cases e : j = n
    · rw [e, va_up_self, hx, show k + (n + 1) - 1 - n = k by omega]; rfl
    · rw [va_up_ne _ _ e, h.2.1 j (by omega), show k + 1 + n - 1 - j = k + (n + 1) - 1 - j by omega]
/-- a leading zero is passed over -/
theorem wr_n {V k n x : Nat} {pg : Nat → Nat} (h : wr_I V (k + 1) n pg) (hx : x = V / 10 ^ k % 10) (h0 : x = 0) (hn : n = 0) (hk : k ≠ 0) : wr_I V k n pg := by
  have hd := wr_div V k
  subst hn
  refine ⟨Or.inl ⟨rfl, ?_, by omega⟩, fun j hj => by omega, by have := h.2.2; omega⟩
  rcases h.1 with ⟨h1, h2, h3⟩ | ⟨h1, h2, h3⟩
  · rw [h2] at hd; omega
  · omega
theorem wr_F {V n : Nat} {pg : Nat → Nat} (h : wr_I V 0 n pg) : de_ok V n ∧ n ≤ 54 ∧ ∀ i, i < n → pg i = de_d V (n - 1 - i) := by
  rcases h.1 with ⟨h1, h2, h3⟩ | ⟨h1, h2, h3⟩
  · omega
  · rw [Nat.zero_add] at h2 h3
    refine ⟨⟨h1, h2, h3⟩, by have := h.2.2; omega, fun i hi => ?_⟩
    rw [h.2.1 i hi, Nat.zero_add]
