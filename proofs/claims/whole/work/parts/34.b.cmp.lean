/-! Branches on what a comparison answers. -/
section MF
variable {p : Program} {l : Launch} {e : Env} {R : Room} {s : State} {m : MethodId} {args : Array Value} {below : List Frame} {meth : Method} {c : Code} {H : Heap} {locs : List Loc} {cells slots : Nat} {Q : State → Prop}
variable {cc : ByteArray} {nL pc : Nat} {own : String} {ls : Array Slot} {rest : List Value}
theorem mg_cmp_pos {a b : Nat} : 0 < nI (mg_cmp a b) ↔ b < a := by
  unfold mg_cmp
  by_cases h : a < b
  · rw [if_pos h]
    exact ⟨fun q => absurd q (by decide +kernel), fun q => by omega⟩
  · rw [if_neg h]
    by_cases h2 : a = b
    · rw [if_pos h2]
      exact ⟨fun q => absurd q (by decide +kernel), fun q => by omega⟩
    · rw [if_neg h2]
      exact ⟨fun _ => by omega, fun _ => by decide +kernel⟩
theorem mg_cif_gt (X : CallFix p m c cc nL s args mg_T own) (tgt pc' : Nat) {a b : Nat} {off : Int} (hdg : decode cc pc = .ok (.ifCond .gt off, 3)) (ht : (pc : Int) + off = (tgt : Int)) (hq : pc + 3 = pc') (kt : b < a → W p l e R s m args below meth c H locs cells slots Q (F0 m tgt ls rest)) (kf : a ≤ b → W p l e R s m args below meth c H locs cells slots Q (F0 m pc' ls rest)) : W p l e R s m args below meth c H locs cells slots Q (F0 m pc ls (.int (nI (mg_cmp a b)) :: rest)) := by
  subst hq
  exact lv_if_gt X.1 X.2.1 hdg ht (fun h => kt (mg_cmp_pos.mp h)) (fun h => kf (Nat.not_lt.mp (fun q => h (mg_cmp_pos.mpr q))))
theorem mg_cif_le (X : CallFix p m c cc nL s args mg_T own) (tgt pc' : Nat) {a b : Nat} {off : Int} (hdg : decode cc pc = .ok (.ifCond .le off, 3)) (ht : (pc : Int) + off = (tgt : Int)) (hq : pc + 3 = pc') (kt : a ≤ b → W p l e R s m args below meth c H locs cells slots Q (F0 m tgt ls rest)) (kf : b < a → W p l e R s m args below meth c H locs cells slots Q (F0 m pc' ls rest)) : W p l e R s m args below meth c H locs cells slots Q (F0 m pc ls (.int (nI (mg_cmp a b)) :: rest)) := by
  subst hq
  exact lv_if_le X.1 X.2.1 hdg ht (fun h => kt (Nat.not_lt.mp (fun q => absurd (mg_cmp_pos.mpr q) (Int32.not_lt.mpr h)))) (fun h => kf (mg_cmp_pos.mp (Int32.not_le.mp h)))
end MF
/-- the answer of a quotient, NONE where the whole is 0 -/
def su_quot (a n b : Nat) : Nat := if b = 0 then 4294967295 else a * n / b
/-- the first place of the greatest of f 0 .. f (n - 1) -/
def su_am (f : Nat → Nat) : Nat → Nat
  | 0 => 0
  | n + 1 => if f (su_am f n) < f n then n else su_am f n
theorem su_am_lt {f : Nat → Nat} : ∀ {n : Nat}, 0 < n → su_am f n < n := by
  intro n
  induction n with
  | zero => intro h; omega
  | succ n ih =>
    intro _
    show (if f (su_am f n) < f n then n else su_am f n) < n + 1
    by_cases h : f (su_am f n) < f n
    · rw [if_pos h]; omega
    · rw [if_neg h]
      rcases Nat.eq_zero_or_pos n with h2 | h2
      · subst h2; show 0 < 1; omega
      · have := ih h2; omega
theorem su_am1 (f : Nat → Nat) : su_am f 1 = 0 := by
  show (if f 0 < f 0 then 0 else 0) = 0
  rw [if_neg (Nat.lt_irrefl _)]
theorem su_amy {f : Nat → Nat} {n : Nat} (h : f (su_am f n) < f n) : su_am f (n + 1) = n := if_pos h
theorem su_amn {f : Nat → Nat} {n : Nat} (h : f n ≤ f (su_am f n)) : su_am f (n + 1) = su_am f n := if_neg (by omega)
theorem su_am_congr {f g : Nat → Nat} : ∀ n, (∀ i, i < n → f i = g i) → su_am f n = su_am g n := by
  intro n
  induction n with
  | zero => intro _; rfl
  | succ n ih =>
    intro h
    have e := ih (fun i hi => h i (by omega))
    show (if f (su_am f n) < f n then n else su_am f n) = (if g (su_am g n) < g n then n else su_am g n)
    rw [e, h n (by omega)]
    rcases Nat.eq_zero_or_pos n with h2 | h2
    · subst h2
      rw [show su_am g 0 = 0 from rfl, h 0 (by omega)]
    · rw [h (su_am g n) (Nat.lt_trans (su_am_lt h2) (by omega))]
/-- sums over those that are picked -/
noncomputable def su_pick (P : Nat → Prop) (V : Nat → Nat) (n : Nat) : Nat := zs_sum n (fun w => ft_c (P w) * V w)
theorem su_pick_le (P : Nat → Prop) (V : Nat → Nat) (n : Nat) : su_pick P V n ≤ zs_sum n V := zs_le (fun i _ => by
  by_cases h : P i
  · rw [ft_c1 h, Nat.one_mul]; exact Nat.le_refl _
  · rw [ft_c0 h, Nat.zero_mul]; exact Nat.zero_le _)
theorem su_picky {P : Nat → Prop} {V : Nat → Nat} {n : Nat} (h : P n) : su_pick P V (n + 1) = su_pick P V n + V n := by
  show su_pick P V n + ft_c (P n) * V n = _
  rw [ft_c1 h, Nat.one_mul]
theorem su_pickn {P : Nat → Prop} {V : Nat → Nat} {n : Nat} (h : ¬ P n) : su_pick P V (n + 1) = su_pick P V n := by
  show su_pick P V n + ft_c (P n) * V n = _
  rw [ft_c0 h, Nat.zero_mul, Nat.add_zero]
