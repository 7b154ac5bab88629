/-! The class's own state: weights that are put, sightings that are put or dropped. -/
theorem ma_new1 {wt : Nat → Nat} {n a b c : Nat} : ma_wt (va_up (va_up (va_up wt (n * 3) a) (n * 3 + 1) b) (n * 3 + 2) c) n 1 = a := by
  unfold ma_wt
  rw [va_up_ne _ _ (by omega), va_up_ne _ _ (by omega), show n * 3 + 1 - 1 = n * 3 by omega, va_up_self]
theorem ma_new2 {wt : Nat → Nat} {n a b c : Nat} : ma_wt (va_up (va_up (va_up wt (n * 3) a) (n * 3 + 1) b) (n * 3 + 2) c) n 2 = b := by
  unfold ma_wt
  rw [va_up_ne _ _ (by omega), show n * 3 + 2 - 1 = n * 3 + 1 by omega, va_up_self]
theorem ma_new3 {wt : Nat → Nat} {n a b c : Nat} : ma_wt (va_up (va_up (va_up wt (n * 3) a) (n * 3 + 1) b) (n * 3 + 2) c) n 3 = c := by
  unfold ma_wt
  rw [show n * 3 + 3 - 1 = n * 3 + 2 by omega, va_up_self]
theorem ma_old {wt : Nat → Nat} {n a b c i l : Nat} (hi : i < n) (h1 : 1 ≤ l) (h3 : l ≤ 3) : ma_wt (va_up (va_up (va_up wt (n * 3) a) (n * 3 + 1) b) (n * 3 + 2) c) i l = ma_wt wt i l := by
  unfold ma_wt
  rw [va_up_ne _ _ (by omega), va_up_ne _ _ (by omega), va_up_ne _ _ (by omega)]
theorem sn_put {ol tl : Nat → Nat} {q o t : Nat} (h : sn_ok ol tl) (ho : 1 ≤ o ∧ o ≤ 3) (ht : 1 ≤ t ∧ t ≤ 3) : sn_ok (va_up ol q o) (va_up tl q t) := by
  refine ⟨fun k hk => ?_, fun k hk => ?_, fun k hk => ?_⟩
  · by_cases e : k = q
    · rw [e, va_up_self]; exact ho.2
    · rw [va_up_ne _ _ e]; exact h.1 k hk
  · by_cases e : k = q
    · rw [e, va_up_self]; exact ht.2
    · rw [va_up_ne _ _ e]; exact h.2.1 k hk
  · by_cases e : k = q
    · rw [e, va_up_self, va_up_self]; exact Or.inr ht.1
    · rw [va_up_ne _ _ e, va_up_ne _ _ e]; exact h.2.2 k hk
theorem sn_drop {ol tl : Nat → Nat} {q : Nat} (h : sn_ok ol tl) : sn_ok (va_up ol q 0) (va_up tl q 0) := by
  refine ⟨fun k hk => ?_, fun k hk => ?_, fun k hk => ?_⟩
  · by_cases e : k = q
    · rw [e, va_up_self]; omega
    · rw [va_up_ne _ _ e]; exact h.1 k hk
  · by_cases e : k = q
    · rw [e, va_up_self]; omega
    · rw [va_up_ne _ _ e]; exact h.2.1 k hk
  · by_cases e : k = q
    · rw [e, va_up_self]; exact Or.inl rfl
    · rw [va_up_ne _ _ e, va_up_ne _ _ e]; exact h.2.2 k hk
