/-! Putting cells back, a form that unfolds place by place. -/
def mg_lk : Nat → List Nat → va_W → (Nat × va_E) → (Nat × va_E)
  | k, i :: is, q :: qs, d => mg_lk k is qs (bif Nat.beq i k then q else d)
  | _, _, _, d => d
def mg_pq : va_W → Nat → List Nat → va_W → va_W
  | a :: as, k, is, qs => mg_lk k is qs a :: mg_pq as (k + 1) is qs
  | [], _, _, _ => []
theorem mg_pq_at (is : List Nat) (qs : va_W) : ∀ (ws : va_W) (k j : Nat), (mg_pq ws k is qs)[j]? = (ws[j]?).map (mg_lk (k + j) is qs) := by
  intro ws
  induction ws with
  | nil => intro k j; simp [mg_pq]
  | cons a as ih =>
    intro k j
    cases j with
    | zero => simp [mg_pq]
    | succ j =>
      have h := ih (k + 1) j
      rw [show k + 1 + j = k + (j + 1) by omega] at h
      show (mg_lk k is qs a :: mg_pq as (k + 1) is qs)[j + 1]? = _
      rw [List.getElem?_cons_succ, List.getElem?_cons_succ]
      exact h
theorem mg_pq_eq : ∀ (is : List Nat) (qs ws : va_W), mg_pt ws is qs = mg_pq ws 0 is qs := by
  intro is
  induction is with
  | nil =>
    intro qs ws
    apply List.ext_getElem?
    intro j
    have h1 : mg_pt ws [] qs = ws := by cases qs <;> rfl
    have h2 : mg_lk (0 + j) [] qs = id := by funext d; cases qs <;> rfl
    rw [mg_pq_at, h1, h2, Option.map_id]
    rfl
  | cons i is ih =>
    intro qs ws
    cases qs with
    | nil =>
      apply List.ext_getElem?
      intro j
      have h1 : mg_pt ws (i :: is) [] = ws := rfl
      have h2 : mg_lk (0 + j) (i :: is) [] = id := by funext d; rfl
      rw [mg_pq_at, h1, h2, Option.map_id]
      rfl
    | cons q qs =>
      have h1 : mg_pt ws (i :: is) (q :: qs) = mg_pt (ws.set i q) is qs := rfl
      have h2 : ∀ j, mg_lk (0 + j) (i :: is) (q :: qs) = fun d => mg_lk (0 + j) is qs (bif Nat.beq i (0 + j) then q else d) := fun j => by funext d; rfl
      rw [h1, ih qs (ws.set i q)]
      apply List.ext_getElem?
      intro j
      rw [mg_pq_at, mg_pq_at, h2, List.getElem?_set, Nat.zero_add]
      by_cases e : i = j
      · subst e
        rw [if_pos rfl, show Nat.beq i i = true from Nat.beq_refl i]
        by_cases hl : i < ws.length
        · rw [if_pos hl, List.getElem?_eq_getElem hl]; rfl
        · rw [if_neg hl, List.getElem?_eq_none (Nat.not_lt.mp hl)]; rfl
      · have hb : Nat.beq i j = false := by
          cases hb : Nat.beq i j with
          | false => rfl
          | true => exact absurd (Nat.eq_of_beq_eq_true hb) e
        rw [if_neg e, hb]
        rfl
theorem mg_pqe {ws : va_W} {is : List Nat} {qs w : va_W} (h : mg_pq ws 0 is qs = w) : mg_pt ws is qs = w := (mg_pq_eq is qs ws).trans h
