theorem su_pick_cg {P : Nat → Prop} {V V' : Nat → Nat} {n : Nat} (h : ∀ i, i < n → V i = V' i) : su_pick P V n = su_pick P V' n := by
  unfold su_pick
  exact zs_congr (fun i hi => by rw [h i hi])
