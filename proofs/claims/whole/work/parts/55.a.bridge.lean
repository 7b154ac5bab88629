/-! Bridging rows: the class's values and the reference's are one. -/
theorem ft_sum_le {wt : Nat → Nat} (hw : wt 1 + wt 2 + wt 3 = 8) {g : (Nat → Nat) → Nat} (hg : ∀ a, g a ≤ 1) : ∀ (k : Nat) (a : Nat → Nat), ft_sum wt k a g ≤ 8 ^ k := by
  intro k
  induction k with
  | zero => intro a; exact hg a
  | succ k ih =>
    intro a
    show wt 1 * ft_sum wt k (va_up a k 1) g + wt 2 * ft_sum wt k (va_up a k 2) g + wt 3 * ft_sum wt k (va_up a k 3) g ≤ 8 ^ (k + 1)
    have h1 := Nat.mul_le_mul_left (wt 1) (ih (va_up a k 1))
    have h2 := Nat.mul_le_mul_left (wt 2) (ih (va_up a k 2))
    have h3 := Nat.mul_le_mul_left (wt 3) (ih (va_up a k 3))
    have h4 : wt 1 * 8 ^ k + wt 2 * 8 ^ k + wt 3 * 8 ^ k = 8 ^ (k + 1) := by
      rw [← Nat.add_mul, ← Nat.add_mul, hw, Nat.pow_succ, Nat.mul_comm]
    omega
theorem fi_fit_le {wt ol tl fa mo rk : Nat → Nat} {nf nc mk w : Nat} (hf : nf ≤ 3) (hW : ma_wt wt mk 1 + ma_wt wt mk 2 + ma_wt wt mk 3 = 8) : fi_fit wt ol tl fa mo rk nf nc mk w ≤ 2 ^ 18 := by
  unfold fi_fit ft_fit
  refine Nat.le_trans (ft_sum_le hW (fun a => Nat.le_of_lt_succ (mg_ft1 _)) _ _) ?_
  exact Nat.le_trans (Nat.pow_le_pow_right (by decide) (show 2 * nf ≤ 6 by omega)) (by decide)
theorem jn_cr_cg {k k' b : Nat} {v v' : Nat → Nat} {w : Nat} (hk : k = k') (hw : w < 2 ^ b) (h : ∀ u, u < 2 ^ b → v u = v' u) : jn_cr k b v w = jn_cr k' b v' w := by
  subst hk; exact jn_cr_congr hw h
theorem jn_al_cg {B : Nat} {r r' : Nat → Nat} {F F' : Nat → Nat → Nat} : ∀ m, (∀ i, i < m → r i = r' i) → (∀ i, i < m → ∀ w, w < 2 ^ B → F i w = F' i w) → ∀ w, w < 2 ^ B → jn_al B r F m w = jn_al B r' F' m w := by
  intro m
  induction m with
  | zero => intro _ _ w _; rfl
  | succ m ih =>
    intro h1 h2 w hw
    exact jn_cr_cg (h1 m (by omega)) hw (fun u hu => by
      rw [ih (fun i hi => h1 i (by omega)) (fun i hi => h2 i (by omega)) u hu, h2 m (by omega) u hu])
theorem jn_J_cg {B M : Nat} {r r' : Nat → Nat} {F F' : Nat → Nat → Nat} (h1 : ∀ i, i < M → r i = r' i) (h2 : ∀ i, i ≤ M → ∀ w, w < 2 ^ B → F i w = F' i w) : jn_J B r F M = jn_J B r' F' M :=
  zs_congr (fun w hw => by rw [jn_al_cg M h1 (fun i hi => h2 i (by omega)) w hw, h2 M (Nat.le_refl _) w hw])
theorem jn_be_cg {B M : Nat} {r r' : Nat → Nat} {F F' : Nat → Nat → Nat} (h1 : ∀ i, i < M → r i = r' i) (h2 : ∀ i, i ≤ M → ∀ w, w < 2 ^ B → F i w = F' i w) : ∀ d, d ≤ M → ∀ w, w < 2 ^ B → jn_be B r F M d w = jn_be B r' F' M d w := by
  intro d
  induction d with
  | zero => intro _ w _; rfl
  | succ d ih =>
    intro hd w hw
    exact jn_cr_cg (h1 _ (by omega)) hw (fun u hu => by rw [ih (by omega) u hu, h2 (M - d) (by omega) u hu])
theorem jn_pt_cg {B M mk : Nat} {r r' : Nat → Nat} {F F' : Nat → Nat → Nat} (hm : mk ≤ M) (h1 : ∀ i, i < M → r i = r' i) (h2 : ∀ i, i ≤ M → ∀ w, w < 2 ^ B → F i w = F' i w) : ∀ w, w < 2 ^ B → jn_pt B r F M mk w = jn_pt B r' F' M mk w := fun w hw => by
  unfold jn_pt
  rw [jn_al_cg mk (fun i hi => h1 i (by omega)) (fun i hi => h2 i (by omega)) w hw, jn_be_cg h1 h2 (M - mk) (by omega) w hw, h2 mk hm w hw]
/-- how many are seen -/
noncomputable def sn_n (ol : Nat → Nat) : Nat := zs_sum 24 (fun k => ft_c (ol k ≠ 0))
theorem sn_pos {ol : Nat → Nat} {k : Nat} (hk : k < 24) (h : ol k ≠ 0) : 1 ≤ sn_n ol := Nat.le_trans (Nat.le_of_eq (ft_c1 h).symm) (zs_one (f := fun k => ft_c (ol k ≠ 0)) hk)
theorem sn_le (ol : Nat → Nat) : sn_n ol ≤ 24 := by
  have h := zs_le (n := 24) (f := fun k => ft_c (ol k ≠ 0)) (g := fun _ => 1) (fun i _ => Nat.le_of_lt_succ (mg_ft1 _))
  rw [zs_const] at h
  exact h
theorem sn_any {ol : Nat → Nat} : 0 < sn_n ol ↔ ∃ k, k < 24 ∧ ol k ≠ 0 := by
  constructor
  · intro h
    refine Classical.byContradiction (fun q => ?_)
    have h1 : sn_n ol = zs_sum 24 (fun _ => 0) := zs_congr (fun k hk => ft_c0 (fun h2 => q ⟨k, hk, h2⟩))
    rw [zs_zero] at h1
    omega
  · rintro ⟨k, hk, h⟩
    exact sn_pos hk h
theorem zs_up {f : Nat → Nat} {n k x : Nat} (hk : k < n) : zs_sum n (va_up f k x) + f k = zs_sum n f + x := by
  induction n with
  | zero => omega
  | succ n ih =>
    rw [zs_s, zs_s]
    by_cases e : k = n
    · subst e
      have h1 : zs_sum k (va_up f k x) = zs_sum k f := zs_congr (fun i hi => va_up_ne _ _ (by omega))
      rw [h1, va_up_self]; omega
    · rw [va_up_ne _ _ (fun q => e q.symm)]
      have := ih (by omega)
      omega
theorem sn_up {ol : Nat → Nat} {k x : Nat} (hk : k < 24) : sn_n (va_up ol k x) + ft_c (ol k ≠ 0) = sn_n ol + ft_c (x ≠ 0) := by
  have h := zs_up (f := fun j => ft_c (ol j ≠ 0)) (x := ft_c (x ≠ 0)) hk
  have e : zs_sum 24 (va_up (fun j => ft_c (ol j ≠ 0)) k (ft_c (x ≠ 0))) = sn_n (va_up ol k x) := zs_congr (fun j _ => by
    by_cases hj : j = k
    · subst hj; rw [va_up_self, va_up_self]
    · rw [va_up_ne _ _ hj, va_up_ne _ _ hj])
  rw [e] at h
  exact h
/-- a sighting that is put, one that is dropped -/
theorem sn_put_n {ol : Nat → Nat} {k x : Nat} (hk : k < 24) (hx : x ≠ 0) : sn_n (va_up ol k x) = if ol k = 0 then sn_n ol + 1 else sn_n ol := by
  have h := sn_up (ol := ol) (x := x) hk
  rw [ft_c1 hx] at h
  by_cases e : ol k = 0
  · rw [if_pos e]
    rw [ft_c0 (fun q => q e)] at h
    omega
  · rw [if_neg e]
    rw [ft_c1 e] at h
    omega
theorem sn_drop_n {ol : Nat → Nat} {k : Nat} (hk : k < 24) (h0 : ol k ≠ 0) : sn_n (va_up ol k 0) = sn_n ol - 1 := by
  have h := sn_up (ol := ol) (x := 0) hk
  rw [ft_c1 h0, ft_c0 (fun q => q rfl)] at h
  omega
