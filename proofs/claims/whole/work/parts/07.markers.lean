/-! The markers' own numbers. -/
def ma_rt (n : Nat) (rt : Nat → Nat) : Nat → Nat := if 0 < n then va_up rt (n - 1) 8 else rt
def ma_wt (wt : Nat → Nat) (m l : Nat) : Nat := wt (m * 3 + l - 1)
theorem ft_w_le {W L : Nat → Nat} {K : Nat} (hW : ∀ l, 1 ≤ l → l ≤ 3 → W l ≤ 8) (hL : ∀ k, k < K → L k ≤ 3) : ∀ k, k ≤ K → ft_w W L k ≤ 8 ^ k := by
  intro k
  induction k with
  | zero => intro _; exact Nat.le_refl _
  | succ k ih =>
    intro hk
    show ft_w W L k * (if L k = 0 then 8 else W (L k)) ≤ 8 ^ (k + 1)
    rw [Nat.pow_succ]
    refine Nat.mul_le_mul (ih (by omega)) ?_
    have h1 := hL k (by omega)
    by_cases h : L k = 0
    · rw [if_pos h]; exact Nat.le_refl _
    · rw [if_neg h]; exact hW _ (by omega) h1
/-- the search restores what it laid down -/
theorem fi_back1 (L : Nat → Nat) (a x : Nat) : va_up (va_up L a x) a (L a) = L := by
  funext j
  by_cases h : j = a
  · subst h; rw [va_up_self]
  · rw [va_up_ne _ _ h, va_up_ne _ _ h]
theorem fi_back2 (L : Nat → Nat) (a b x y : Nat) : va_up (va_up (va_up (va_up L a x) b y) b (va_up L a x b)) a (L a) = L := by
  rw [fi_back1 (va_up L a x) b y, fi_back1]
theorem fi_le1 {L : Nat → Nat} {a x : Nat} (hL : ∀ k, k < 6 → L k ≤ 3) (hx : x ≤ 3) : ∀ k, k < 6 → va_up L a x k ≤ 3 := fun k hk => by
  by_cases h : k = a
  · subst h; rw [va_up_self]; exact hx
  · rw [va_up_ne _ _ h]; exact hL k hk
theorem fi_le2 {L : Nat → Nat} {a x : Nat} (hL : ∀ k, k < 6 → L k ≤ 3) (hx : x ≤ 3) : ∀ k, k < 6 → va_up L a x k ≤ 3 := fi_le1 hL hx
/-- the letters that are seen -/
def sn_ok (ol tl : Nat → Nat) : Prop := (∀ k, k < 24 → ol k ≤ 3) ∧ (∀ k, k < 24 → tl k ≤ 3) ∧ ∀ k, k < 24 → ol k = 0 ∨ 1 ≤ tl k
theorem ma_w8 {wt : Nat → Nat} {mk : Nat} (h : ma_wt wt mk 1 + ma_wt wt mk 2 + ma_wt wt mk 3 = 8) : ∀ l, 1 ≤ l → l ≤ 3 → ma_wt wt mk l ≤ 8 := fun l h1 h3 => by
  rcases (show l = 1 ∨ l = 2 ∨ l = 3 by omega) with e | e | e <;> subst e <;> omega
noncomputable def fi_fit (wt ol tl fa mo rk : Nat → Nat) (nf nc mk w : Nat) : Nat := ft_fit (ma_wt wt mk) (2 * nf) (fun q => ol (mk * 6 + q)) (fun q => tl (mk * 6 + q)) (fun q => fm_src fa mo rk w 3 q 0) (fun q => fm_src fa mo rk w 3 q 1) (nf + nc)
theorem fi_fit_eq {wt ol tl fa mo rk : Nat → Nat} {nf nc mk w : Nat} (hF : fm_ok nf nc fa mo rk) (hS : sn_ok ol tl) (hm : mk < 4) (hW : ma_wt wt mk 1 + ma_wt wt mk 2 + ma_wt wt mk 3 = 8) :
    ft_from (ma_wt wt mk) (2 * nf) (fun q => ol (mk * 6 + q)) (fun q => tl (mk * 6 + q)) (fun q => fm_src fa mo rk w 3 q 0) (fun q => fm_src fa mo rk w 3 q 1) (nf + nc) 0 (fun _ => 0) = fi_fit wt ol tl fa mo rk nf nc mk w := by
  refine ft_from_fit hW (fun q hq => ⟨fm_lt3 hF w hq (by omega), fm_lt3 hF w hq (by omega), ?_⟩)
  have h1 := hF.1
  have h2 := hF.2.1
  have a1 := hS.1 (mk * 6 + q) (by omega)
  have a2 := hS.2.1 (mk * 6 + q) (by omega)
  have a3 := hS.2.2 (mk * 6 + q) (by omega)
  show ol (mk * 6 + q) = 0 ∨ 1 ≤ ol (mk * 6 + q) ∧ ol (mk * 6 + q) ≤ 3 ∧ 1 ≤ tl (mk * 6 + q) ∧ tl (mk * 6 + q) ≤ 3
  omega
/-- the table, one marker's ways below k renewed; all markers below m renewed -/
def fi_tb (tb F : Nat → Nat) (mk k : Nat) : Nat → Nat := fun i => if mk * 64 ≤ i ∧ i < mk * 64 + k then F (i - mk * 64) else tb i
theorem fi_tb0 (tb F : Nat → Nat) (mk : Nat) : fi_tb tb F mk 0 = tb := by
  funext i
  unfold fi_tb
  rw [if_neg (by omega)]
theorem fi_tbS (tb F : Nat → Nat) (mk k : Nat) : va_up (fi_tb tb F mk k) (mk * 64 + k) (F k) = fi_tb tb F mk (k + 1) := by
  funext i
  by_cases h : i = mk * 64 + k
  · subst h
    rw [va_up_self]
    unfold fi_tb
    rw [if_pos (by omega), show mk * 64 + k - mk * 64 = k by omega]
  · rw [va_up_ne _ _ h]
    unfold fi_tb
    by_cases h1 : mk * 64 ≤ i ∧ i < mk * 64 + k
    · rw [if_pos h1, if_pos (by omega)]
    · rw [if_neg h1, if_neg (by omega)]
def fi_all (tb : Nat → Nat) (F : Nat → Nat → Nat) (w m : Nat) : Nat → Nat := fun i => if i / 64 < m ∧ i % 64 < w then F (i / 64) (i % 64) else tb i
theorem fi_all0 (tb : Nat → Nat) (F : Nat → Nat → Nat) (w : Nat) : fi_all tb F w 0 = tb := by
  funext i
  unfold fi_all
  rw [if_neg (by omega)]
theorem fi_allS (tb : Nat → Nat) (F : Nat → Nat → Nat) {w m : Nat} (hw : w ≤ 64) : fi_tb (fi_all tb F w m) (F m) m w = fi_all tb F w (m + 1) := by
  funext i
  unfold fi_tb fi_all
  by_cases h : m * 64 ≤ i ∧ i < m * 64 + w
  · have e1 : i / 64 = m := by omega
    have e2 : i % 64 = i - m * 64 := by omega
    rw [if_pos h, if_pos (by omega), e1, e2]
  · rw [if_neg h]
    by_cases h2 : i / 64 < m ∧ i % 64 < w
    · rw [if_pos h2, if_pos (by omega)]
    · rw [if_neg h2, if_neg (by omega)]
