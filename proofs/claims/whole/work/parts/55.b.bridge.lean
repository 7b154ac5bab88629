/-! Bridging rows: the table of FIT over calls. -/
theorem ft_sum_wt {wt wt' : Nat → Nat} (h1 : wt 1 = wt' 1) (h2 : wt 2 = wt' 2) (h3 : wt 3 = wt' 3) (g : (Nat → Nat) → Nat) : ∀ (k : Nat) (a : Nat → Nat), ft_sum wt k a g = ft_sum wt' k a g := by
  intro k
  induction k with
  | zero => intro a; rfl
  | succ k ih =>
    intro a
    show wt 1 * _ + wt 2 * _ + wt 3 * _ = wt' 1 * _ + wt' 2 * _ + wt' 3 * _
    rw [h1, h2, h3, ih, ih, ih]
theorem fi_fit_wt {wt wt' ol tl fa mo rk : Nat → Nat} {nf nc mk w : Nat} (h : ∀ l, 1 ≤ l → l ≤ 3 → ma_wt wt mk l = ma_wt wt' mk l) : fi_fit wt ol tl fa mo rk nf nc mk w = fi_fit wt' ol tl fa mo rk nf nc mk w :=
  ft_sum_wt (h 1 (by decide) (by decide)) (h 2 (by decide) (by decide)) (h 3 (by decide) (by decide)) _ _ _
theorem fi_fit_sn {wt ol tl ol' tl' fa mo rk : Nat → Nat} {nf nc mk w : Nat} (h : ∀ q, q < nf + nc → ol (mk * 6 + q) = ol' (mk * 6 + q) ∧ tl (mk * 6 + q) = tl' (mk * 6 + q)) : fi_fit wt ol tl fa mo rk nf nc mk w = fi_fit wt ol' tl' fa mo rk nf nc mk w := by
  unfold fi_fit ft_fit
  refine ft_congr _ _ (fun a _ _ => ft_cc ⟨fun hc q h1 h2 => ?_, fun hc q h1 h2 => ?_⟩)
  · have e := h q (by omega)
    show ol' (mk * 6 + q) = 0 ∨ _ = ol' (mk * 6 + q) ∧ _ = tl' (mk * 6 + q) ∨ _ = tl' (mk * 6 + q) ∧ _ = ol' (mk * 6 + q)
    rw [← e.1, ← e.2]
    exact hc q h1 h2
  · have e := h q (by omega)
    show ol (mk * 6 + q) = 0 ∨ _ = ol (mk * 6 + q) ∧ _ = tl (mk * 6 + q) ∨ _ = tl (mk * 6 + q) ∧ _ = ol (mk * 6 + q)
    rw [e.1, e.2]
    exact hc q h1 h2
theorem fi_all_at {tb : Nat → Nat} {F : Nat → Nat → Nat} {W m i w : Nat} (hi : i < m) (hw : w < W) (hW : W ≤ 64) : fi_all tb F W m (i * 64 + w) = F i w := by
  unfold fi_all
  have h1 : (i * 64 + w) / 64 = i := by omega
  have h2 : (i * 64 + w) % 64 = w := by omega
  rw [h1, h2, if_pos ⟨hi, hw⟩]
theorem fi_tb_at {tb F : Nat → Nat} {mk k w : Nat} (hw : w < k) : fi_tb tb F mk k (mk * 64 + w) = F w := by
  unfold fi_tb
  rw [if_pos ⟨by omega, by omega⟩, show mk * 64 + w - mk * 64 = w by omega]
theorem fi_tb_no {tb F : Nat → Nat} {mk k i w : Nat} (hi : i ≠ mk) (hw : w < 64) (hk : k ≤ 64) : fi_tb tb F mk k (i * 64 + w) = tb (i * 64 + w) := by
  unfold fi_tb
  rw [if_neg (by omega)]
/-- what the class's table holds -/
def cl_tb (nm nc : Nat) (tb : Nat → Nat) (F : Nat → Nat → Nat) : Prop := ∀ i w, i < nm → w < 2 ^ (2 * nc) → su_F tb i w = F i w
theorem cl_all {nm nc : Nat} {tb : Nat → Nat} {F : Nat → Nat → Nat} (hc : nc ≤ 3) : cl_tb nm nc (fi_all tb F (2 ^ (2 * nc)) nm) F := fun i w hi hw => fi_all_at hi hw (mg_ways hc)
theorem cl_one {nm nc mk : Nat} {tb : Nat → Nat} {F F' : Nat → Nat → Nat} (hc : nc ≤ 3) (h : cl_tb nm nc tb F) (hF : ∀ i w, i < nm → i ≠ mk → F i w = F' i w) : cl_tb nm nc (fi_tb tb (F' mk) mk (2 ^ (2 * nc))) F' := fun i w hi hw => by
  have hw6 := mg_ways hc
  show fi_tb tb (F' mk) mk (2 ^ (2 * nc)) (i * 64 + w) = F' i w
  by_cases e : i = mk
  · subst e; exact fi_tb_at hw
  · rw [fi_tb_no e (by omega) hw6, ← hF i w hi e]; exact h i w hi hw
theorem cl_new {nm nc : Nat} {tb : Nat → Nat} {F F' : Nat → Nat → Nat} (hc : nc ≤ 3) (h : cl_tb nm nc tb F) (hF : ∀ i w, i < nm → F i w = F' i w) : cl_tb (nm + 1) nc (fi_tb tb (F' nm) nm (2 ^ (2 * nc))) F' := fun i w hi hw => by
  have hw6 := mg_ways hc
  show fi_tb tb (F' nm) nm (2 ^ (2 * nc)) (i * 64 + w) = F' i w
  by_cases e : i = nm
  · subst e; exact fi_tb_at hw
  · rw [fi_tb_no e (by omega) hw6, ← hF i w (by omega)]; exact h i w (by omega) hw
/-- sightings put at one place leave other markers' FIT -/
theorem fi_fit_put {wt ol tl fa mo rk : Nat → Nat} {nf nc i m1 p1 x y w : Nat} (hn : nf + nc ≤ 6) (hp : p1 < 6) (hi : i ≠ m1) : fi_fit wt ol tl fa mo rk nf nc i w = fi_fit wt (va_up ol (m1 * 6 + p1) x) (va_up tl (m1 * 6 + p1) y) fa mo rk nf nc i w :=
  fi_fit_sn (fun q hq => ⟨(va_up_ne _ _ (by omega)).symm, (va_up_ne _ _ (by omega)).symm⟩)
theorem fi_fit_add {wt ol tl fa mo rk : Nat → Nat} {nf nc i n a b c w : Nat} (hi : i < n) : fi_fit wt ol tl fa mo rk nf nc i w = fi_fit (va_up (va_up (va_up wt (n * 3) a) (n * 3 + 1) b) (n * 3 + 2) c) ol tl fa mo rk nf nc i w :=
  fi_fit_wt (fun l h1 h3 => (ma_old hi h1 h3).symm)
/-- the reference's sightings -/
def mo_sn (sn ol tl : Nat → Nat) : Prop := ∀ q i, q < 6 → i < 4 → sn (4 * q + i) = mo_cd (ol (i * 6 + q)) (tl (i * 6 + q))
theorem mo_sn_put {sn ol tl : Nat → Nat} (h : mo_sn sn ol tl) {p1 m1 o t : Nat} (hp : p1 < 6) (hm : m1 < 4) : mo_sn (va_up sn (4 * p1 + m1) (mo_cd o t)) (va_up ol (m1 * 6 + p1) o) (va_up tl (m1 * 6 + p1) t) := fun q i hq hi => by
  by_cases e : q = p1 ∧ i = m1
  · rw [e.1, e.2, va_up_self, va_up_self, va_up_self]
  · rw [va_up_ne _ _ (by omega), va_up_ne _ _ (by omega), va_up_ne _ _ (by omega)]; exact h q i hq hi
theorem mo_sn_any {sn ol tl : Nat → Nat} (h : mo_sn sn ol tl) : (∃ j, j < 24 ∧ 0 < sn j) ↔ 0 < sn_n ol := by
  rw [sn_any]
  constructor
  · rintro ⟨j, hj, h0⟩
    have e := h (j / 4) (j % 4) (by omega) (Nat.mod_lt _ (by decide))
    rw [show 4 * (j / 4) + j % 4 = j by omega] at e
    rw [e] at h0
    exact ⟨j % 4 * 6 + j / 4, by have := Nat.mod_lt j (show 0 < 4 by decide); omega, mo_cd0.mp h0⟩
  · rintro ⟨k, hk, h0⟩
    have e := h (k % 6) (k / 6) (Nat.mod_lt _ (by decide)) (by omega)
    rw [show k / 6 * 6 + k % 6 = k by omega] at e
    exact ⟨4 * (k % 6) + k / 6, by have := Nat.mod_lt k (show 0 < 6 by decide); omega, by rw [e]; exact mo_cd0.mpr h0⟩
/-- the reference's weights -/
def mo_wt (nm : Nat) (mw wt : Nat → Nat) : Prop := ∀ i l, i < nm → 1 ≤ l → l ≤ 3 → mw (4 * i + l) = ma_wt wt i l
theorem mo_wt_add {nm a b c : Nat} {mw wt : Nat → Nat} (h : mo_wt nm mw wt) : mo_wt (nm + 1) (va_up (va_up (va_up mw (4 * nm + 1) a) (4 * nm + 2) b) (4 * nm + 3) c) (va_up (va_up (va_up wt (nm * 3) a) (nm * 3 + 1) b) (nm * 3 + 2) c) := fun i l hi h1 h3 => by
  by_cases e : i = nm
  · subst e
    rcases (show l = 1 ∨ l = 2 ∨ l = 3 by omega) with h9 | h9 | h9 <;> subst h9
    · rw [ma_new1, va_up_ne _ _ (by omega), va_up_ne _ _ (by omega), va_up_self]
    · rw [ma_new2, va_up_ne _ _ (by omega), va_up_self]
    · rw [ma_new3, va_up_self]
  · rw [ma_old (by omega) h1 h3, va_up_ne _ _ (by omega), va_up_ne _ _ (by omega), va_up_ne _ _ (by omega)]
    exact h i l (by omega) h1 h3
/-- what is known of the reference's table -/
theorem mo_kn_forget {nm W : Nat} {kn ftb : Nat → Nat} {F : Nat → Nat → Nat} (hm : nm ≤ 4) : mo_kn nm W (su_pt (fun _ => 0) kn 4) ftb F := fun m h => by
  rw [su_ptl _ _ (show m < 4 by omega)]
  exact ⟨by decide, fun q => absurd rfl q⟩
theorem mo_kn_one {nm W mk : Nat} {kn ftb : Nat → Nat} {F F' : Nat → Nat → Nat} (h : mo_kn nm W kn ftb F) (hF : ∀ i w, i < nm → i ≠ mk → F i w = F' i w) : mo_kn nm W (va_up kn mk 0) ftb F' := fun m hm => by
  by_cases e : m = mk
  · subst e; rw [va_up_self]; exact ⟨by decide, fun q => absurd rfl q⟩
  · rw [va_up_ne _ _ e]
    exact ⟨(h m hm).1, fun q w hw => by rw [← hF m w hm e]; exact (h m hm).2 q w hw⟩
theorem mo_kn_add {nm W : Nat} {kn ftb : Nat → Nat} {F F' : Nat → Nat → Nat} (h : mo_kn nm W kn ftb F) (hF : ∀ i w, i < nm → F i w = F' i w) : mo_kn (nm + 1) W (va_up kn nm 0) ftb F' := fun m hm => by
  by_cases e : m = nm
  · subst e; rw [va_up_self]; exact ⟨by decide, fun q => absurd rfl q⟩
  · rw [va_up_ne _ _ e]
    exact ⟨(h m (by omega)).1, fun q w hw => by rw [← hF m w (by omega)]; exact (h m (by omega)).2 q w hw⟩
/-- the rates -/
def cl_rt (nm : Nat) (rt mr : Nat → Nat) : Prop := (∀ i, i + 1 < nm → rt i = mr i) ∧ (∀ i, i < 4 → mr i ≤ 8) ∧ (0 < nm → mr (nm - 1) = 8)
theorem cl_rt_add {nm : Nat} {rt mr : Nat → Nat} (h : cl_rt nm rt mr) : cl_rt (nm + 1) (ma_rt nm rt) (va_up mr nm 8) := by
  refine ⟨fun i hi => ?_, fun i hi => ?_, fun _ => ?_⟩
  · rw [va_up_ne _ _ (by omega)]
    unfold ma_rt
    rw [if_pos (by omega)]
    by_cases e : i = nm - 1
    · rw [e, va_up_self, h.2.2 (by omega)]
    · rw [va_up_ne _ _ e]; exact h.1 i (by omega)
  · by_cases e : i = nm
    · rw [e, va_up_self]; exact Nat.le_refl _
    · rw [va_up_ne _ _ e]; exact h.2.1 i hi
  · rw [show nm + 1 - 1 = nm by omega, va_up_self]
theorem cl_rt_set {nm g k : Nat} {rt mr : Nat → Nat} (h : cl_rt nm rt mr) (hg : g + 1 < nm) (hk : k ≤ 8) : cl_rt nm (va_up rt g k) (va_up mr g k) := by
  refine ⟨fun i hi => ?_, fun i hi => ?_, fun h0 => ?_⟩
  · by_cases e : i = g
    · rw [e, va_up_self, va_up_self]
    · rw [va_up_ne _ _ e, va_up_ne _ _ e]; exact h.1 i hi
  · by_cases e : i = g
    · rw [e, va_up_self]; exact hk
    · rw [va_up_ne _ _ e]; exact h.2.1 i hi
  · rw [va_up_ne _ _ (by omega)]; exact h.2.2 h0
