/-! The reference: what it keeps, and what that stands for. -/
/-- two letters as one number, the smaller first -/
def mo_cd (o t : Nat) : Nat := if o = 0 then 0 else if o < t then 10 * o + t else 10 * t + o
theorem mo_cd_le {o t : Nat} (ho : o ≤ 3) (ht : t ≤ 3) : mo_cd o t ≤ 33 := by
  unfold mo_cd
  by_cases h : o = 0
  · rw [if_pos h]; omega
  · by_cases h2 : o < t
    · rw [if_neg h, if_pos h2]; omega
    · rw [if_neg h, if_neg h2]; omega
theorem mo_cd0 {o t : Nat} : 0 < mo_cd o t ↔ o ≠ 0 := by
  unfold mo_cd
  by_cases h : o = 0
  · rw [if_pos h]; omega
  · by_cases h2 : o < t
    · rw [if_neg h, if_pos h2]; omega
    · rw [if_neg h, if_neg h2]; omega
theorem mo_cd_lt {o t : Nat} (h0 : o ≠ 0) (h : o < t) : mo_cd o t = 10 * o + t := by unfold mo_cd; rw [if_neg h0, if_pos h]
theorem mo_cd_ge {o t : Nat} (h0 : o ≠ 0) (h : t ≤ o) : mo_cd o t = 10 * t + o := by unfold mo_cd; rw [if_neg h0, if_neg (by omega)]
theorem mo_cd_eq {a b o t : Nat} (ha : 1 ≤ a ∧ a ≤ 3) (hb : 1 ≤ b ∧ b ≤ 3) (ho : 1 ≤ o ∧ o ≤ 3) (ht : 1 ≤ t ∧ t ≤ 3) : mo_cd a b = mo_cd o t ↔ (a = o ∧ b = t) ∨ (a = t ∧ b = o) := by
  unfold mo_cd
  rw [if_neg (show ¬ a = 0 by omega), if_neg (show ¬ o = 0 by omega)]
  by_cases h1 : a < b
  · by_cases h2 : o < t
    · rw [if_pos h1, if_pos h2]; omega
    · rw [if_pos h1, if_neg h2]; omega
  · by_cases h2 : o < t
    · rw [if_neg h1, if_pos h2]; omega
    · rw [if_neg h1, if_neg h2]; omega
/-- the persons below k have the letters that were seen -/
theorem ft_con_r {o t s0 s1 : Nat → Nat} {k : Nat} {a : Nat → Nat} : ft_con o t s0 s1 0 (k + 1) a ↔ ft_con o t s0 s1 0 k a ∧ (o k = 0 ∨ (a (s0 k) = o k ∧ a (s1 k) = t k) ∨ (a (s0 k) = t k ∧ a (s1 k) = o k)) := by
  constructor
  · intro h
    exact ⟨fun q h1 h2 => h q h1 (by omega), h k (Nat.zero_le _) (by omega)⟩
  · rintro ⟨h1, h2⟩ q a1 a2
    by_cases e : q = k
    · subst e; exact h2
    · exact h1 q a1 (by omega)
theorem ft_con_le {o t s0 s1 : Nat → Nat} {k n : Nat} {a : Nat → Nat} (h : k ≤ n) (hc : ft_con o t s0 s1 0 n a) : ft_con o t s0 s1 0 k a := fun q h1 h2 => hc q h1 (by omega)
theorem ft_con_cg {o t s0 s1 : Nat → Nat} {n K : Nat} {a b : Nat → Nat} (hq : ∀ q, q < n → s0 q < K ∧ s1 q < K) (h : ∀ k, k < K → a k = b k) : ft_con o t s0 s1 0 n a ↔ ft_con o t s0 s1 0 n b := by
  constructor
  · intro hc q h1 h2
    have := hq q (by omega)
    rw [← h _ this.1, ← h _ this.2]
    exact hc q h1 h2
  · intro hc q h1 h2
    have := hq q (by omega)
    rw [h _ this.1, h _ this.2]
    exact hc q h1 h2
theorem mo_c0 {o t s0 s1 a : Nat → Nat} : ft_c (ft_con o t s0 s1 0 0 a) = 1 := ft_c1 (fun q h1 h2 => by omega)
/-- isSo's answer at its end -/
theorem mo_so {o t s0 s1 : Nat → Nat} {k n x : Nat} {a : Nat → Nat} (hI : x = ft_c (ft_con o t s0 s1 0 k a)) (hk : k ≤ n) (he : n ≤ k ∨ x = 0) : x = ft_c (ft_con o t s0 s1 0 n a) := by
  rcases he with e | e
  · rw [hI, show k = n by omega]
  · subst e
    rw [ft_c0 (fun hc => by rw [ft_c1 (ft_con_le hk hc)] at hI; omega)]
/-- a step of isSo: nothing seen, the same letters, other letters -/
theorem mo_so0 {o t s0 s1 : Nat → Nat} {k x : Nat} {a : Nat → Nat} (hI : x = ft_c (ft_con o t s0 s1 0 k a)) (h : o k = 0) : x = ft_c (ft_con o t s0 s1 0 (k + 1) a) := by
  rw [hI]; exact ft_cc ⟨fun q => ft_con_r.mpr ⟨q, Or.inl h⟩, fun q => (ft_con_r.mp q).1⟩
theorem mo_so1 {o t s0 s1 : Nat → Nat} {k x : Nat} {a : Nat → Nat} (hI : x = ft_c (ft_con o t s0 s1 0 k a)) (hx : x ≠ 0) (h : (a (s0 k) = o k ∧ a (s1 k) = t k) ∨ (a (s0 k) = t k ∧ a (s1 k) = o k)) : 1 = ft_c (ft_con o t s0 s1 0 (k + 1) a) := by
  refine (ft_c1 (ft_con_r.mpr ⟨?_, Or.inr h⟩)).symm
  exact Classical.not_not.mp (fun q => hx (hI.trans (ft_c0 q)))
theorem mo_so2 {o t s0 s1 : Nat → Nat} {k : Nat} {a : Nat → Nat} (ho : o k ≠ 0) (h : ¬ ((a (s0 k) = o k ∧ a (s1 k) = t k) ∨ (a (s0 k) = t k ∧ a (s1 k) = o k))) : 0 = ft_c (ft_con o t s0 s1 0 (k + 1) a) :=
  (ft_c0 (fun q => by rcases (ft_con_r.mp q).2 with e | e; exact ho e; exact h e)).symm
/-- the letters' chance is small -/
theorem ft_p_le {wt a : Nat → Nat} {K : Nat} (h : ∀ k, k < K → wt (a k) ≤ 8) : ∀ k, k ≤ K → ft_p wt a k ≤ 8 ^ k := by
  intro k
  induction k with
  | zero => intro _; exact Nat.le_refl _
  | succ k ih =>
    intro hk
    rw [Nat.pow_succ]
    exact Nat.mul_le_mul (ih (by omega)) (h k (by omega))
theorem ft_dg_in (n j : Nat) : 1 ≤ ft_dg n j ∧ ft_dg n j ≤ 3 := by
  unfold ft_dg
  have := Nat.mod_lt (n / 3 ^ j) (show 0 < 3 by decide)
  omega
/-- how many of the bits below k are set -/
def li_bc (k w : Nat) : Nat := zs_sum k (fun i => w / 2 ^ i % 2)
theorem li_bc_le (k w : Nat) : li_bc k w ≤ k := by
  induction k with
  | zero => exact Nat.le_refl _
  | succ k ih =>
    have := Nat.mod_lt (w / 2 ^ k) (show 0 < 2 by decide)
    show li_bc k w + w / 2 ^ k % 2 ≤ k + 1
    omega
theorem li_bc_hi {B w : Nat} (hw : w < 2 ^ B) : ∀ e, li_bc (B + e) w = li_bc B w := by
  intro e
  induction e with
  | zero => rfl
  | succ e ih =>
    show li_bc (B + e) w + w / 2 ^ (B + e) % 2 = _
    rw [ih, Nat.div_eq_of_lt (Nat.lt_of_lt_of_le hw (Nat.pow_le_pow_right (by decide) (by omega)))]
    rfl
theorem li_kx (r x : Nat) : ∀ B, jn_kx r B x = r ^ li_bc B x * (16 - r) ^ (B - li_bc B x) := by
  intro B
  induction B with
  | zero => rfl
  | succ B ih =>
    have hb := li_bc_le B x
    show jn_kx r B x * (if x.testBit B = true then r else 16 - r) = _
    rw [ih]
    by_cases h : x.testBit B = true
    · have h1 : li_bc (B + 1) x = li_bc B x + 1 := by show li_bc B x + x / 2 ^ B % 2 = _; rw [mg_tb.mpr h]
      rw [if_pos h, h1, Nat.pow_succ, show B + 1 - (li_bc B x + 1) = B - li_bc B x by omega]
      simp only [Nat.mul_comm, Nat.mul_left_comm, Nat.mul_assoc]
    · have h2 : x.testBit B = false := by simpa using h
      have h1 : li_bc (B + 1) x = li_bc B x := by show li_bc B x + x / 2 ^ B % 2 = _; rw [mg_tb0.mpr h2]; rfl
      rw [if_neg h, h1, show B + 1 - li_bc B x = (B - li_bc B x) + 1 by omega, Nat.pow_succ, Nat.mul_assoc]
/-- the changes' weights by how many bits change -/
def mo_chg (r B d : Nat) : Nat := r ^ d * (16 - r) ^ (B - d)
theorem mo_kx {r B u w : Nat} (hB : B ≤ 6) (hu : u < 2 ^ B) (hw : w < 2 ^ B) : mo_chg r B (li_bc 6 (u ^^^ w)) = jn_kx r B (u ^^^ w) := by
  have hx : u ^^^ w < 2 ^ B := Nat.xor_lt_two_pow hu hw
  have h6 : li_bc 6 (u ^^^ w) = li_bc B (u ^^^ w) := by
    rw [show 6 = B + (6 - B) by omega, li_bc_hi hx]
  rw [h6, li_kx]
  rfl
def mo_ch (r d : Nat) : Nat → Nat
  | 0 => 1
  | k + 1 => mo_ch r d k * (if k < d then r else 16 - r)
theorem mo_ch_s1 {r d k : Nat} (h : k < d) : mo_ch r d (k + 1) = mo_ch r d k * r := by
  show mo_ch r d k * (if k < d then r else 16 - r) = _
  rw [if_pos h]
theorem mo_ch_s2 {r d k : Nat} (h : d ≤ k) : mo_ch r d (k + 1) = mo_ch r d k * (16 - r) := by
  show mo_ch r d k * (if k < d then r else 16 - r) = _
  rw [if_neg (by omega)]
theorem mo_ch_lo (r d : Nat) : ∀ k, k ≤ d → mo_ch r d k = r ^ k := by
  intro k
  induction k with
  | zero => intro _; rfl
  | succ k ih => intro h; rw [mo_ch_s1 (by omega), ih (by omega), Nat.pow_succ]
theorem mo_ch_hi (r d : Nat) : ∀ e, mo_ch r d (d + e) = r ^ d * (16 - r) ^ e := by
  intro e
  induction e with
  | zero => rw [Nat.add_zero, mo_ch_lo r d d (Nat.le_refl _), Nat.pow_zero, Nat.mul_one]
  | succ e ih => rw [← Nat.add_assoc, mo_ch_s2 (by omega), ih, Nat.pow_succ, Nat.mul_assoc]
theorem mo_ch_eq {r d B : Nat} (h : d ≤ B) : mo_ch r d B = mo_chg r B d := by
  obtain ⟨e, rfl⟩ : ∃ e, B = d + e := ⟨B - d, by omega⟩
  rw [mo_ch_hi]
  unfold mo_chg
  rw [show d + e - d = e by omega]
theorem mo_ch_le {r d : Nat} (hr : r ≤ 16) : ∀ k, mo_ch r d k ≤ 16 ^ k := by
  intro k
  induction k with
  | zero => exact Nat.le_refl _
  | succ k ih =>
    rw [Nat.pow_succ]
    refine Nat.mul_le_mul ih ?_
    by_cases h : k < d
    · rw [if_pos h]; exact hr
    · rw [if_neg h]; omega
/-- the table of FIT, where it is known -/
def mo_kn (nm W : Nat) (kn ftb : Nat → Nat) (F : Nat → Nat → Nat) : Prop := ∀ m, m < nm → kn m < 2 ∧ (kn m ≠ 0 → ∀ w, w < W → ftb (64 * m + w) = F m w)
theorem mo_kn_at {nm W : Nat} {kn ftb : Nat → Nat} {F : Nat → Nat → Nat} (h : mo_kn nm W kn ftb F) {m w : Nat} (hm : m < nm) (hk : kn m ≠ 0) (hw : w < W) : ftb (64 * m + w) = F m w := (h m hm).2 hk w hw
/-- one marker's row of it below k made anew -/
def mo_tb (tb F : Nat → Nat) (mk k : Nat) : Nat → Nat := fun i => if 64 * mk ≤ i ∧ i < 64 * mk + k then F (i - 64 * mk) else tb i
theorem mo_tb0 (tb F : Nat → Nat) (mk : Nat) : mo_tb tb F mk 0 = tb := by
  funext i; unfold mo_tb; rw [if_neg (by omega)]
theorem mo_tbS (tb F : Nat → Nat) (mk k : Nat) : va_up (mo_tb tb F mk k) (64 * mk + k) (F k) = mo_tb tb F mk (k + 1) := by
  funext i
  by_cases e : i = 64 * mk + k
  · subst e
    rw [va_up_self]
    unfold mo_tb
    rw [if_pos (by omega), show 64 * mk + k - 64 * mk = k by omega]
  · rw [va_up_ne _ _ e]
    unfold mo_tb
    by_cases h : 64 * mk ≤ i ∧ i < 64 * mk + k
    · rw [if_pos h, if_pos (by omega)]
    · rw [if_neg h, if_neg (by omega)]
theorem mo_kn_new {nm W : Nat} {kn ftb : Nat → Nat} {F : Nat → Nat → Nat} (h : mo_kn nm W kn ftb F) {mk : Nat} (hW : W ≤ 64) : mo_kn nm W (va_up kn mk 1) (mo_tb ftb (F mk) mk W) F := by
  intro m hm
  by_cases e : m = mk
  · subst e
    rw [va_up_self]
    refine ⟨by omega, fun _ w hw => ?_⟩
    unfold mo_tb
    rw [if_pos (by omega), show 64 * m + w - 64 * m = w by omega]
  · rw [va_up_ne _ _ e]
    refine ⟨(h m hm).1, fun hk w hw => ?_⟩
    unfold mo_tb
    rw [if_neg (by omega)]
    exact (h m hm).2 hk w hw
theorem mo_tb_at {tb F : Nat → Nat} {mk k w : Nat} (h : w < k) : mo_tb tb F mk k (64 * mk + w) = F w := by
  unfold mo_tb
  rw [if_pos (by omega), show 64 * mk + w - 64 * mk = w by omega]
theorem mo_zs {f : Nat → Nat} {k : Nat} {M : Nat} (h : ∀ i, i < k → f i ≤ M) : zs_sum k f ≤ k * M := by
  rw [← zs_const k M]; exact zs_le h
theorem mo_dn0 {nf nc : Nat} {fa mo rk : Nat → Nat} (h : fm_ok nf nc fa mo rk) {p : Nat} (hp : p < nf + nc) (hf : fa p ≠ 4294967295) : fa p < p := by
  rcases h.2.2 p hp with e | e
  · exact absurd e.1 hf
  · exact e.1
theorem mo_dn1 {nf nc : Nat} {fa mo rk : Nat → Nat} (h : fm_ok nf nc fa mo rk) {p : Nat} (hp : p < nf + nc) (hf : fa p ≠ 4294967295) : mo p < p := by
  rcases h.2.2 p hp with e | e
  · exact absurd e.1 hf
  · exact e.2.1
/-- the sums of the reference along the line -/
def mo_S (r B : Nat) (v : Nat → Nat) (w x : Nat) : Nat := zs_sum x (fun u => v u * jn_kx r B (u ^^^ w))
theorem mo_S0 (r B : Nat) (v : Nat → Nat) (w : Nat) : mo_S r B v w 0 = 0 := rfl
theorem mo_SS (r B : Nat) (v : Nat → Nat) (w x : Nat) : mo_S r B v w (x + 1) = mo_S r B v w x + v x * jn_kx r B (x ^^^ w) := rfl
theorem mo_S_cr {r B : Nat} {v f : Nat → Nat} {w : Nat} (hw : w < 2 ^ B) (h : ∀ u, u < 2 ^ B → v u = f u) : mo_S r B v w (2 ^ B) = jn_cr r B f w := by
  rw [jn_cr_by r B f hw]
  exact zs_congr (fun u hu => by rw [h u hu])
theorem mo_S_mono (r B : Nat) (v : Nat → Nat) (w : Nat) {x y : Nat} (h : x ≤ y) : mo_S r B v w x ≤ mo_S r B v w y := zs_mono h
theorem mo_S_al {B k : Nat} {r : Nat → Nat} {F : Nat → Nat → Nat} {v : Nat → Nat} {w : Nat} (hk : 0 < k) (hw : w < 2 ^ B) (h : ∀ u, u < 2 ^ B → v u = jn_al B r F (k - 1) u * F (k - 1) u) : mo_S (r (k - 1)) B v w (2 ^ B) = jn_al B r F k w := by
  obtain ⟨j, rfl⟩ : ∃ j, k = j + 1 := ⟨k - 1, by omega⟩
  rw [mo_S_cr hw h]
  rfl
theorem mo_S_be {B M k : Nat} {r : Nat → Nat} {F : Nat → Nat → Nat} {v : Nat → Nat} {w : Nat} (hk : k < M) (hw : w < 2 ^ B) (h : ∀ u, u < 2 ^ B → v u = jn_be B r F M (M - (k + 1)) u * F (k + 1) u) : mo_S (r k) B v w (2 ^ B) = jn_be B r F M (M - k) w := by
  obtain ⟨d, rfl⟩ : ∃ d, M = k + 1 + d := ⟨M - (k + 1), by omega⟩
  rw [mo_S_cr hw h, show k + 1 + d - k = d + 1 by omega]
  show _ = jn_cr (r (k + 1 + d - (d + 1))) B (fun u => jn_be B r F (k + 1 + d) d u * F (k + 1 + d - d) u) w
  rw [show k + 1 + d - (d + 1) = k by omega, show k + 1 + d - d = k + 1 by omega, show k + 1 + d - (k + 1) = d by omega]
/-- a marker's row before it is summed up -/
def mo_bv (nm k : Nat) (s : Nat) : Nat := if k + 1 = nm then 1 else s
theorem mo_bv1 {nm k s : Nat} (h : k + 1 = nm) : mo_bv nm k s = 1 := if_pos h
theorem mo_bv2 {nm k s : Nat} (h : k + 1 ≠ nm) : mo_bv nm k s = s := if_neg h
/-! Ints of which nothing is known, against a bound; counting down from a size; long shifts. -/
section MI
variable {p : Program} {l : Launch} {e : Env} {R : Room} {s : State} {m : MethodId} {args : Array Value} {below : List Frame} {meth : Method} {c : Code} {H : Heap} {locs : List Loc} {cells slots : Nat} {Q : State → Prop}
variable {cc : ByteArray} {nL pc : Nat} {own : String} {ls : Array Slot} {rest : List Value}
theorem mg_neg_lt {x : Int32} {b : Nat} (hb : b < 2 ^ 31) (h : x < 0) : x < nI b := by
  have h1 : (0 : Int32) ≤ nI b := Int32.not_lt.mp (nI_pos hb)
  exact Int32.lt_of_lt_of_le h h1
theorem mg_icl_r (X : CallFix p m c cc nL s args mg_T own) (tgt pc' : Nat) {x : Int32} {b : Nat} (hb : b < 2 ^ 31) {off : Int} (hdg : decode cc pc = .ok (.if_icmp .lt off, 3)) (ht : (pc : Int) + off = (tgt : Int)) (hq : pc + 3 = pc') (kt : (∀ j, b ≤ j → j < 2 ^ 31 → x ≠ nI j) → W p l e R s m args below meth c H locs cells slots Q (F0 m tgt ls rest)) (kf : ∀ j : Nat, b ≤ j → j < 2 ^ 31 → x = nI j → W p l e R s m args below meth c H locs cells slots Q (F0 m pc' ls rest)) : W p l e R s m args below meth c H locs cells slots Q (F0 m pc ls (.int (nI b) :: .int x :: rest)) := by
  subst hq
  refine lv_icmp_lt X.1 X.2.1 hdg ht (fun h => kt (fun j hj h31 e => ?_)) (fun h => ?_)
  · subst e
    exact absurd ((nI_leI hb h31).mpr hj) (Int32.not_le.mpr h)
  · by_cases hn : x < 0
    · exact absurd (mg_neg_lt hb hn) h
    · obtain ⟨j, hj, e⟩ := nI_of hn
      subst e
      exact kf j ((nI_leI hb hj).mp (Int32.not_lt.mp h)) hj rfl
/-- an int between two bounds -/
def mg_bt (x : Int32) (a b : Nat) : Prop := ∃ j, (a ≤ j ∧ j ≤ b) ∧ x = nI j
theorem mg_bt_no {x : Int32} {a b : Nat} (hb : b < 2 ^ 31) (h : ∀ j, a ≤ j → j < 2 ^ 31 → x ≠ nI j) : ¬ mg_bt x a b := fun ⟨j, hj, e⟩ => h j hj.1 (by omega) e
theorem mg_bt_gt {j a b : Nat} (hj : j < 2 ^ 31) (hb : b < 2 ^ 31) (h : b < j) : ¬ mg_bt (nI j) a b := fun ⟨i, hi, e⟩ => by
  have := (nI_eq hj (show i < 2 ^ 31 by omega)).mp e
  omega
theorem mg_bt_in {j a b : Nat} (h1 : a ≤ j) (h2 : j ≤ b) : mg_bt (nI j) a b := ⟨j, ⟨h1, h2⟩, rfl⟩
theorem mg_dn_lt {a j : Nat} (ha : a ≤ 2 ^ 31) (hj : j < 2 ^ 31) : mg_dn a ≤ nI j ↔ a ≤ j + 1 := by
  cases a with
  | zero =>
    refine ⟨fun _ => by omega, fun _ => ?_⟩
    exact Int32.le_of_lt (mg_neg_lt hj mg_m1)
  | succ i => exact (nI_leI (show i < 2 ^ 31 by omega) hj).trans (by omega)
theorem mg_icmpge_d (X : CallFix p m c cc nL s args mg_T own) (tgt pc' : Nat) {a b : Nat} (ha : a < 2 ^ 31) (hb : b ≤ 2 ^ 31) {off : Int} (hdg : decode cc pc = .ok (.if_icmp .ge off, 3)) (ht : (pc : Int) + off = (tgt : Int)) (hq : pc + 3 = pc') (kt : b ≤ a + 1 → W p l e R s m args below meth c H locs cells slots Q (F0 m tgt ls rest)) (kf : a + 1 < b → W p l e R s m args below meth c H locs cells slots Q (F0 m pc' ls rest)) : W p l e R s m args below meth c H locs cells slots Q (F0 m pc ls (.int (mg_dn b) :: .int (nI a) :: rest)) := by
  subst hq
  exact lv_icmp_ge X.1 X.2.1 hdg ht (fun h => kt ((mg_dn_lt hb ha).mp h)) (fun h => kf (Nat.not_le.mp (fun q => h ((mg_dn_lt hb ha).mpr q))))
theorem mg_sub1 (a : Nat) : nI a - nI 1 = mg_dn a := by
  rw [← mg_dn_eq a]
  cases a with
  | zero => decide +kernel
  | succ j => rw [pk_sub (show 1 ≤ j + 1 by omega), mg_dec1 (by omega)]
/-- a number that is -1 or small -/
theorem mg_iflt_w (X : CallFix p m c cc nL s args mg_T own) (tgt pc' : Nat) {a : Nat} (ha : a = 4294967295 ∨ a < 2 ^ 31) {off : Int} (hdg : decode cc pc = .ok (.ifCond .lt off, 3)) (ht : (pc : Int) + off = (tgt : Int)) (hq : pc + 3 = pc') (kt : a = 4294967295 → W p l e R s m args below meth c H locs cells slots Q (F0 m tgt ls rest)) (kf : a < 2 ^ 31 → W p l e R s m args below meth c H locs cells slots Q (F0 m pc' ls rest)) : W p l e R s m args below meth c H locs cells slots Q (F0 m pc ls (.int (nI a) :: rest)) := by
  subst hq
  refine lv_if_lt X.1 X.2.1 hdg ht (fun h => kt ?_) (fun h => kf ?_)
  · rcases ha with e | e
    · exact e
    · exact absurd h (nI_pos e)
  · rcases ha with e | e
    · subst e; exact absurd mg_m1 h
    · exact e
theorem mg_lshl (X : CallFix p m c cc nL s args mg_T own) (pc' : Nat) (v : Int64) {x : Int64} {y : Int32} (hdg : decode cc pc = .ok (.lshl, 1)) (hv : x <<< (y.toInt64 &&& 63) = v) (hq : pc + 1 = pc') (kk : W p l e R s m args below meth c H locs cells slots Q (F0 m pc' ls (.long v :: rest))) : W p l e R s m args below meth c H locs cells slots Q (F0 m pc ls (.int y :: .long x :: rest)) := by
  subst hq
  exact lv_lshl X.1 X.2.1 hdg hv kk
theorem mg_l1 : ∀ k, k < 31 → lN 1 <<< ((nI k).toInt64 &&& 63) = lN (2 ^ k) := by decide +kernel
end MI
