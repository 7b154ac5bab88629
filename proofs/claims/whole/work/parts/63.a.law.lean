/-! The law: reading the script, comparing answers, what holds between two calls. -/
abbrev b_La_law : ByteArray := code
section ML
variable {p : Program} {l : Launch} {e : Env} {R : Room} {s : State} {m : MethodId} {args : Array Value} {below : List Frame} {meth : Method} {c : Code} {H : Heap} {locs : List Loc} {cells slots : Nat} {Q : State → Prop}
variable {cc : ByteArray} {nL pc : Nat} {own : String} {ls : Array Slot} {rest : List Value} {D : va_G} {A : Nat → Prop} {ws : va_W} {b L : Nat} {xs : Nat → Int32}
theorem mg_sld (X : CallFix p m c cc nL s args mg_T own) (hw : mg_H D A s.heap H locs ws) (hXs : va_X b L xs s s.heap) (hbl : b < s.heap.size) (hbA : ¬ A b) (hL : L < 2 ^ 30) (pc' : Nat) (v : Int32) {k : Nat} (hk : k < L) (hv : xs k = v) (hdg : decode cc pc = .ok (.iaload, 1)) (hq : pc + 1 = pc')
    (kk : W p l e R s m args below meth c H locs cells slots Q (F0 m pc' ls (.int v :: rest))) : W p l e R s m args below meth c H locs cells slots Q (F0 m pc ls (.int (nI k) :: .ref b :: rest)) := by
  subst hq
  refine va_sld X.1 X.2.1 hXs hbl hbA hw.2.2 (vp_in_nI hk (by omega)) hdg ?_
  rw [nI_clamp (by omega), hv]
  exact kk
theorem mg_slen (X : CallFix p m c cc nL s args mg_T own) (hw : mg_H D A s.heap H locs ws) (hXs : va_X b L xs s s.heap) (hbl : b < s.heap.size) (hbA : ¬ A b) (pc' : Nat) (hdg : decode cc pc = .ok (.arraylength, 1)) (hq : pc + 1 = pc')
    (kk : W p l e R s m args below meth c H locs cells slots Q (F0 m pc' ls (.int (nI L) :: rest))) : W p l e R s m args below meth c H locs cells slots Q (F0 m pc ls (.ref b :: rest)) := by
  subst hq
  exact va_slen X.1 X.2.1 hXs hbl hbA hw.2.2 hdg kk
theorem mg_ieqs (X : CallFix p m c cc nL s args mg_T own) (tgt : Nat) {v w : Int32} {off : Int} (h : v = w) (hdg : decode cc pc = .ok (.if_icmp .eq off, 3)) (ht : (pc : Int) + off = (tgt : Int))
    (kt : W p l e R s m args below meth c H locs cells slots Q (F0 m tgt ls rest)) : W p l e R s m args below meth c H locs cells slots Q (F0 m pc ls (.int w :: .int v :: rest)) := by
  subst h
  exact lv_icmp_eq X.1 X.2.1 hdg ht (fun _ => kt) (fun q => absurd rfl q)
theorem mg_lceq (X : CallFix p m c cc nL s args mg_T own) (tgt : Nat) {x y : Nat} {off : Int} (h : x = y) (hd1 : decode cc pc = .ok (.lcmp, 1)) (hd2 : decode cc (pc + 1) = .ok (.ifCond .eq off, 3)) (ht : ((pc + 1 : Nat) : Int) + off = (tgt : Int))
    (kt : W p l e R s m args below meth c H locs cells slots Q (F0 m tgt ls rest)) : W p l e R s m args below meth c H locs cells slots Q (F0 m pc ls (.long (lN y) :: .long (lN x) :: rest)) := by
  subst h
  exact mg_lcmpeq X tgt hd1 hd2 ht kt
theorem mg_lgt (X : CallFix p m c cc nL s args mg_T own) (tgt pc' : Nat) {i : Nat} (hi : i < 2 ^ 30) (hL : L < 2 ^ 30) {off : Int} (hdg : decode cc pc = .ok (.if_icmp .gt off, 3)) (ht : (pc : Int) + off = (tgt : Int)) (hq : pc + 3 = pc')
    (kt : L < i + 5 → W p l e R s m args below meth c H locs cells slots Q (F0 m tgt ls rest)) (kf : i + 5 ≤ L → W p l e R s m args below meth c H locs cells slots Q (F0 m pc' ls rest)) : W p l e R s m args below meth c H locs cells slots Q (F0 m pc ls (.int (nI L - nI 5) :: .int (nI i) :: rest)) := by
  subst hq
  have h1 : (nI L - nI 5 < nI i) ↔ L < i + 5 := by
    rw [Int32.lt_iff_toInt_lt, pk_sub_toInt hL (by decide), nI_toInt (by omega)]; omega
  exact lv_icmp_gt X.1 X.2.1 hdg ht (fun h => kt (h1.mp h)) (fun h => kf (Nat.not_lt.mp (fun q => h (h1.mpr q))))
end ML
theorem mg_and31 (x : Int32) : ∃ j, j < 32 ∧ x &&& nI 31 = nI j := by
  refine ⟨(x &&& nI 31).toBitVec.toNat, ?_, ?_⟩
  · have h : (x &&& nI 31).toBitVec = x.toBitVec &&& (nI 31).toBitVec := rfl
    rw [h, BitVec.toNat_and]
    exact Nat.lt_of_le_of_lt Nat.and_le_right (by decide)
  · apply Int32.toBitVec_inj.mp
    apply BitVec.eq_of_toNat_eq
    show _ = (BitVec.ofNat 32 _).toNat
    rw [BitVec.toNat_ofNat]
    exact (Nat.mod_eq_of_lt (x &&& nI 31).toBitVec.isLt).symm
theorem lw_rt {nm : Nat} {rt mr : Nat → Nat} (h : cl_rt nm rt mr) (hm : nm ≤ 4) : ∀ i, i + 1 < nm → rt i ≤ 16 := fun i hi => by
  rw [h.1 i hi]; exact Nat.le_trans (h.2.1 i (by omega)) (by decide)
theorem lw_mr {nm : Nat} {rt mr : Nat → Nat} (h : cl_rt nm rt mr) : ∀ i, i < 4 → mr i ≤ 16 := fun i hi => Nat.le_trans (h.2.1 i hi) (by decide)
theorem lw_tb {nm nc : Nat} {tb : Nat → Nat} {F : Nat → Nat → Nat} (h : cl_tb nm nc tb F) (hF : ∀ i w, i < nm → w < 2 ^ (2 * nc) → F i w ≤ 2 ^ 18) : ∀ i w, i < nm → w < 2 ^ (2 * nc) → su_F tb i w ≤ 2 ^ 18 := fun i w hi hw => by
  rw [h i w hi hw]; exact hF i w hi hw
theorem lw_sn {sn ol tl : Nat → Nat} (hS : sn_ok ol tl) (h : mo_sn sn ol tl) : ∀ k, k < 24 → sn k ≤ 33 := fun k hk => by
  have e := h (k / 4) (k % 4) (by omega) (Nat.mod_lt _ (by decide))
  rw [show 4 * (k / 4) + k % 4 = k by omega] at e
  rw [e]
  have h9 : k % 4 * 6 + k / 4 < 24 := by omega
  exact mo_cd_le (hS.1 _ h9) (hS.2.1 _ h9)
theorem lw_W8 {wt : Nat → Nat} {nm a1 a2 a3 : Nat} (h : ∀ k, k < nm → ma_wt wt k 1 + ma_wt wt k 2 + ma_wt wt k 3 = 8) (h8 : a1 + a2 + a3 = 8) : ∀ k, k < nm + 1 → ma_wt (va_up (va_up (va_up wt (nm * 3) a1) (nm * 3 + 1) a2) (nm * 3 + 2) a3) k 1 + ma_wt (va_up (va_up (va_up wt (nm * 3) a1) (nm * 3 + 1) a2) (nm * 3 + 2) a3) k 2 + ma_wt (va_up (va_up (va_up wt (nm * 3) a1) (nm * 3 + 1) a2) (nm * 3 + 2) a3) k 3 = 8 := fun k hk => by
  by_cases e : k = nm
  · subst e; rw [ma_new1, ma_new2, ma_new3]; exact h8
  · rw [ma_old (i := k) (l := 1) (by omega) (by decide) (by decide), ma_old (i := k) (l := 2) (by omega) (by decide) (by decide), ma_old (i := k) (l := 3) (by omega) (by decide) (by decide)]; exact h k (by omega)
theorem lw_up0 {od : Nat → Nat} {a b : Nat} (h : a = b) : va_up od 0 (mg_sx a) 0 = mg_sx b := by rw [h]; exact va_up_self ..
theorem de_d_lt (J i : Nat) : de_d J i < 65536 := Nat.lt_of_lt_of_le (Nat.add_lt_add_left (Nat.mod_lt _ (by decide)) 48) (by decide)
theorem lw_pg {J n : Nat} {pg pp : Nat → Nat} (h1 : ∀ j, j < n → pg j = de_d J (n - 1 - j)) (h2 : ∀ j, j < n → pp j = de_d J (n - 1 - j)) : ∀ j, j < n → pg j = pp j ∧ pg j < 65536 := fun j hj => ⟨by rw [h1 j hj, h2 j hj], by rw [h1 j hj]; exact de_d_lt _ _⟩
/-- what holds between two calls -/
abbrev lw_I (pl nf nc nm sg np : Nat) (fa mo rk wt rt ol tl tb dB VB dE VE dQ VQ dT VT pg mw mr sn kn ftb eB UB eE UE eJ UJ eO UO eS US eP UP eQ UQ pp : Nat → Nat) : Prop :=
  fm_ok nf nc fa mo rk ∧ sn_ok ol tl ∧ nm ≤ 4 ∧ (∀ k, k < nm → ma_wt wt k 1 + ma_wt wt k 2 + ma_wt wt k 3 = 8) ∧ sg = sn_n ol ∧ cl_tb nm nc tb (fi_fit wt ol tl fa mo rk nf nc) ∧ cl_rt nm rt mr ∧ mo_sn sn ol tl ∧ mo_wt nm mw wt ∧ mo_kn nm (2 ^ (2 * nc)) kn ftb (fi_fit wt ol tl fa mo rk nf nc) ∧ np = nf + nc ∧ pl ≤ 54 ∧ (∀ j, j < pl → pg j = pp j ∧ pg j < 65536) ∧
  am_R 64 dB VB ∧ am_R 64 dE VE ∧ am_R 64 dQ VQ ∧ am_R 4 dT VT ∧ li_R 2048 eB UB ∧ li_R 2048 eE UE ∧ li_R 8 eJ UJ ∧ li_R 8 eO UO ∧ li_R 8 eS US ∧ li_R 8 eP UP ∧ li_R 17 eQ UQ
