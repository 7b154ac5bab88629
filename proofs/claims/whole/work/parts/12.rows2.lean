section MD
variable {p : Program} {l : Launch} {e : Env} {R : Room} {s : State} {m : MethodId} {args : Array Value} {below : List Frame} {meth : Method} {c : Code} {H : Heap} {locs : List Loc} {cells slots : Nat} {Q : State → Prop}
variable {cc c1 : ByteArray} {nL pc n1 n index : Nat} {own : String} {ls : Array Slot} {rest As st0 : List Value} {D : va_G} {K : Nat → ClassId} {A : Nat → Prop} {ws wc : va_W} {b : Nat} {y : MethodName} {rm : Room} {ret : FieldType}
theorem mg_callVv {S : Type} {post : S → Prop} {wc' : S → va_W} (X : CallFix p m c cc nL s args mg_T own) (hK : mg_K D K s) (hw : mg_H D A s.heap H locs ws) (hA : ∀ q, s.heap.size ≤ q → A q) (pc' : Nat) (isC : List Nat) (q0 : Nat) (w1 : S → va_W) {ci N : Nat} {T : u_T} {fs : List Value} (hb : ws[q0]? = some (mg_ob b ci fs)) (hcl : mg_CL[ci]? = some (y.cls, T, N))
    (hM : mg_Mv l D K y c1 n1 rm (.ref b :: As) wc post wc') (hc : mg_CV own index y c1 n1 none n) (hR : rm.frames + 1 ≤ R.frames ∧ 8 + (n1 + 11) + rm.locals ≤ R.locals)
    (hrc : rm.cells = 0 ∧ rm.slots = 0) (hC : isC.map (fun i => ws[i]?) = wc.map some) (hnd : va_nd isC = true) (hn : As.length = n) (hls : ls.size = nL) (hst : st0 = As.reverse ++ .ref b :: rest) (hcat : (rest.map fun v => v.category).sum ≤ 8) (hdg : decode cc pc = .ok (.invokevirtual index, 3)) (hf : cells ≤ R.cells ∧ slots ≤ R.slots)
    (had : ∀ u, (wc' u).map (fun q => q.1) = wc.map (fun q => q.1)) (hw1 : ∀ u, mg_pt ws isC (wc' u) = w1 u) (hq : pc + 3 = pc')
    (kk : ∀ (u : S) (H1 : Heap) (locs1 : List Loc), post u → mg_H D A s.heap H1 locs1 (w1 u) → W p l e R s m args below meth c H1 locs1 cells slots Q (F0 m pc' ls rest)) : W p l e R s m args below meth c H locs cells slots Q (F0 m pc ls st0) := by
  subst hq
  exact mg_backv hw hA isC w1 hC had hw1 (mg_runV X hK hw isC q0 hb hcl (hM H.size) hc hrc.1 hrc.2 hR hC hnd hn hls hst hcat hdg hf) kk
theorem mg_callVi {S : Type} {post : Int32 → S → Prop} {wc' : S → va_W} (X : CallFix p m c cc nL s args mg_T own) (hK : mg_K D K s) (hw : mg_H D A s.heap H locs ws) (hA : ∀ q, s.heap.size ≤ q → A q) (pc' : Nat) (isC : List Nat) (q0 : Nat) (w1 : S → va_W) {ci N : Nat} {T : u_T} {fs : List Value} (hb : ws[q0]? = some (mg_ob b ci fs)) (hcl : mg_CL[ci]? = some (y.cls, T, N))
    (hM : mg_Mi l D K y c1 n1 ret rm (.ref b :: As) wc post wc') (hc : mg_CV own index y c1 n1 (some ret) n) (hR : rm.frames + 1 ≤ R.frames ∧ 8 + (n1 + 11) + rm.locals ≤ R.locals)
    (hrc : rm.cells = 0 ∧ rm.slots = 0) (hC : isC.map (fun i => ws[i]?) = wc.map some) (hnd : va_nd isC = true) (hn : As.length = n) (hls : ls.size = nL) (hst : st0 = As.reverse ++ .ref b :: rest) (hcat : (rest.map fun v => v.category).sum ≤ 8) (hdg : decode cc pc = .ok (.invokevirtual index, 3)) (hf : cells ≤ R.cells ∧ slots ≤ R.slots)
    (had : ∀ u, (wc' u).map (fun q => q.1) = wc.map (fun q => q.1)) (hw1 : ∀ u, mg_pt ws isC (wc' u) = w1 u) (hq : pc + 3 = pc')
    (kk : ∀ (r : Int32) (u : S) (H1 : Heap) (locs1 : List Loc), post r u → mg_H D A s.heap H1 locs1 (w1 u) → W p l e R s m args below meth c H1 locs1 cells slots Q (F0 m pc' ls (.int r :: rest))) : W p l e R s m args below meth c H locs cells slots Q (F0 m pc ls st0) := by
  subst hq
  exact mg_backi hw hA isC w1 hC had hw1 (mg_runV X hK hw isC q0 hb hcl (hM H.size) hc hrc.1 hrc.2 hR hC hnd hn hls hst hcat hdg hf) kk
theorem mg_callSv {S : Type} {post : S → Prop} {wc' : S → va_W} (X : CallFix p m c cc nL s args mg_T own) (hK : mg_K D K s) (hw : mg_H D A s.heap H locs ws) (hA : ∀ q, s.heap.size ≤ q → A q) (pc' : Nat) (isC : List Nat) (w1 : S → va_W)
    (hM : mg_Mv l D K y c1 n1 rm As wc post wc') (hc : mg_CS own index y c1 n1 none n) (hR : rm.frames + 1 ≤ R.frames ∧ 8 + (n1 + 11) + rm.locals ≤ R.locals)
    (hrc : rm.cells = 0 ∧ rm.slots = 0) (hC : isC.map (fun i => ws[i]?) = wc.map some) (hnd : va_nd isC = true) (hn : As.length = n) (hls : ls.size = nL) (hst : st0 = As.reverse ++ rest) (hcat : (rest.map fun v => v.category).sum ≤ 8) (hdg : decode cc pc = .ok (.invokestatic index, 3)) (hf : cells ≤ R.cells ∧ slots ≤ R.slots)
    (had : ∀ u, (wc' u).map (fun q => q.1) = wc.map (fun q => q.1)) (hw1 : ∀ u, mg_pt ws isC (wc' u) = w1 u) (hq : pc + 3 = pc')
    (kk : ∀ (u : S) (H1 : Heap) (locs1 : List Loc), post u → mg_H D A s.heap H1 locs1 (w1 u) → W p l e R s m args below meth c H1 locs1 cells slots Q (F0 m pc' ls rest)) : W p l e R s m args below meth c H locs cells slots Q (F0 m pc ls st0) := by
  subst hq
  exact mg_backv hw hA isC w1 hC had hw1 (mg_runS X hK hw isC (hM H.size) hc hrc.1 hrc.2 hR hC hnd hn hls hst hcat hdg hf) kk
theorem mg_callSi {S : Type} {post : Int32 → S → Prop} {wc' : S → va_W} (X : CallFix p m c cc nL s args mg_T own) (hK : mg_K D K s) (hw : mg_H D A s.heap H locs ws) (hA : ∀ q, s.heap.size ≤ q → A q) (pc' : Nat) (isC : List Nat) (w1 : S → va_W)
    (hM : mg_Mi l D K y c1 n1 ret rm As wc post wc') (hc : mg_CS own index y c1 n1 (some ret) n) (hR : rm.frames + 1 ≤ R.frames ∧ 8 + (n1 + 11) + rm.locals ≤ R.locals)
    (hrc : rm.cells = 0 ∧ rm.slots = 0) (hC : isC.map (fun i => ws[i]?) = wc.map some) (hnd : va_nd isC = true) (hn : As.length = n) (hls : ls.size = nL) (hst : st0 = As.reverse ++ rest) (hcat : (rest.map fun v => v.category).sum ≤ 8) (hdg : decode cc pc = .ok (.invokestatic index, 3)) (hf : cells ≤ R.cells ∧ slots ≤ R.slots)
    (had : ∀ u, (wc' u).map (fun q => q.1) = wc.map (fun q => q.1)) (hw1 : ∀ u, mg_pt ws isC (wc' u) = w1 u) (hq : pc + 3 = pc')
    (kk : ∀ (r : Int32) (u : S) (H1 : Heap) (locs1 : List Loc), post r u → mg_H D A s.heap H1 locs1 (w1 u) → W p l e R s m args below meth c H1 locs1 cells slots Q (F0 m pc' ls (.int r :: rest))) : W p l e R s m args below meth c H locs cells slots Q (F0 m pc ls st0) := by
  subst hq
  exact mg_backi hw hA isC w1 hC had hw1 (mg_runS X hK hw isC (hM H.size) hc hrc.1 hrc.2 hR hC hnd hn hls hst hcat hdg hf) kk
/-- truth values, counting down, negative numbers -/
theorem mg_ft1 (P : Prop) : ft_c P < 2 := by
  by_cases h : P
  · rw [ft_c1 h]; omega
  · rw [ft_c0 h]; omega
theorem mg_bif_eq (X : CallFix p m c cc nL s args mg_T own) (tgt pc' : Nat) {P : Prop} {off : Int} (hdg : decode cc pc = .ok (.ifCond .eq off, 3)) (ht : (pc : Int) + off = (tgt : Int)) (hq : pc + 3 = pc') (kt : ¬ P → W p l e R s m args below meth c H locs cells slots Q (F0 m tgt ls rest)) (kf : P → W p l e R s m args below meth c H locs cells slots Q (F0 m pc' ls rest)) : W p l e R s m args below meth c H locs cells slots Q (F0 m pc ls (.int (nI (ft_c P)) :: rest)) :=
  mg_if_eq X tgt pc' (Nat.lt_trans (mg_ft1 P) (by decide)) hdg ht hq (fun h => kt (fun hp => by rw [ft_c1 hp] at h; omega)) (fun h => kf (Classical.not_not.mp (fun hp => h (ft_c0 hp))))
theorem mg_bif_ne (X : CallFix p m c cc nL s args mg_T own) (tgt pc' : Nat) {P : Prop} {off : Int} (hdg : decode cc pc = .ok (.ifCond .ne off, 3)) (ht : (pc : Int) + off = (tgt : Int)) (hq : pc + 3 = pc') (kt : P → W p l e R s m args below meth c H locs cells slots Q (F0 m tgt ls rest)) (kf : ¬ P → W p l e R s m args below meth c H locs cells slots Q (F0 m pc' ls rest)) : W p l e R s m args below meth c H locs cells slots Q (F0 m pc ls (.int (nI (ft_c P)) :: rest)) :=
  mg_if_ne X tgt pc' (Nat.lt_trans (mg_ft1 P) (by decide)) hdg ht hq (fun h => kt (Classical.not_not.mp (fun hp => h (ft_c0 hp)))) (fun h => kf (fun hp => by rw [ft_c1 hp] at h; omega))
theorem mg_inc1 (a : Nat) : nI a + Int32.ofInt 1 = nI (a + 1) := (nI_succ a).symm
theorem mg_incn (a n : Nat) : nI a + Int32.ofInt n = nI (a + n) := by
  rw [← nI_add]; rfl
def mg_dn : Nat → Int32
  | 0 => nI 4294967295
  | j + 1 => nI j
theorem mg_dn_eq (a : Nat) : nI a + Int32.ofInt (-1) = mg_dn a := by
  cases a with
  | zero => decide +kernel
  | succ j => exact pk_m1 j
theorem mg_dec1 {a : Nat} (h : 0 < a) : nI a + Int32.ofInt (-1) = nI (a - 1) := by
  obtain ⟨j, rfl⟩ : ∃ j, a = j + 1 := ⟨a - 1, by omega⟩
  exact pk_m1 j
theorem mg_iincD (X : CallFix p m c cc nL s args mg_T own) (pc' : Nat) (lv' : List (Nat × Value)) {i k v : Nat} {lv : List (Nat × Value)} (hdg : decode cc pc = .ok (.iinc i (-1), 3)) (h : lv_has ls nL lv) (hk : lv[k]? = some (i, .int (nI v))) (hn : i < nL) (hl : (i, Value.int (mg_dn v)) :: lv.filter (fun q => !(q.1 == i) && !(q.1 + 1 == i && q.2.category == 2)) = lv') (hq : pc + 3 = pc') (kk : ∀ ls' : Array Slot, lv_has ls' nL lv' → W p l e R s m args below meth c H locs cells slots Q (F0 m pc' ls' rest)) : W p l e R s m args below meth c H locs cells slots Q (F0 m pc ls rest) := by
  subst hq
  exact lv_iinc X.1 X.2.1 hdg h hk (mg_dn_eq v) hn hl kk
theorem mg_m1 : nI 4294967295 < 0 := by decide +kernel
theorem mg_iflt_y (X : CallFix p m c cc nL s args mg_T own) (tgt : Nat) {off : Int} (hdg : decode cc pc = .ok (.ifCond .lt off, 3)) (ht : (pc : Int) + off = (tgt : Int)) (kt : W p l e R s m args below meth c H locs cells slots Q (F0 m tgt ls rest)) : W p l e R s m args below meth c H locs cells slots Q (F0 m pc ls (.int (nI 4294967295) :: rest)) :=
  lv_if_lt X.1 X.2.1 hdg ht (fun _ => kt) (fun h => absurd mg_m1 h)
theorem mg_iflt_n (X : CallFix p m c cc nL s args mg_T own) (pc' : Nat) {a : Nat} (ha : a < 2 ^ 31) {off : Int} {tgt : Nat} (hdg : decode cc pc = .ok (.ifCond .lt off, 3)) (ht : (pc : Int) + off = (tgt : Int)) (hq : pc + 3 = pc') (kf : W p l e R s m args below meth c H locs cells slots Q (F0 m pc' ls rest)) : W p l e R s m args below meth c H locs cells slots Q (F0 m pc ls (.int (nI a) :: rest)) := by
  subst hq
  exact lv_if_lt X.1 X.2.1 hdg ht (fun h => absurd h (nI_pos ha)) (fun _ => kf)
end MD
/-! Shifts and masks of naturals. -/
theorem mg_sl : ∀ n, n < 32 → ((nI n &&& 31).toBitVec.smod 32).toNat = n := by decide +kernel
theorem mg_shl {b : Nat} (hb : b < 31) : nI 1 <<< (nI b &&& 31) = nI (2 ^ b) := by
  have h : 2 ^ b < 2 ^ 31 := Nat.pow_lt_pow_right (by decide) hb
  rw [pk_shlN (n := 1) _ b (mg_sl b (by omega)) (by omega), Nat.one_mul]
theorem mg_shr {w e : Nat} (hw : w < 2 ^ 31) (he : e < 32) : nI w >>> (nI e &&& 31) = nI (w / 2 ^ e) := pk_shrN hw _ e (mg_sl e he)
theorem mg_and1 {x : Nat} (hx : x < 2 ^ 32) : nI x &&& nI 1 = nI (x % 2) := pk_andN hx 1 (by decide +kernel)
theorem mg_tb {w b : Nat} : w / 2 ^ b % 2 = 1 ↔ w.testBit b = true := by
  rw [Nat.testBit_eq_decide_div_mod_eq]; simp
theorem mg_tb0 {w b : Nat} : w / 2 ^ b % 2 = 0 ↔ w.testBit b = false := by
  rw [Nat.testBit_eq_decide_div_mod_eq]
  have := Nat.mod_lt (w / 2 ^ b) (show 0 < 2 by decide)
  constructor
  · intro h; rw [h]; rfl
  · intro h
    have h2 : ¬ w / 2 ^ b % 2 = 1 := by simpa using h
    omega
theorem mg_and (a b : Nat) : nI a &&& nI b = nI (a &&& b) := by
  apply Int32.toBitVec_inj.mp
  apply BitVec.eq_of_toNat_eq
  show ((BitVec.ofNat 32 a) &&& (BitVec.ofNat 32 b)).toNat = (BitVec.ofNat 32 (a &&& b)).toNat
  rw [BitVec.toNat_and, BitVec.toNat_ofNat, BitVec.toNat_ofNat, BitVec.toNat_ofNat]
  exact (Nat.and_mod_two_pow ..).symm
theorem mg_or (a b : Nat) : nI a ||| nI b = nI (a ||| b) := by
  apply Int32.toBitVec_inj.mp
  apply BitVec.eq_of_toNat_eq
  show ((BitVec.ofNat 32 a) ||| (BitVec.ofNat 32 b)).toNat = (BitVec.ofNat 32 (a ||| b)).toNat
  rw [BitVec.toNat_or, BitVec.toNat_ofNat, BitVec.toNat_ofNat, BitVec.toNat_ofNat]
  exact (Nat.or_mod_two_pow ..).symm
theorem mg_xor (a b : Nat) : nI a ^^^ nI b = nI (a ^^^ b) := by
  apply Int32.toBitVec_inj.mp
  apply BitVec.eq_of_toNat_eq
  show ((BitVec.ofNat 32 a) ^^^ (BitVec.ofNat 32 b)).toNat = (BitVec.ofNat 32 (a ^^^ b)).toNat
  rw [BitVec.toNat_xor, BitVec.toNat_ofNat, BitVec.toNat_ofNat, BitVec.toNat_ofNat]
  exact (Nat.xor_mod_two_pow ..).symm
theorem mg_andp {w b : Nat} : w &&& 2 ^ b = 0 ↔ w.testBit b = false := by
  constructor
  · intro h
    have h1 : (w &&& 2 ^ b).testBit b = false := by rw [h]; simp
    rw [Nat.testBit_and, Nat.testBit_two_pow_self, Bool.and_true] at h1
    exact h1
  · intro h
    apply Nat.eq_of_testBit_eq
    intro i
    rw [Nat.testBit_and, Nat.testBit_two_pow, Nat.zero_testBit]
    by_cases e : b = i
    · subst e; rw [h]; rfl
    · simp [e]
theorem mg_orx {w b : Nat} (h : w.testBit b = false) : w ||| 2 ^ b = w ^^^ 2 ^ b := by
  apply Nat.eq_of_testBit_eq
  intro i
  rw [Nat.testBit_or, Nat.testBit_xor, Nat.testBit_two_pow]
  by_cases e : b = i
  · subst e; rw [h]; simp
  · simp [e]
section ME
variable {p : Program} {l : Launch} {e : Env} {R : Room} {s : State} {m : MethodId} {args : Array Value} {below : List Frame} {meth : Method} {c : Code} {H : Heap} {locs : List Loc} {cells slots : Nat} {Q : State → Prop}
variable {cc : ByteArray} {nL pc : Nat} {own : String} {ls : Array Slot} {rest : List Value}
theorem mg_lcmp_eq (X : CallFix p m c cc nL s args mg_T own) (tgt pc' : Nat) {a b : Nat} (ha : a < 2 ^ 63) (hb : b < 2 ^ 63) {off : Int} (hd1 : decode cc pc = .ok (.lcmp, 1)) (hd2 : decode cc (pc + 1) = .ok (.ifCond .eq off, 3)) (ht : ((pc + 1 : Nat) : Int) + off = (tgt : Int)) (hq : pc + 1 + 3 = pc') (kt : a = b → W p l e R s m args below meth c H locs cells slots Q (F0 m tgt ls rest)) (kf : a ≠ b → W p l e R s m args below meth c H locs cells slots Q (F0 m pc' ls rest)) : W p l e R s m args below meth c H locs cells slots Q (F0 m pc ls (.long (lN b) :: .long (lN a) :: rest)) := by
  subst hq
  refine W.lcmp X.1 X.2.1 hd1 ?_
  exact lv_if_eq X.1 X.2.1 hd2 ht (fun h => kt ((pk_lEQ ha hb).mp ((lg_cmp_eq _ _).mp h))) (fun h => kf (fun q => h ((lg_cmp_eq _ _).mpr ((pk_lEQ ha hb).mpr q))))
theorem mg_lcmp_ne (X : CallFix p m c cc nL s args mg_T own) (tgt pc' : Nat) {a b : Nat} (ha : a < 2 ^ 63) (hb : b < 2 ^ 63) {off : Int} (hd1 : decode cc pc = .ok (.lcmp, 1)) (hd2 : decode cc (pc + 1) = .ok (.ifCond .ne off, 3)) (ht : ((pc + 1 : Nat) : Int) + off = (tgt : Int)) (hq : pc + 1 + 3 = pc') (kt : a ≠ b → W p l e R s m args below meth c H locs cells slots Q (F0 m tgt ls rest)) (kf : a = b → W p l e R s m args below meth c H locs cells slots Q (F0 m pc' ls rest)) : W p l e R s m args below meth c H locs cells slots Q (F0 m pc ls (.long (lN b) :: .long (lN a) :: rest)) := by
  subst hq
  refine W.lcmp X.1 X.2.1 hd1 ?_
  exact lv_if_ne X.1 X.2.1 hd2 ht (fun h => kt (fun q => h ((lg_cmp_eq _ _).mpr ((pk_lEQ ha hb).mpr q)))) (fun h => kf ((pk_lEQ ha hb).mp ((lg_cmp_eq _ _).mp h)))
theorem mg_lcmp_le (X : CallFix p m c cc nL s args mg_T own) (tgt pc' : Nat) {a b : Nat} (ha : a < 2 ^ 63) (hb : b < 2 ^ 63) {off : Int} (hd1 : decode cc pc = .ok (.lcmp, 1)) (hd2 : decode cc (pc + 1) = .ok (.ifCond .le off, 3)) (ht : ((pc + 1 : Nat) : Int) + off = (tgt : Int)) (hq : pc + 1 + 3 = pc') (kt : a ≤ b → W p l e R s m args below meth c H locs cells slots Q (F0 m tgt ls rest)) (kf : b < a → W p l e R s m args below meth c H locs cells slots Q (F0 m pc' ls rest)) : W p l e R s m args below meth c H locs cells slots Q (F0 m pc ls (.long (lN b) :: .long (lN a) :: rest)) := by
  subst hq
  refine W.lcmp X.1 X.2.1 hd1 ?_
  exact lv_if_le X.1 X.2.1 hd2 ht (fun h => kt ((pk_lLE ha hb).mp ((lg_cmp_le _ _).mp h))) (fun h => kf (Nat.not_le.mp (fun q => h ((lg_cmp_le _ _).mpr ((pk_lLE ha hb).mpr q)))))
theorem mg_lcmp_ge (X : CallFix p m c cc nL s args mg_T own) (tgt pc' : Nat) {a b : Nat} (ha : a < 2 ^ 63) (hb : b < 2 ^ 63) {off : Int} (hd1 : decode cc pc = .ok (.lcmp, 1)) (hd2 : decode cc (pc + 1) = .ok (.ifCond .ge off, 3)) (ht : ((pc + 1 : Nat) : Int) + off = (tgt : Int)) (hq : pc + 1 + 3 = pc') (kt : b ≤ a → W p l e R s m args below meth c H locs cells slots Q (F0 m tgt ls rest)) (kf : a < b → W p l e R s m args below meth c H locs cells slots Q (F0 m pc' ls rest)) : W p l e R s m args below meth c H locs cells slots Q (F0 m pc ls (.long (lN b) :: .long (lN a) :: rest)) := by
  subst hq
  refine W.lcmp X.1 X.2.1 hd1 ?_
  exact lv_if_ge X.1 X.2.1 hd2 ht (fun h => kt ((pk_lLE hb ha).mp ((lg_cmp_ge _ _).mp h))) (fun h => kf (Nat.not_le.mp (fun q => h ((lg_cmp_ge _ _).mpr ((pk_lLE hb ha).mpr q)))))
theorem mg_lcmp_gt (X : CallFix p m c cc nL s args mg_T own) (tgt pc' : Nat) {a b : Nat} (ha : a < 2 ^ 63) (hb : b < 2 ^ 63) {off : Int} (hd1 : decode cc pc = .ok (.lcmp, 1)) (hd2 : decode cc (pc + 1) = .ok (.ifCond .gt off, 3)) (ht : ((pc + 1 : Nat) : Int) + off = (tgt : Int)) (hq : pc + 1 + 3 = pc') (kt : b < a → W p l e R s m args below meth c H locs cells slots Q (F0 m tgt ls rest)) (kf : a ≤ b → W p l e R s m args below meth c H locs cells slots Q (F0 m pc' ls rest)) : W p l e R s m args below meth c H locs cells slots Q (F0 m pc ls (.long (lN b) :: .long (lN a) :: rest)) := by
  subst hq
  refine W.lcmp X.1 X.2.1 hd1 ?_
  exact lv_if_gt X.1 X.2.1 hd2 ht (fun h => kt ((pk_lLT hb ha).mp ((lg_cmp_gt _ _).mp h))) (fun h => kf (Nat.not_lt.mp (fun q => h ((lg_cmp_gt _ _).mpr ((pk_lLT hb ha).mpr q)))))
theorem mg_lcmp_lt (X : CallFix p m c cc nL s args mg_T own) (tgt pc' : Nat) {a b : Nat} (ha : a < 2 ^ 63) (hb : b < 2 ^ 63) {off : Int} (hd1 : decode cc pc = .ok (.lcmp, 1)) (hd2 : decode cc (pc + 1) = .ok (.ifCond .lt off, 3)) (ht : ((pc + 1 : Nat) : Int) + off = (tgt : Int)) (hq : pc + 1 + 3 = pc') (kt : a < b → W p l e R s m args below meth c H locs cells slots Q (F0 m tgt ls rest)) (kf : b ≤ a → W p l e R s m args below meth c H locs cells slots Q (F0 m pc' ls rest)) : W p l e R s m args below meth c H locs cells slots Q (F0 m pc ls (.long (lN b) :: .long (lN a) :: rest)) := by
  subst hq
  refine W.lcmp X.1 X.2.1 hd1 ?_
  exact lv_if_lt X.1 X.2.1 hd2 ht (fun h => kt ((pk_lLT ha hb).mp ((lg_cmp_lt _ _).mp h))) (fun h => kf (Nat.not_lt.mp (fun q => h ((lg_cmp_lt _ _).mpr ((pk_lLT ha hb).mpr q)))))
end ME
