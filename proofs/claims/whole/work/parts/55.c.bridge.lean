/-! Bridging rows: the answers. -/
section BR
variable {nm nc : Nat} {rt mr sr nw tb : Nat → Nat} {F : Nat → Nat → Nat}
theorem cl_r1 (h : cl_rt nm rt mr) (hm : nm ≤ 4) (sr nw : Nat → Nat) : ∀ i, i < nm - 1 → su_pt rt sr (nm - 1) i = su_pt mr nw 4 i := fun i hi => by
  rw [su_ptl _ _ hi, su_ptl _ _ (by omega)]; exact h.1 i (by omega)
theorem cl_F (h : cl_tb nm nc tb F) (h0 : 0 < nm) : ∀ i, i ≤ nm - 1 → ∀ w, w < 2 ^ (2 * nc) → su_F tb i w = F i w := fun i hi w hw => h i w (by omega) hw
theorem cl_J (h : cl_rt nm rt mr) (ht : cl_tb nm nc tb F) (hm : nm ≤ 4) (h0 : 0 < nm) : jn_J (2 * nc) (su_pt rt sr (nm - 1)) (su_F tb) (nm - 1) = jn_J (2 * nc) (su_pt mr nw 4) F (nm - 1) := jn_J_cg (cl_r1 h hm sr nw) (cl_F ht h0)
theorem cl_J8 (ht : cl_tb nm nc tb F) (hm : nm ≤ 4) (h0 : 0 < nm) (x y : Nat → Nat) : jn_J (2 * nc) (su_pt (fun _ => 8) x (nm - 1)) (su_F tb) (nm - 1) = jn_J (2 * nc) (su_pt (fun _ => 8) y 4) F (nm - 1) :=
  jn_J_cg (fun i hi => by rw [su_ptl _ _ hi, su_ptl _ _ (by omega)]) (cl_F ht h0)
theorem cl_JG (h : cl_rt nm rt mr) (ht : cl_tb nm nc tb F) (hm : nm ≤ 4) (h0 : 0 < nm) (g k : Nat) : jn_J (2 * nc) (va_up (su_pt rt sr (nm - 1)) g k) (su_F tb) (nm - 1) = jn_J (2 * nc) (va_up (su_pt mr nw 4) g k) F (nm - 1) :=
  jn_J_cg (fun i hi => by
    by_cases e : i = g
    · rw [e, va_up_self, va_up_self]
    · rw [va_up_ne _ _ e, va_up_ne _ _ e]; exact cl_r1 h hm sr nw i hi) (cl_F ht h0)
theorem cl_PT (h : cl_rt nm rt mr) (ht : cl_tb nm nc tb F) (hm : nm ≤ 4) {mk : Nat} (hk : mk < nm) : ∀ w, w < 2 ^ (2 * nc) → jn_pt (2 * nc) (su_pt rt sr (nm - 1)) (su_F tb) (nm - 1) mk w = jn_pt (2 * nc) (su_pt mr nw 4) F (nm - 1) mk w :=
  jn_pt_cg (by omega) (cl_r1 h hm sr nw) (cl_F ht (by omega))
/-- odds, would, best, turned and shared, likely -/
theorem cl_odds (h : cl_rt nm rt mr) (ht : cl_tb nm nc tb F) (hm : nm ≤ 4) (h0 : 0 < nm) (n : Nat) : su_quot (jn_J (2 * nc) (su_pt rt sr (nm - 1)) (su_F tb) (nm - 1)) n (jn_J (2 * nc) (su_pt (fun _ => 8) (su_pt rt sr (nm - 1)) (nm - 1)) (su_F tb) (nm - 1)) = su_quot (jn_J (2 * nc) (su_pt mr nw 4) F (nm - 1)) n (jn_J (2 * nc) (su_pt (fun _ => 8) (su_pt mr nw 4) 4) F (nm - 1)) := by
  rw [cl_J (nw := nw) h ht hm h0, cl_J8 ht hm h0 _ (su_pt mr nw 4)]
theorem cl_would (h : cl_rt nm rt mr) (ht : cl_tb nm nc tb F) (hm : nm ≤ 4) (h0 : 0 < nm) (g k : Nat) : mg_cmp (jn_J (2 * nc) (va_up (su_pt rt sr (nm - 1)) g k) (su_F tb) (nm - 1)) (jn_J (2 * nc) (su_pt rt sr (nm - 1)) (su_F tb) (nm - 1)) = mg_cmp (jn_J (2 * nc) (va_up (su_pt mr nw 4) g k) F (nm - 1)) (jn_J (2 * nc) (su_pt mr nw 4) F (nm - 1)) := by
  rw [cl_J (nw := nw) h ht hm h0, cl_JG (nw := nw) h ht hm h0]
theorem cl_best (h : cl_rt nm rt mr) (ht : cl_tb nm nc tb F) (hm : nm ≤ 4) (h0 : 0 < nm) (g : Nat) : su_am (su_Jk (2 * nc) (su_pt rt sr (nm - 1)) (su_F tb) (nm - 1) g) 9 = su_am (su_Jk (2 * nc) (su_pt mr nw 4) F (nm - 1) g) 9 :=
  su_am_congr 9 (fun k _ => cl_JG (nw := nw) h ht hm h0 g k)
theorem cl_chance (h : cl_rt nm rt mr) (ht : cl_tb nm nc tb F) (hm : nm ≤ 4) {mk : Nat} (hk : mk < nm) (P : Nat → Prop) : su_quot (su_pick P (jn_pt (2 * nc) (su_pt rt sr (nm - 1)) (su_F tb) (nm - 1) mk) (2 ^ (2 * nc))) 1000 (jn_J (2 * nc) (su_pt rt sr (nm - 1)) (su_F tb) (nm - 1)) = su_quot (su_pick P (jn_pt (2 * nc) (su_pt mr nw 4) F (nm - 1) mk) (2 ^ (2 * nc))) 1000 (jn_J (2 * nc) (su_pt mr nw 4) F (nm - 1)) := by
  rw [cl_J (nw := nw) h ht hm (by omega), su_pick_cg (cl_PT (nw := nw) h ht hm hk)]
theorem cl_likely (h : cl_rt nm rt mr) (ht : cl_tb nm nc tb F) (hm : nm ≤ 4) {mk : Nat} (hk : mk < nm) : (if jn_J (2 * nc) (su_pt rt sr (nm - 1)) (su_F tb) (nm - 1) = 0 then 4294967295 else su_am (jn_pt (2 * nc) (su_pt rt sr (nm - 1)) (su_F tb) (nm - 1) mk) (2 ^ (2 * nc))) = (if jn_J (2 * nc) (su_pt mr nw 4) F (nm - 1) = 0 then 4294967295 else su_am (jn_pt (2 * nc) (su_pt mr nw 4) F (nm - 1) mk) (2 ^ (2 * nc))) := by
  rw [cl_J (nw := nw) h ht hm (by omega), su_am_congr _ (cl_PT (nw := nw) h ht hm hk)]
end BR
/-- two longs that are one -/
theorem mg_lcmpeq {p : Program} {l : Launch} {e : Env} {R : Room} {s : State} {m : MethodId} {args : Array Value} {below : List Frame} {meth : Method} {c : Code} {H : Heap} {locs : List Loc} {cells slots : Nat} {Q : State → Prop} {cc : ByteArray} {nL pc : Nat} {own : String} {ls : Array Slot} {rest : List Value} (X : CallFix p m c cc nL s args mg_T own) (tgt : Nat) {v : Int64} {off : Int} (hd1 : decode cc pc = .ok (.lcmp, 1)) (hd2 : decode cc (pc + 1) = .ok (.ifCond .eq off, 3)) (ht : ((pc + 1 : Nat) : Int) + off = (tgt : Int)) (kt : W p l e R s m args below meth c H locs cells slots Q (F0 m tgt ls rest)) : W p l e R s m args below meth c H locs cells slots Q (F0 m pc ls (.long v :: .long v :: rest)) := by
  refine W.lcmp X.1 X.2.1 hd1 ?_
  exact lv_if_eq X.1 X.2.1 hd2 ht (fun _ => kt) (fun h => absurd ((lg_cmp_eq _ _).mpr rfl) h)
