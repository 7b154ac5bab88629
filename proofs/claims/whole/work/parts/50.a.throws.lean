/-! Statics, and methods that throw. -/
abbrev xIS : String := "java/lang/IllegalStateException"
abbrev xIO : String := "java/lang/IndexOutOfBoundsException"
abbrev xIA : String := "java/lang/IllegalArgumentException"
def mg_xw : Cond → Bool
  | .declares .. => true
  | .castable .. => true
  | _ => false
def mg_XW : List Cond := lw_tbl.filter mg_xw
theorem mg_xw_on {w : Cond} (hw : mg_xw w = true) : w.onTables = true := by
  cases w <;> first | rfl | (simp [mg_xw] at hw; done)
theorem mg_xw_moved {w : Cond} (hw : mg_xw w = true) {u U : State} (hvm : u.vm.Alike U.vm) (h : va_Nw w u) : va_Nw w U := by
  cases w <;> first | exact va_tabs rfl (rfl : (u.setVm U.vm).vm = U.vm) (by rw [Cond.declares_setVm hvm]; exact h) | exact va_tabs rfl (rfl : (u.setVm U.vm).vm = U.vm) (by rw [Cond.castable_setVm hvm]; exact h) | (simp [mg_xw] at hw; done)
def mg_St (A : Nat → Prop) (U : State) (H : Heap) : Prop := vx_Zq Bundle.tN "UNASSIGNED_STACK" Bundle.steD A U H ∧ vx_Zq Bundle.tN "SUPPRESSED_SENTINEL" Bundle.listD A U H ∧ (∃ t : Nat, va_Z R_Am "TENS" "[I" (.ref t) A U H ∧ va_T .int t 9 (fun j => .int (nI (10 ^ j))) A U H) ∧ va_Nc xIS xIO U ∧ va_Nc xIS xIA U ∧ va_Nc xIA xIO U ∧ ∀ w ∈ mg_XW, va_Nw w U
theorem mg_St.moved {A : Nat → Prop} {u U : State} {H : Heap} (hvm : u.vm.Alike U.vm) (h : mg_St A u H) : mg_St A U H := by
  obtain ⟨h1, h2, ⟨t, h3, h4⟩, h5, h6, h7, h8⟩ := h
  exact ⟨h1.moved hvm, h2.moved hvm, ⟨t, h3.moved hvm, h4.moved hvm⟩, h5.moved hvm, h6.moved hvm, h7.moved hvm, fun w hw => mg_xw_moved (List.mem_filter.mp hw).2 hvm (h8 w hw)⟩
theorem mg_St.kept {A : Nat → Prop} {U : State} {H H1 : Heap} (h : mg_St A U H) (hq : ∀ a : Nat, a < H.size → ¬ A a → H1[a]? = H[a]?) : mg_St A U H1 := by
  obtain ⟨h1, h2, ⟨t, h3, h4⟩, h5⟩ := h
  exact ⟨h1.kept hq, h2.kept hq, ⟨t, h3.kept hq, h4.kept hq⟩, h5⟩
theorem mg_St.narrow {A B : Nat → Prop} {U : State} {H : Heap} (h : mg_St A U H) (hAB : ∀ q, B q → A q) : mg_St B U H := by
  obtain ⟨h1, h2, ⟨t, h3, h4⟩, h5⟩ := h
  exact ⟨h1.narrow hAB, h2.narrow hAB, ⟨t, h3.narrow hAB, h4.narrow hAB⟩, h5⟩
def mg_PreS (D : va_G) (K : Nat → ClassId) (av : List Value) (ws : va_W) (sz : Nat) : Array Value → State → Prop :=
  va_Pc av (fun U => U.heap.size = sz ∧ va_P D mg_CL ws U.heap ∧ mg_K D K U ∧ va_D (fun _ => True) ws ∧ mg_St (va_A ws sz) U U.heap)
theorem mg_PreS.blind (D : va_G) (K : Nat → ClassId) (av : List Value) (ws : va_W) (sz : Nat) : FrameBlind (mg_PreS D K av ws sz) := fun a U g mk q => by
  obtain ⟨q0, q1, qP, qK, qD, qS⟩ := q
  exact ⟨q0, q1, qP, qK.calling, qD, mg_St.moved (u := U) (U := U.calling g mk a) (Vm.Alike.refl U.vm) qS⟩
/-- contracts: returning, with the statics; throwing E, the world as it was -/
def mg_MiS (l : Launch) (D : va_G) (K : Nat → ClassId) (y : MethodName) (cc : ByteArray) (nL : Nat) (ret : FieldType) (rm : Room) (av : List Value) (ws : va_W) {S : Type} (post : Int32 → S → Prop) (ws' : S → va_W) : Prop :=
  ∀ sz, Met l y (mg_ws y cc nL (some ret)) rm (mg_PreS D K av ws sz) (va_Qi post (mg_B D (va_A ws sz) ws') (va_A ws sz)) 0 0 (va_A ws sz)
abbrev mg_X (D : va_G) (E : String) (ws : va_W) (A : Nat → Prop) : String → State → State → Prop := vx_X (fun _ : Unit => True) (fun E' _ t => E' = E ∧ va_P D mg_CL ws t.heap ∧ va_D A ws) A
abbrev mg_Ni (A : Nat → Prop) : Array Value → State → Outcome → State → Prop := va_Qi (fun (_ : Int32) (_ : Unit) => False) (fun _ _ => True) A
abbrev mg_Nv (A : Nat → Prop) : Array Value → State → Outcome → State → Prop := va_Qv (fun (_ : Unit) => False) (fun _ _ => True) A
def mg_Mxi (l : Launch) (D : va_G) (K : Nat → ClassId) (y : MethodName) (cc : ByteArray) (nL : Nat) (ret : FieldType) (rm : Room) (av : List Value) (ws : va_W) (E : String) : Prop :=
  ∀ sz, vx_Met l y (mg_ws y cc nL (some ret)) rm (mg_PreS D K av ws sz) (mg_Ni (va_A ws sz)) (mg_X D E ws (va_A ws sz)) 1 6 (va_A ws sz)
def mg_Mxv (l : Launch) (D : va_G) (K : Nat → ClassId) (y : MethodName) (cc : ByteArray) (nL : Nat) (rm : Room) (av : List Value) (ws : va_W) (E : String) : Prop :=
  ∀ sz, vx_Met l y (mg_ws y cc nL none) rm (mg_PreS D K av ws sz) (mg_Nv (va_A ws sz)) (mg_X D E ws (va_A ws sz)) 1 6 (va_A ws sz)
theorem mg_entryS {l : Launch} {D : va_G} {K : Nat → ClassId} {y : MethodName} {cc : ByteArray} {nL mc ms : Nat} {ret : Option FieldType} {rm : Room} {av : List Value} {ws : va_W} {sz : Nat} {Qc : (Nat → Prop) → Array Value → State → Outcome → State → Prop}
    (hy : plainName y.cls = true) (hn : (lg_sl av).length ≤ nL)
    (h : ∀ (p : Program) (e : Env) (s : State) (m : MethodId) (args : Array Value) (below : List Frame) (meth : Method) (c : Code) (A : Nat → Prop) (ls : Array Slot), CallFix p m c cc nL s args mg_T y.cls → meth.sig.returnType = ret → meth.locks = false → meth.name = y.name →
      (∀ q, s.heap.size ≤ q → A q) → mg_K D K s → mg_H D A s.heap s.heap [] ws → mg_St A s s.heap → lv_has ls nL (lv_args 0 av) → W p l e rm s m args below meth c s.heap [] 0 0 (MQ below (Qc A) args s mc ms A) (F0 m 0 ls [])) :
    Met l y (mg_ws y cc nL ret) rm (mg_PreS D K av ws sz) (Qc (va_A ws sz)) mc ms (va_A ws sz) := by
  refine Met.ofW (cc := cc) (maxL := nL) (ret := ret) hy rfl ?_
  intro p e s m args below meth c s₁ B hml hv
  obtain ⟨rfl, hsz, hP, hK, hD0, hSt⟩ := hv
  have hts := atoms_spec (ws := mg_ws y cc nL ret) B.pre
  subst hsz
  have hl := lv_entry av (n := nL) hn
  rw [lg_entry_eq]
  generalize (lg_sl av ++ List.replicate (nL - (lg_sl av).length) Slot.unset).toArray = ls at hl ⊢
  exact h p e s m _ below meth c (va_A ws s.heap.size) ls ⟨B.exec, B.bytes, hml, findClass_of_methodNamed B.named, fun w hw => hts w (List.mem_cons_of_mem _ hw)⟩ B.returns B.notSynchronized (name_of_methodNamed B.named B.method).1
    (fun q h => Or.inr h) hK ⟨hP, hD0.self, va_S.rf⟩ hSt hl
theorem mg_entryX {l : Launch} {D : va_G} {K : Nat → ClassId} {y : MethodName} {cc : ByteArray} {nL mc ms : Nat} {ret : Option FieldType} {rm : Room} {av : List Value} {ws : va_W} {sz : Nat} {Qc : (Nat → Prop) → Array Value → State → Outcome → State → Prop} {XC : (Nat → Prop) → String → State → State → Prop}
    (hy : plainName y.cls = true) (hn : (lg_sl av).length ≤ nL)
    (h : ∀ (p : Program) (e : Env) (s : State) (m : MethodId) (args : Array Value) (below : List Frame) (meth : Method) (c : Code) (A : Nat → Prop) (ls : Array Slot), CallFix p m c cc nL s args mg_T y.cls → (∀ x ∈ c.exceptionTable.toList, False) → meth.locks = false →
      (∀ q, s.heap.size ≤ q → A q) → mg_K D K s → mg_H D A s.heap s.heap [] ws → mg_St A s s.heap → lv_has ls nL (lv_args 0 av) → W p l e rm s m args below meth c s.heap [] 0 0 (vx_MQ below (Qc A) (XC A) args s mc ms A) (F0 m 0 ls [])) :
    vx_Met l y (mg_ws y cc nL ret) rm (mg_PreS D K av ws sz) (Qc (va_A ws sz)) (XC (va_A ws sz)) mc ms (va_A ws sz) := by
  refine vx_ofW (cc := cc) (maxL := nL) (ret := ret) hy rfl ?_
  intro p e s m args below meth c s₁ B hml hte hv
  obtain ⟨rfl, hsz, hP, hK, hD0, hSt⟩ := hv
  have hts := atoms_spec (ws := mg_ws y cc nL ret) B.pre
  subst hsz
  have hl := lv_entry av (n := nL) hn
  rw [lg_entry_eq]
  generalize (lg_sl av ++ List.replicate (nL - (lg_sl av).length) Slot.unset).toArray = ls at hl ⊢
  exact h p e s m _ below meth c (va_A ws s.heap.size) ls ⟨B.exec, B.bytes, hml, findClass_of_methodNamed B.named, fun w hw => hts w (List.mem_cons_of_mem _ hw)⟩ hte B.notSynchronized
    (fun q h => Or.inr h) hK ⟨hP, hD0.self, va_S.rf⟩ hSt hl
theorem mg_inL {L : List Cond} (is : List Nat) (h : L = is.filterMap (fun i => lw_tbl[i]?)) (hg : L.all (fun w => goodWord w || mg_xw w) = true) : ∀ w ∈ L, w ∈ mg_T ∨ w ∈ mg_XW := fun w hw => by
  have h1 := List.all_eq_true.mp hg w hw
  rw [h] at hw
  obtain ⟨i, -, hi⟩ := List.mem_filterMap.mp hw
  rcases (Bool.or_eq_true _ _).mp h1 with h2 | h2
  · exact Or.inl (mg_in i hi h2)
  · exact Or.inr (List.mem_filter.mpr ⟨List.mem_of_getElem? hi, h2⟩)
abbrev mg_sup : List String := ["java/lang/RuntimeException", "java/lang/Exception"]
/-- what a throw of a new E rests on -/
def mg_EX (own : String) (ik ic : Nat) (E : String) : Prop := Bundle.fit E = true ∧ Cond.classLink own ik E ∈ mg_T ∧ Cond.initialized E ∈ mg_T ∧ ∀ w ∈ vx_at0 own ic E mg_sup, w ∈ mg_T ∨ w ∈ mg_XW
theorem mg_pt_id {ws : va_W} : ∀ {isC : List Nat} {wc : va_W}, isC.map (fun i => ws[i]?) = wc.map some → mg_pt ws isC wc = ws := by
  intro isC
  induction isC with
  | nil => intro wc _; cases wc <;> rfl
  | cons i is ih =>
    intro wc h
    cases wc with
    | nil => rfl
    | cons q qs =>
      have h1 : ws[i]? = some q := (List.cons.inj h).1
      show mg_pt (ws.set i q) is qs = ws
      have e : ws.set i q = ws := by
        apply List.ext_getElem?
        intro j
        rw [List.getElem?_set]
        by_cases hj : i = j
        · subst hj
          rw [if_pos rfl, if_pos (List.getElem?_eq_some_iff.mp h1).1, h1]
        · rw [if_neg hj]
      rw [e]
      exact ih (List.cons.inj h).2
section MX
variable {p : Program} {l : Launch} {e : Env} {R : Room} {s : State} {m : MethodId} {args : Array Value} {below : List Frame} {meth : Method} {c : Code} {H : Heap} {locs : List Loc} {cells slots : Nat} {Q : State → Prop}
variable {cc c1 : ByteArray} {nL pc n1 n index : Nat} {own : String} {ls : Array Slot} {rest As st0 : List Value} {D : va_G} {K : Nat → ClassId} {A : Nat → Prop} {ws wc : va_W} {b : Nat} {y : MethodName} {rm : Room}
theorem mg_throw {Qc : Array Value → State → Outcome → State → Prop} {E : String} {ik ic : Nat} (X : CallFix p m c cc nL s args mg_T own) (hte : ∀ x ∈ c.exceptionTable.toList, False) (hlk : meth.locks = false) (hw : mg_H D A s.heap H locs ws) (hSt : mg_St A s s.heap) (hl0 : l.stackTraces = false) (hE : mg_EX own ik ic E) (hls : ls.size = nL)
    (d0 : decode cc pc = .ok (.new ik, 3)) (d3 : decode cc (pc + 3) = .ok (.dup, 1)) (d4 : decode cc (pc + 4) = .ok (.invokespecial ic, 3)) (d7 : decode cc (pc + 7) = .ok (.athrow, 1)) (hcat : (rest.map fun v => v.category).sum ≤ 8)
    (hR : 6 ≤ R.frames ∧ 100 ≤ R.locals ∧ 1 ≤ R.cells ∧ 6 ≤ R.slots) : W p l e R s m args below meth c H locs 0 0 (vx_MQ below Qc (mg_X D E ws A) args s 1 6 A) (F0 m pc ls rest) := by
  have hT := X.2.2.2.2
  refine vx_throw0 (names := mg_sup) X.1 X.2.1 hl0 X.2.2.2.1 hE.1 (by decide) (hT _ hE.2.1) (hT _ hE.2.2.1) (fun w hw => (hE.2.2.2 w hw).elim (hT _) (fun h9 => va_Nw.use (A := args) (mg_xw_on (List.mem_filter.mp h9).2) (hSt.2.2.2.2.2.2 w h9))) (fun w hw => ?_) hSt.1 hSt.2.1 hw.2.2 (hls.trans X.2.2.1.symm) d0 d3 d4 d7 (fun x hx => (hte x hx).elim) (by show 2 + 3 < _; omega) (by show _ + (13 * (2 + 1) + 42) ≤ _; omega) (by omega) (by omega) hlk ?_ hw.2.2.2.2 (by omega) (by omega)
  · have h1 : w ∈ mg_T ∨ w ∈ mg_XW := by
      rcases List.mem_cons.mp hw with e1 | h2
      · rw [e1]; exact Or.inl hE.2.1
      · rcases List.mem_cons.mp h2 with e1 | h3
        · rw [e1]; exact Or.inl hE.2.2.1
        · exact hE.2.2.2 w h3
    unfold vx_ot
    rcases h1 with h1 | h1
    · rw [(List.mem_filter.mp h1).2, Bool.or_true]
    · rw [mg_xw_on (List.mem_filter.mp h1).2, Bool.true_or]
  · intro t _ h1 h2
    refine ⟨(), trivial, ⟨rfl, hw.1.kept (fun k q hk => h2 q.1 (vx_lt hw.1 hk)), hw.2.1⟩, Nat.le_trans hw.2.2.1 h1, fun q hq hn => ?_⟩
    rw [h2 q (Nat.lt_of_lt_of_le hq hw.2.2.1)]
    exact hw.2.2.2.1 q hq hn
/-- the callee's statics -/
theorem mg_StC {wc : va_W} {isC : List Nat} (hw : mg_H D A s.heap H locs ws) (hA : ∀ q, s.heap.size ≤ q → A q) (hSt : mg_St A s s.heap) (hC : isC.map (fun i => ws[i]?) = wc.map some) {U : State} (hU : U.heap = H) (hW : s.WarmedH U.vm) : mg_St (va_A wc H.size) U U.heap := by
  rw [hU]
  exact mg_St.moved hW.alike ((hSt.kept hw.2.2.2.1).narrow (mg_freeC hw hA hC))
theorem mg_goodM {y : MethodName} {c1 : ByteArray} {n1 : Nat} {ret : Option FieldType} (h4 : Cond.code y c1 n1 ret ∈ mg_T) : GoodIn mg_T (mg_ws y c1 n1 ret) := fun w hw => by
  have hw2 : w ∈ mg_T := by
    rcases List.mem_cons.mp hw with e | e
    · rw [e]; exact h4
    · exact e
  exact ⟨hw2, good_of_word (List.mem_filter.mp hw2).2⟩
/-- a call that returns, the callee reading the statics -/
theorem mg_callVS {ret : FieldType} {S : Type} {post : Int32 → S → Prop} {wc' : S → va_W} (X : CallFix p m c cc nL s args mg_T own) (hK : mg_K D K s) (hw : mg_H D A s.heap H locs ws) (hA : ∀ q, s.heap.size ≤ q → A q) (hSt : mg_St A s s.heap) (pc' : Nat) (isC : List Nat) (q0 : Nat) (w1 : S → va_W) {ci N : Nat} {T : u_T} {fs : List Value} (hb : ws[q0]? = some (mg_ob b ci fs)) (hcl : mg_CL[ci]? = some (y.cls, T, N))
    (hM : mg_MiS l D K y c1 n1 ret rm (.ref b :: As) wc post wc') (hc : mg_CV own index y c1 n1 (some ret) n) (hR : rm.frames + 1 ≤ R.frames ∧ 8 + (n1 + 11) + rm.locals ≤ R.locals)
    (hrc : rm.cells = 0 ∧ rm.slots = 0) (hC : isC.map (fun i => ws[i]?) = wc.map some) (hnd : va_nd isC = true) (hn : As.length = n) (hls : ls.size = nL) (hst : st0 = As.reverse ++ .ref b :: rest) (hcat : (rest.map fun v => v.category).sum ≤ 8) (hdg : decode cc pc = .ok (.invokevirtual index, 3)) (hf : cells ≤ R.cells ∧ slots ≤ R.slots)
    (had : ∀ u, (wc' u).map (fun q => q.1) = wc.map (fun q => q.1)) (hw1 : ∀ u, mg_pt ws isC (wc' u) = w1 u) (hq : pc + 3 = pc')
    (kk : ∀ (r : Int32) (u : S) (H1 : Heap) (locs1 : List Loc), post r u → mg_H D A s.heap H1 locs1 (w1 u) → W p l e R s m args below meth c H1 locs1 cells slots Q (F0 m pc' ls (.int r :: rest))) : W p l e R s m args below meth c H locs cells slots Q (F0 m pc ls st0) := by
  subst hq
  refine mg_backi (av := (Value.ref b :: As).toArray) hw hA isC w1 hC had hw1 ?_ kk
  obtain ⟨hl, h1, h2, h3, h4, h5, h6, h7⟩ := hc
  have hT := X.2.2.2.2
  have hpre : PreV s H y.cls b (mg_PreS D K (.ref b :: As) wc H.size) As := ⟨mg_PreS.blind D K _ wc H.size, va_recv hK.1 hw.1 hcl hb, fun U hU hW => ⟨rfl, by rw [hU], by rw [hU]; exact mg_cut hw.1 hC, hK.warm hW, (mg_cutD hw.2.1 hnd hC).weaken (fun _ _ _ _ => trivial), mg_StC hw hA hSt hC hU hW⟩⟩
  have hroom : 2 * (F0 m pc ls st0).monitorRoom + (rest.map fun v => v.category).sum ≤ 8 := by show 2 * 0 + _ ≤ 8; omega
  rcases hl with hl | ⟨host, hl⟩
  · exact va_runV X (hM H.size) ⟨callB_of n hT (mg_goodM h4) rfl hrc.1 hrc.2 (hT _ h3) (hT _ hl) ⟨h5, h6, h7⟩ hR, hT _ h1, hT _ h2⟩ hpre rfl hn hls hst hroom hdg hf
  · exact va_runVN X (hM H.size) ⟨va_cnB n hT (mg_goodM h4) rfl hrc.1 hrc.2 (hK.2 _ hl) (hT _ h3) ⟨h5, h6, h7⟩ hR, hT _ h1, hT _ h2⟩ hpre rfl hn hls hst hroom hdg hf
/-- a call that throws E -/
theorem mg_backX {isC : List Nat} {E : String} (hw : mg_H D A s.heap H locs ws) (hA : ∀ q, s.heap.size ≤ q → A q) (hC : isC.map (fun i => ws[i]?) = wc.map some)
    (kx : ∀ (ce : Cell) (q9 : Addr) (H1 : Heap) (locs1 : List Loc), H1[q9]? = some ce → ce.vm = .none → s.vm.findClass E = some ce.cls → mg_H D A s.heap H1 locs1 ws → vx_W p l e R s m args below meth c H1 locs1 (cells + 1) (slots + 6) Q (F0 m pc ls rest) q9)
    (E1 : String) (ce : Cell) (q9 : Addr) (u : Unit) (t : State) (H1 : Heap) (locs1 : List Loc) (ht : t.heap = H1) (hB : E1 = E ∧ va_P D mg_CL wc t.heap ∧ va_D (va_A wc H.size) wc) (hk : ∀ q : Nat, q < H.size → ¬ va_A wc H.size q → H1[q]? = H[q]?) (hS : va_S A s.heap H1 locs1) (h1 : H1[q9]? = some ce) (h2 : ce.vm = .none) (h3 : s.vm.findClass E1 = some ce.cls) :
    vx_W p l e R s m args below meth c H1 locs1 (cells + 1) (slots + 6) Q (F0 m pc ls rest) q9 := by
  obtain ⟨e1, hP1, -⟩ := hB
  subst e1
  rw [ht] at hP1
  have hj := mg_join hw hC rfl hk hP1
  refine kx ce q9 H1 locs1 h1 h2 h3 ⟨?_, hw.2.1, hS⟩
  have e2 : mg_pt ws isC wc = ws := mg_pt_id hC
  rw [e2] at hj
  exact hj.1
theorem mg_callXi {ret : FieldType} {E : String} (X : CallFix p m c cc nL s args mg_T own) (hK : mg_K D K s) (hw : mg_H D A s.heap H locs ws) (hA : ∀ q, s.heap.size ≤ q → A q) (hSt : mg_St A s s.heap) (isC : List Nat) (q0 : Nat) {ci N : Nat} {T : u_T} {fs : List Value} (hb : ws[q0]? = some (mg_ob b ci fs)) (hcl : mg_CL[ci]? = some (y.cls, T, N))
    (hM : mg_Mxi l D K y c1 n1 ret rm (.ref b :: As) wc E) (hl : Cond.methodLink own index y ∈ mg_T) (hc : mg_CV own index y c1 n1 (some ret) n) (hR : rm.frames + 1 ≤ R.frames ∧ 8 + (n1 + 11) + rm.locals ≤ R.locals)
    (hrc : rm.cells = 1 ∧ rm.slots = 6) (hC : isC.map (fun i => ws[i]?) = wc.map some) (hnd : va_nd isC = true) (hn : As.length = n) (hls : ls.size = nL) (hst : st0 = As.reverse ++ .ref b :: rest) (hcat : (rest.map fun v => v.category).sum ≤ 8) (hdg : decode cc pc = .ok (.invokevirtual index, 3)) (hf : cells + 1 ≤ R.cells ∧ slots + 6 ≤ R.slots)
    (kx : ∀ (ce : Cell) (q9 : Addr) (H1 : Heap) (locs1 : List Loc), H1[q9]? = some ce → ce.vm = .none → s.vm.findClass E = some ce.cls → mg_H D A s.heap H1 locs1 ws → vx_W p l e R s m args below meth c H1 locs1 (cells + 1) (slots + 6) Q (F0 m pc ls rest) q9) : W p l e R s m args below meth c H locs cells slots Q (F0 m pc ls st0) := by
  obtain ⟨-, h1, h2, h3, h4, h5, h6, h7⟩ := hc
  have hT := X.2.2.2.2
  have hF := mg_freeC hw hA hC
  have hpre : PreV s H y.cls b (mg_PreS D K (.ref b :: As) wc H.size) As := ⟨mg_PreS.blind D K _ wc H.size, va_recv hK.1 hw.1 hcl hb, fun U hU hW => ⟨rfl, by rw [hU], by rw [hU]; exact mg_cut hw.1 hC, hK.warm hW, (mg_cutD hw.2.1 hnd hC).weaken (fun _ _ _ _ => trivial), mg_StC hw hA hSt hC hU hW⟩⟩
  have hroom : 2 * (F0 m pc ls st0).monitorRoom + (rest.map fun v => v.category).sum ≤ 8 := by show 2 * 0 + _ ≤ 8; omega
  have hrun := vx_runV (e := e) (below := below) (meth := meth) (locs := locs) (g := F0 m pc ls st0) X (hM H.size) ⟨callB_of n hT (mg_goodM h4) rfl hrc.1 hrc.2 (hT _ h3) (hT _ hl) ⟨h5, h6, h7⟩ hR, hT _ h1, hT _ h2⟩ hpre rfl hn hls hst hroom hdg hf
  exact vx_calli hrun hw.2.2 (fun q _ h => hF q h) hF (fun q _ h => hF q h) (fun E1 ce q9 u t H1 locs1 ht _ _ hB _ hk hS a1 a2 a3 => mg_backX hw hA hC kx E1 ce q9 u t H1 locs1 ht hB hk hS a1 a2 a3) (fun r u t H1 locs1 _ _ hp => hp.elim)
theorem mg_callXv {E : String} (X : CallFix p m c cc nL s args mg_T own) (hK : mg_K D K s) (hw : mg_H D A s.heap H locs ws) (hA : ∀ q, s.heap.size ≤ q → A q) (hSt : mg_St A s s.heap) (isC : List Nat) (q0 : Nat) {ci N : Nat} {T : u_T} {fs : List Value} (hb : ws[q0]? = some (mg_ob b ci fs)) (hcl : mg_CL[ci]? = some (y.cls, T, N))
    (hM : mg_Mxv l D K y c1 n1 rm (.ref b :: As) wc E) (hl : Cond.methodLink own index y ∈ mg_T) (hc : mg_CV own index y c1 n1 none n) (hR : rm.frames + 1 ≤ R.frames ∧ 8 + (n1 + 11) + rm.locals ≤ R.locals)
    (hrc : rm.cells = 1 ∧ rm.slots = 6) (hC : isC.map (fun i => ws[i]?) = wc.map some) (hnd : va_nd isC = true) (hn : As.length = n) (hls : ls.size = nL) (hst : st0 = As.reverse ++ .ref b :: rest) (hcat : (rest.map fun v => v.category).sum ≤ 8) (hdg : decode cc pc = .ok (.invokevirtual index, 3)) (hf : cells + 1 ≤ R.cells ∧ slots + 6 ≤ R.slots)
    (kx : ∀ (ce : Cell) (q9 : Addr) (H1 : Heap) (locs1 : List Loc), H1[q9]? = some ce → ce.vm = .none → s.vm.findClass E = some ce.cls → mg_H D A s.heap H1 locs1 ws → vx_W p l e R s m args below meth c H1 locs1 (cells + 1) (slots + 6) Q (F0 m pc ls rest) q9) : W p l e R s m args below meth c H locs cells slots Q (F0 m pc ls st0) := by
  obtain ⟨-, h1, h2, h3, h4, h5, h6, h7⟩ := hc
  have hT := X.2.2.2.2
  have hF := mg_freeC hw hA hC
  have hpre : PreV s H y.cls b (mg_PreS D K (.ref b :: As) wc H.size) As := ⟨mg_PreS.blind D K _ wc H.size, va_recv hK.1 hw.1 hcl hb, fun U hU hW => ⟨rfl, by rw [hU], by rw [hU]; exact mg_cut hw.1 hC, hK.warm hW, (mg_cutD hw.2.1 hnd hC).weaken (fun _ _ _ _ => trivial), mg_StC hw hA hSt hC hU hW⟩⟩
  have hroom : 2 * (F0 m pc ls st0).monitorRoom + (rest.map fun v => v.category).sum ≤ 8 := by show 2 * 0 + _ ≤ 8; omega
  have hrun := vx_runV (e := e) (below := below) (meth := meth) (locs := locs) (g := F0 m pc ls st0) X (hM H.size) ⟨callB_of n hT (mg_goodM h4) rfl hrc.1 hrc.2 (hT _ h3) (hT _ hl) ⟨h5, h6, h7⟩ hR, hT _ h1, hT _ h2⟩ hpre rfl hn hls hst hroom hdg hf
  exact vx_callv hrun hw.2.2 (fun q _ h => hF q h) hF (fun q _ h => hF q h) (fun E1 ce q9 u t H1 locs1 ht _ _ hB _ hk hS a1 a2 a3 => mg_backX hw hA hC kx E1 ce q9 u t H1 locs1 ht hB hk hS a1 a2 a3) (fun u t H1 locs1 _ _ hp => hp.elim)
end MX
/-- methods with a table of handlers -/
def mg_wsW (y : MethodName) (cc : ByteArray) (nL : Nat) (ret : Option FieldType) (hh : List (Nat × Nat × Nat × Nat)) : List Cond := Cond.codeWith y cc nL ret hh :: mg_T
def mg_MiW (l : Launch) (D : va_G) (K : Nat → ClassId) (y : MethodName) (cc : ByteArray) (nL : Nat) (ret : FieldType) (hh : List (Nat × Nat × Nat × Nat)) (rm : Room) (mc ms : Nat) (av : List Value) (ws : va_W) {S : Type} (post : Int32 → S → Prop) (ws' : S → va_W) : Prop :=
  ∀ sz, Met l y (mg_wsW y cc nL (some ret) hh) rm (mg_PreS D K av ws sz) (va_Qi post (mg_B D (va_A ws sz) ws') (va_A ws sz)) mc ms (va_A ws sz)
theorem mg_entryW {l : Launch} {D : va_G} {K : Nat → ClassId} {y : MethodName} {cc : ByteArray} {nL mc ms : Nat} {ret : Option FieldType} {hh : List (Nat × Nat × Nat × Nat)} {rm : Room} {av : List Value} {ws : va_W} {sz : Nat} {Qc : (Nat → Prop) → Array Value → State → Outcome → State → Prop}
    (hy : plainName y.cls = true) (hn : (lg_sl av).length ≤ nL)
    (h : ∀ (p : Program) (e : Env) (s : State) (m : MethodId) (args : Array Value) (below : List Frame) (meth : Method) (c : Code) (A : Nat → Prop) (ls : Array Slot), CallFix p m c cc nL s args mg_T y.cls → c.exceptionTable.toList = tableOf hh → meth.sig.returnType = ret → meth.locks = false →
      (∀ q, s.heap.size ≤ q → A q) → mg_K D K s → mg_H D A s.heap s.heap [] ws → mg_St A s s.heap → lv_has ls nL (lv_args 0 av) → W p l e rm s m args below meth c s.heap [] 0 0 (MQ below (Qc A) args s mc ms A) (F0 m 0 ls [])) :
    Met l y (mg_wsW y cc nL ret hh) rm (mg_PreS D K av ws sz) (Qc (va_A ws sz)) mc ms (va_A ws sz) := by
  refine va_MetW (cc := cc) (maxL := nL) (ret := ret) (hh := hh) hy rfl ?_
  intro p e s m args below meth c s₁ B hml hv
  obtain ⟨rfl, hsz, hP, hK, hD0, hSt⟩ := hv
  have hts := atoms_spec (ws := mg_wsW y cc nL ret hh) B.pre
  have htab := vx_table (x := y) B (hts _ List.mem_cons_self)
  subst hsz
  have hl := lv_entry av (n := nL) hn
  rw [lg_entry_eq]
  generalize (lg_sl av ++ List.replicate (nL - (lg_sl av).length) Slot.unset).toArray = ls at hl ⊢
  exact h p e s m _ below meth c (va_A ws s.heap.size) ls ⟨B.exec, B.bytes, hml, findClass_of_methodNamed B.named, fun w hw => hts w (List.mem_cons_of_mem _ hw)⟩ htab B.returns B.notSynchronized
    (fun q h => Or.inr h) hK ⟨hP, hD0.self, va_S.rf⟩ hSt hl
def mg_CW (own : String) (index : Nat) (y : MethodName) (cc : ByteArray) (nL : Nat) (ret : Option FieldType) (hh : List (Nat × Nat × Nat × Nat)) (n : Nat) : Prop :=
  Cond.methodLink own index y ∈ mg_T ∧ Cond.static y ∈ mg_T ∧ Cond.initialized y.cls ∈ mg_T ∧ Cond.codeWith y cc nL ret hh ∈ mg_T ∧
  y.cls ≠ "java/lang/invoke/MethodHandle" ∧ y.cls ≠ "java/lang/invoke/VarHandle" ∧ (parseMethodDescriptor y.desc).map (fun d => d.parameters.length) = some n
section MY
variable {p : Program} {l : Launch} {e : Env} {R : Room} {s : State} {m : MethodId} {args : Array Value} {below : List Frame} {meth : Method} {c : Code} {H : Heap} {locs : List Loc} {cells slots : Nat} {Q : State → Prop}
variable {cc c1 : ByteArray} {nL pc n1 n index mc ms : Nat} {own : String} {ls : Array Slot} {rest As st0 : List Value} {D : va_G} {K : Nat → ClassId} {A : Nat → Prop} {ws wc : va_W} {b : Nat} {y : MethodName} {rm : Room}
theorem mg_callWi {ret : FieldType} {hh : List (Nat × Nat × Nat × Nat)} {S : Type} {post : Int32 → S → Prop} {wc' : S → va_W} (X : CallFix p m c cc nL s args mg_T own) (hK : mg_K D K s) (hw : mg_H D A s.heap H locs ws) (hA : ∀ q, s.heap.size ≤ q → A q) (hSt : mg_St A s s.heap) (pc' : Nat) (isC : List Nat) (w1 : S → va_W)
    (hM : mg_MiW l D K y c1 n1 ret hh rm mc ms As wc post wc') (hc : mg_CW own index y c1 n1 (some ret) hh n) (hR : rm.frames + 1 ≤ R.frames ∧ 8 + (n1 + 11) + rm.locals ≤ R.locals)
    (hrc : rm.cells = mc ∧ rm.slots = ms) (hC : isC.map (fun i => ws[i]?) = wc.map some) (hnd : va_nd isC = true) (hn : As.length = n) (hls : ls.size = nL) (hst : st0 = As.reverse ++ rest) (hcat : (rest.map fun v => v.category).sum ≤ 8) (hdg : decode cc pc = .ok (.invokestatic index, 3)) (hf : cells + mc ≤ R.cells ∧ slots + ms ≤ R.slots)
    (had : ∀ u, (wc' u).map (fun q => q.1) = wc.map (fun q => q.1)) (hw1 : ∀ u, mg_pt ws isC (wc' u) = w1 u) (hq : pc + 3 = pc')
    (kk : ∀ (r : Int32) (u : S) (H1 : Heap) (locs1 : List Loc), post r u → mg_H D A s.heap H1 locs1 (w1 u) → W p l e R s m args below meth c H1 locs1 (cells + mc) (slots + ms) Q (F0 m pc' ls (.int r :: rest))) : W p l e R s m args below meth c H locs cells slots Q (F0 m pc ls st0) := by
  subst hq
  obtain ⟨hl, h1, h3, h4, h5, h6, h7⟩ := hc
  have hT := X.2.2.2.2
  have hF := mg_freeC hw hA hC
  have hgood : ∀ w ∈ mg_wsW y c1 n1 (some ret) hh, w ∈ mg_T := fun w hw => by
    rcases List.mem_cons.mp hw with e | e
    · rw [e]; exact h4
    · exact e
  have hG : GoodIn mg_T (va_wsS own index y (mg_wsW y c1 n1 (some ret) hh)) := fun w hw => by
    have hw2 : w ∈ mg_T := by
      simp only [va_wsS, List.mem_append, List.mem_cons, List.not_mem_nil, or_false] at hw
      rcases hw with hw | hw
      · rcases hw with e | e | e
        · rw [e]; exact hl
        · rw [e]; exact h1
        · rw [e]; exact h3
      · exact hgood w hw
    exact ⟨hw2, good_of_word (List.mem_filter.mp hw2).2⟩
  have hpre : PreS s H (mg_PreS D K As wc H.size) As := ⟨mg_PreS.blind D K _ wc H.size, fun U hU hW => ⟨rfl, by rw [hU], by rw [hU]; exact mg_cut hw.1 hC, hK.warm hW, (mg_cutD hw.2.1 hnd hC).weaken (fun _ _ _ _ => trivial), mg_StC hw hA hSt hC hU hW⟩⟩
  have hroom : 2 * (F0 m pc ls st0).monitorRoom + (rest.map fun v => v.category).sum ≤ 8 := by show 2 * 0 + _ ≤ 8; omega
  have hrun := vx_runSW (e := e) (below := below) (meth := meth) (locs := locs) (g := F0 m pc ls st0) X (hM H.size) (vx_cwSW n hT hG rfl hrc.1 hrc.2 ⟨h5, h6, h7⟩ hR) hpre rfl hn hls hst hroom hdg hf
  refine va_calli hrun hw.2.2 (fun q _ h => hF q h) hF (fun r u t H1 locs1 ht _ hp hB _ hk hS => ?_)
  have hP1 := hB.1
  rw [ht] at hP1
  have hj := mg_join hw hC (had u) hk hP1
  rw [hw1 u] at hj
  exact kk r u H1 locs1 hp ⟨hj.1, hj.2, hS⟩
end MY
