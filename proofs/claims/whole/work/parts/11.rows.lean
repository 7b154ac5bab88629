/-! My own rows over the kit: numbers are naturals (nI, lN), arrays hold naturals, one list of words for all methods. -/
/-- the words that stay when tables warm, and those of nest mates -/
def mg_T : List Cond := lw_tbl.filter goodWord
def mg_nw : Cond → Bool
  | .fieldLinkNest .. => true
  | .methodLinkNest .. => true
  | _ => false
def mg_NW : List Cond := lw_tbl.filter mg_nw
theorem mg_in {w : Cond} (i : Nat) (h : lw_tbl[i]? = some w) (hg : goodWord w = true) : w ∈ mg_T := List.mem_filter.mpr ⟨List.mem_of_getElem? h, hg⟩
theorem mg_inN {w : Cond} (i : Nat) (h : lw_tbl[i]? = some w) (hg : mg_nw w = true) : w ∈ mg_NW := List.mem_filter.mpr ⟨List.mem_of_getElem? h, hg⟩
def mg_ws (y : MethodName) (cc : ByteArray) (nL : Nat) (ret : Option FieldType) : List Cond := Cond.code y cc nL ret :: mg_T
theorem mg_good {y0 y : MethodName} {c0 cc : ByteArray} {n0 nL : Nat} {r0 ret : Option FieldType} (h : Cond.code y cc nL ret ∈ mg_T) : GoodIn (mg_ws y0 c0 n0 r0) (mg_ws y cc nL ret) := by
  intro w hw
  have hw2 : w ∈ mg_T := by
    rcases List.mem_cons.mp hw with e | e
    · rw [e]; exact h
    · exact e
  exact ⟨List.mem_cons_of_mem _ hw2, good_of_word (List.mem_filter.mp hw2).2⟩
/-- arrays of naturals -/
def mg_I (d : Nat → Nat) : Nat → Int32 := fun i => nI (d i)
def mg_L (d : Nat → Nat) : Nat → Int64 := fun i => lN (d i)
theorem mg_I_up (d : Nat → Nat) (k x : Nat) : upd (mg_I d) k (nI x) = mg_I (va_up d k x) := by
  funext j
  by_cases h : j = k
  · subst h; rw [pk_us]; show _ = nI _; rw [va_up_self]
  · rw [pk_un h]; show nI _ = nI _; rw [va_up_ne d x h]
theorem mg_L_up (d : Nat → Nat) (k x : Nat) : vp_updL (mg_L d) k (lN x) = mg_L (va_up d k x) := by
  funext j
  by_cases h : j = k
  · subst h; rw [pk_uLs]; show _ = lN _; rw [va_up_self]
  · rw [pk_uLn h]; show lN _ = lN _; rw [va_up_ne d x h]
/-- the array classes: int, long, char, boolean -/
def mg_TY (K : Nat → ClassId) : List (ClassId × FieldType) := [(K 0, .int), (K 1, .long), (K 2, .char), (K 3, .boolean)]
abbrev mg_ai (K : Nat → ClassId) (a n : Nat) (d : Nat → Nat) : Nat × va_E := (a, .inl (K 0, n, .inl (mg_I d)))
abbrev mg_al (K : Nat → ClassId) (a n : Nat) (d : Nat → Nat) : Nat × va_E := (a, .inl (K 1, n, .inr (.inl (mg_L d))))
abbrev mg_ac (K : Nat → ClassId) (a n : Nat) (d : Nat → Nat) : Nat × va_E := (a, .inl (K 2, n, .inl (mg_I d)))
abbrev mg_az (K : Nat → ClassId) (a n : Nat) (d : Nat → Nat) : Nat × va_E := (a, .inl (K 3, n, .inl (mg_I d)))
abbrev mg_ob (a ci : Nat) (fs : List Value) : Nat × va_E := (a, .inr (ci, fs))
/-- what the tables say, all through a method -/
def mg_K (D : va_G) (K : Nat → ClassId) (U : State) : Prop := va_K D mg_CL (mg_TY K) U ∧ ∀ w ∈ mg_NW, va_Nw w U
/-- the world: the cells, apart, and what has not been touched -/
def mg_H (D : va_G) (A : Nat → Prop) (H0 H : Heap) (locs : List Loc) (ws : va_W) : Prop := va_P D mg_CL ws H ∧ va_D A ws ∧ va_S A H0 H locs
theorem mg_nw_warm {w : Cond} (hw : mg_nw w = true) {s U : State} (hW : s.WarmedH U.vm) (h : va_Nw w s) : va_Nw w U := by
  cases w <;> first | exact va_Nw.warmF hW h | exact va_Nw.warmM hW h | (simp [mg_nw] at hw; done)
theorem mg_nw_on {w : Cond} (hw : mg_nw w = true) : w.onTables = true := by
  cases w <;> first | rfl | (simp [mg_nw] at hw; done)
theorem mg_K.warm {D : va_G} {K : Nat → ClassId} {s U : State} (hW : s.WarmedH U.vm) (h : mg_K D K s) : mg_K D K U :=
  ⟨va_K.moved hW.alike h.1, fun w hw => mg_nw_warm (List.mem_filter.mp hw).2 hW (h.2 w hw)⟩
theorem mg_K.calling {D : va_G} {K : Nat → ClassId} {U : State} {g : JFrame} {mk : MethodId} {a : Array Value} (h : mg_K D K U) : mg_K D K (U.calling g mk a) :=
  ⟨va_K.moved (u := U) (U := U.calling g mk a) (Vm.Alike.refl U.vm) h.1, fun w hw => va_Nw.same (mg_nw_on (List.mem_filter.mp hw).2) (rfl : U.vm = (U.calling g mk a).vm) (h.2 w hw)⟩
/-- a method's start -/
def mg_Pre (D : va_G) (K : Nat → ClassId) (av : List Value) (ws : va_W) (sz : Nat) : Array Value → State → Prop :=
  va_Pc av (fun U => U.heap.size = sz ∧ va_P D mg_CL ws U.heap ∧ mg_K D K U ∧ va_D (fun _ => True) ws)
theorem mg_Pre.blind (D : va_G) (K : Nat → ClassId) (av : List Value) (ws : va_W) (sz : Nat) : FrameBlind (mg_Pre D K av ws sz) := fun a U g mk q => by
  obtain ⟨q0, q1, qP, qK, qD⟩ := q
  exact ⟨q0, q1, qP, qK.calling, qD⟩
abbrev mg_B (D : va_G) (A : Nat → Prop) {S : Type} (ws' : S → va_W) : S → State → Prop := fun u t => va_P D mg_CL (ws' u) t.heap ∧ va_D A (ws' u)
/-- contracts of methods that make nothing: void, int -/
def mg_Mv (l : Launch) (D : va_G) (K : Nat → ClassId) (y : MethodName) (cc : ByteArray) (nL : Nat) (rm : Room) (av : List Value) (ws : va_W) {S : Type} (post : S → Prop) (ws' : S → va_W) : Prop :=
  ∀ sz, Met l y (mg_ws y cc nL none) rm (mg_Pre D K av ws sz) (va_Qv post (mg_B D (va_A ws sz) ws') (va_A ws sz)) 0 0 (va_A ws sz)
def mg_Mi (l : Launch) (D : va_G) (K : Nat → ClassId) (y : MethodName) (cc : ByteArray) (nL : Nat) (ret : FieldType) (rm : Room) (av : List Value) (ws : va_W) {S : Type} (post : Int32 → S → Prop) (ws' : S → va_W) : Prop :=
  ∀ sz, Met l y (mg_ws y cc nL (some ret)) rm (mg_Pre D K av ws sz) (va_Qi post (mg_B D (va_A ws sz) ws') (va_A ws sz)) 0 0 (va_A ws sz)
/-- a method's entry -/
theorem mg_entry {l : Launch} {D : va_G} {K : Nat → ClassId} {y : MethodName} {cc : ByteArray} {nL mc ms : Nat} {ret : Option FieldType} {rm : Room} {av : List Value} {ws : va_W} {sz : Nat} {Qc : (Nat → Prop) → Array Value → State → Outcome → State → Prop}
    (hy : plainName y.cls = true) (hn : (lg_sl av).length ≤ nL)
    (h : ∀ (p : Program) (e : Env) (s : State) (m : MethodId) (args : Array Value) (below : List Frame) (meth : Method) (c : Code) (A : Nat → Prop) (ls : Array Slot), CallFix p m c cc nL s args mg_T y.cls → meth.sig.returnType = ret → meth.locks = false → meth.name = y.name →
      (∀ q, s.heap.size ≤ q → A q) → mg_K D K s → mg_H D A s.heap s.heap [] ws → lv_has ls nL (lv_args 0 av) → W p l e rm s m args below meth c s.heap [] 0 0 (MQ below (Qc A) args s mc ms A) (F0 m 0 ls [])) :
    Met l y (mg_ws y cc nL ret) rm (mg_Pre D K av ws sz) (Qc (va_A ws sz)) mc ms (va_A ws sz) := by
  refine Met.ofW (cc := cc) (maxL := nL) (ret := ret) hy rfl ?_
  intro p e s m args below meth c s₁ B hml hv
  obtain ⟨rfl, hsz, hP, hK, hD0⟩ := hv
  have hts := atoms_spec (ws := mg_ws y cc nL ret) B.pre
  subst hsz
  have hl := lv_entry av (n := nL) hn
  rw [lg_entry_eq]
  generalize (lg_sl av ++ List.replicate (nL - (lg_sl av).length) Slot.unset).toArray = ls at hl ⊢
  exact h p e s m _ below meth c (va_A ws s.heap.size) ls ⟨B.exec, B.bytes, hml, findClass_of_methodNamed B.named, fun w hw => hts w (List.mem_cons_of_mem _ hw)⟩ B.returns B.notSynchronized (name_of_methodNamed B.named B.method).1
    (fun q h => Or.inr h) hK ⟨hP, hD0.self, va_S.rf⟩ hl
section MG
variable {p : Program} {l : Launch} {e : Env} {R : Room} {s : State} {m : MethodId} {args : Array Value} {below : List Frame} {meth : Method} {c : Code} {H : Heap} {locs : List Loc} {cells slots : Nat} {Q : State → Prop}
variable {cc : ByteArray} {nL pc : Nat} {own : String} {ls : Array Slot} {rest : List Value}
theorem mg_iconst (X : CallFix p m c cc nL s args mg_T own) (pc' : Nat) (k : Nat) {n : Int} (hdg : decode cc pc = .ok (.iconst n, 1)) (hv : Int32.ofInt n = nI k) (hq : pc + 1 = pc') (kk : W p l e R s m args below meth c H locs cells slots Q (F0 m pc' ls (.int (nI k) :: rest))) : W p l e R s m args below meth c H locs cells slots Q (F0 m pc ls (rest)) := by
  subst hq
  exact lv_iconst X.1 X.2.1 hdg hv kk
theorem mg_bipush (X : CallFix p m c cc nL s args mg_T own) (pc' : Nat) (k : Nat) {n : Int} (hdg : decode cc pc = .ok (.bipush n, 2)) (hv : (Int8.ofInt n).toInt32 = nI k) (hq : pc + 2 = pc') (kk : W p l e R s m args below meth c H locs cells slots Q (F0 m pc' ls (.int (nI k) :: rest))) : W p l e R s m args below meth c H locs cells slots Q (F0 m pc ls (rest)) := by
  subst hq
  exact lv_bipush X.1 X.2.1 hdg hv kk
theorem mg_sipush (X : CallFix p m c cc nL s args mg_T own) (pc' : Nat) (k : Nat) {n : Int} (hdg : decode cc pc = .ok (.sipush n, 3)) (hv : (Int16.ofInt n).toInt32 = nI k) (hq : pc + 3 = pc') (kk : W p l e R s m args below meth c H locs cells slots Q (F0 m pc' ls (.int (nI k) :: rest))) : W p l e R s m args below meth c H locs cells slots Q (F0 m pc ls (rest)) := by
  subst hq
  exact lv_sipush X.1 X.2.1 hdg hv kk
theorem mg_lconst (X : CallFix p m c cc nL s args mg_T own) (pc' : Nat) (k : Nat) {n : Fin 2} (hdg : decode cc pc = .ok (.lconst n, 1)) (hv : Int64.ofNat (n : Nat) = lN k) (hq : pc + 1 = pc') (kk : W p l e R s m args below meth c H locs cells slots Q (F0 m pc' ls (.long (lN k) :: rest))) : W p l e R s m args below meth c H locs cells slots Q (F0 m pc ls (rest)) := by
  subst hq
  exact lv_lconst X.1 X.2.1 hdg hv kk
theorem mg_ldc2 (X : CallFix p m c cc nL s args mg_T own) (pc' : Nat) (k : Nat) {v : Int64} {index : Nat} (hdg : decode cc pc = .ok (.ldc2_w index, 3)) (hc : Cond.constantLong own index v ∈ mg_T) (hv : v = lN k) (hq : pc + 3 = pc') (kk : W p l e R s m args below meth c H locs cells slots Q (F0 m pc' ls (.long (lN k) :: rest))) : W p l e R s m args below meth c H locs cells slots Q (F0 m pc ls (rest)) := by
  subst hq
  exact lv_ldc2 X.1 X.2.1 X.2.2.2.1 (X.2.2.2.2 _ hc) hdg (hv ▸ kk)
theorem mg_ldc (X : CallFix p m c cc nL s args mg_T own) (pc' : Nat) (k : Nat) {v : Int32} {index : Nat} (hdg : decode cc pc = .ok (.ldc index, 2)) (hc : Cond.constant own index v ∈ mg_T) (hv : v = nI k) (hq : pc + 2 = pc') (kk : W p l e R s m args below meth c H locs cells slots Q (F0 m pc' ls (.int (nI k) :: rest))) : W p l e R s m args below meth c H locs cells slots Q (F0 m pc ls (rest)) := by
  subst hq
  exact lv_ldc X.1 X.2.1 X.2.2.2.1 (X.2.2.2.2 _ hc) hdg (hv ▸ kk)
theorem mg_iload_n (X : CallFix p m c cc nL s args mg_T own) (pc' : Nat) {k : Fin 4} {x : Int32} (hdg : decode cc pc = .ok (.iload_n k, 1)) (hl : ls[(k : Nat)]? = some (.val (.int x))) (hq : pc + 1 = pc') (kk : W p l e R s m args below meth c H locs cells slots Q (F0 m pc' ls (.int x :: rest))) : W p l e R s m args below meth c H locs cells slots Q (F0 m pc ls (rest)) := by
  subst hq
  exact lv_iload_n X.1 X.2.1 hdg rfl hl kk
theorem mg_iload (X : CallFix p m c cc nL s args mg_T own) (pc' : Nat) {k : Nat} {x : Int32} (hdg : decode cc pc = .ok (.iload k, 2)) (hl : ls[k]? = some (.val (.int x))) (hq : pc + 2 = pc') (kk : W p l e R s m args below meth c H locs cells slots Q (F0 m pc' ls (.int x :: rest))) : W p l e R s m args below meth c H locs cells slots Q (F0 m pc ls (rest)) := by
  subst hq
  exact lv_iload X.1 X.2.1 hdg hl kk
theorem mg_istore_n (X : CallFix p m c cc nL s args mg_T own) (pc' : Nat) (lv' : List (Nat × Value)) {k : Fin 4} {x : Int32} {lv : List (Nat × Value)} (hdg : decode cc pc = .ok (.istore_n k, 1)) (h : lv_has ls nL lv) (hn : (k : Nat) < nL) (hl : ((k : Nat), Value.int x) :: lv.filter (fun q => !(q.1 == (k : Nat)) && !(q.1 + 1 == (k : Nat) && q.2.category == 2)) = lv') (hq : pc + 1 = pc') (kk : ∀ ls' : Array Slot, lv_has ls' nL lv' → W p l e R s m args below meth c H locs cells slots Q (F0 m pc' ls' rest)) : W p l e R s m args below meth c H locs cells slots Q (F0 m pc ls (.int x :: rest)) := by
  subst hq
  exact lv_istore_n X.1 X.2.1 hdg rfl h hn hl kk
theorem mg_istore (X : CallFix p m c cc nL s args mg_T own) (pc' : Nat) (lv' : List (Nat × Value)) {k : Nat} {x : Int32} {lv : List (Nat × Value)} (hdg : decode cc pc = .ok (.istore k, 2)) (h : lv_has ls nL lv) (hn : k < nL) (hl : (k, Value.int x) :: lv.filter (fun q => !(q.1 == k) && !(q.1 + 1 == k && q.2.category == 2)) = lv') (hq : pc + 2 = pc') (kk : ∀ ls' : Array Slot, lv_has ls' nL lv' → W p l e R s m args below meth c H locs cells slots Q (F0 m pc' ls' rest)) : W p l e R s m args below meth c H locs cells slots Q (F0 m pc ls (.int x :: rest)) := by
  subst hq
  exact lv_istore X.1 X.2.1 hdg h hn hl kk
theorem mg_lload_n (X : CallFix p m c cc nL s args mg_T own) (pc' : Nat) {k : Fin 4} {x : Int64} (hdg : decode cc pc = .ok (.lload_n k, 1)) (hl : ls[(k : Nat)]? = some (.val (.long x))) (hq : pc + 1 = pc') (kk : W p l e R s m args below meth c H locs cells slots Q (F0 m pc' ls (.long x :: rest))) : W p l e R s m args below meth c H locs cells slots Q (F0 m pc ls (rest)) := by
  subst hq
  exact lv_lload_n X.1 X.2.1 hdg rfl hl kk
theorem mg_lload (X : CallFix p m c cc nL s args mg_T own) (pc' : Nat) {k : Nat} {x : Int64} (hdg : decode cc pc = .ok (.lload k, 2)) (hl : ls[k]? = some (.val (.long x))) (hq : pc + 2 = pc') (kk : W p l e R s m args below meth c H locs cells slots Q (F0 m pc' ls (.long x :: rest))) : W p l e R s m args below meth c H locs cells slots Q (F0 m pc ls (rest)) := by
  subst hq
  exact lv_lload X.1 X.2.1 hdg hl kk
theorem mg_lstore_n (X : CallFix p m c cc nL s args mg_T own) (pc' : Nat) (lv' : List (Nat × Value)) {k : Fin 4} {x : Int64} {lv : List (Nat × Value)} (hdg : decode cc pc = .ok (.lstore_n k, 1)) (h : lv_has ls nL lv) (hn : (k : Nat) + 1 < nL) (hl : ((k : Nat), Value.long x) :: lv.filter (fun q => !(q.1 == (k : Nat)) && (!(q.1 == (k : Nat) + 1) && !(q.1 + 1 == (k : Nat) && q.2.category == 2))) = lv') (hq : pc + 1 = pc') (kk : ∀ ls' : Array Slot, lv_has ls' nL lv' → W p l e R s m args below meth c H locs cells slots Q (F0 m pc' ls' rest)) : W p l e R s m args below meth c H locs cells slots Q (F0 m pc ls (.long x :: rest)) := by
  subst hq
  exact lv_lstore_n X.1 X.2.1 hdg rfl h hn hl kk
theorem mg_lstore (X : CallFix p m c cc nL s args mg_T own) (pc' : Nat) (lv' : List (Nat × Value)) {k : Nat} {x : Int64} {lv : List (Nat × Value)} (hdg : decode cc pc = .ok (.lstore k, 2)) (h : lv_has ls nL lv) (hn : k + 1 < nL) (hl : (k, Value.long x) :: lv.filter (fun q => !(q.1 == k) && (!(q.1 == k + 1) && !(q.1 + 1 == k && q.2.category == 2))) = lv') (hq : pc + 2 = pc') (kk : ∀ ls' : Array Slot, lv_has ls' nL lv' → W p l e R s m args below meth c H locs cells slots Q (F0 m pc' ls' rest)) : W p l e R s m args below meth c H locs cells slots Q (F0 m pc ls (.long x :: rest)) := by
  subst hq
  exact lv_lstore X.1 X.2.1 hdg h hn hl kk
theorem mg_aload_n (X : CallFix p m c cc nL s args mg_T own) (pc' : Nat) {k : Fin 4} {x : Nat} (hdg : decode cc pc = .ok (.aload_n k, 1)) (hl : ls[(k : Nat)]? = some (.val (.ref x))) (hq : pc + 1 = pc') (kk : W p l e R s m args below meth c H locs cells slots Q (F0 m pc' ls (.ref x :: rest))) : W p l e R s m args below meth c H locs cells slots Q (F0 m pc ls (rest)) := by
  subst hq
  exact lv_aload_n X.1 X.2.1 hdg rfl hl kk
theorem mg_aload (X : CallFix p m c cc nL s args mg_T own) (pc' : Nat) {k : Nat} {x : Nat} (hdg : decode cc pc = .ok (.aload k, 2)) (hl : ls[k]? = some (.val (.ref x))) (hq : pc + 2 = pc') (kk : W p l e R s m args below meth c H locs cells slots Q (F0 m pc' ls (.ref x :: rest))) : W p l e R s m args below meth c H locs cells slots Q (F0 m pc ls (rest)) := by
  subst hq
  exact lv_aload X.1 X.2.1 hdg hl kk
theorem mg_astore_n (X : CallFix p m c cc nL s args mg_T own) (pc' : Nat) (lv' : List (Nat × Value)) {k : Fin 4} {x : Nat} {lv : List (Nat × Value)} (hdg : decode cc pc = .ok (.astore_n k, 1)) (h : lv_has ls nL lv) (hn : (k : Nat) < nL) (hl : ((k : Nat), Value.ref x) :: lv.filter (fun q => !(q.1 == (k : Nat)) && !(q.1 + 1 == (k : Nat) && q.2.category == 2)) = lv') (hq : pc + 1 = pc') (kk : ∀ ls' : Array Slot, lv_has ls' nL lv' → W p l e R s m args below meth c H locs cells slots Q (F0 m pc' ls' rest)) : W p l e R s m args below meth c H locs cells slots Q (F0 m pc ls (.ref x :: rest)) := by
  subst hq
  exact lv_astore_n X.1 X.2.1 hdg rfl h hn hl kk
theorem mg_astore (X : CallFix p m c cc nL s args mg_T own) (pc' : Nat) (lv' : List (Nat × Value)) {k : Nat} {x : Nat} {lv : List (Nat × Value)} (hdg : decode cc pc = .ok (.astore k, 2)) (h : lv_has ls nL lv) (hn : k < nL) (hl : (k, Value.ref x) :: lv.filter (fun q => !(q.1 == k) && !(q.1 + 1 == k && q.2.category == 2)) = lv') (hq : pc + 2 = pc') (kk : ∀ ls' : Array Slot, lv_has ls' nL lv' → W p l e R s m args below meth c H locs cells slots Q (F0 m pc' ls' rest)) : W p l e R s m args below meth c H locs cells slots Q (F0 m pc ls (.ref x :: rest)) := by
  subst hq
  exact lv_astore X.1 X.2.1 hdg h hn hl kk
theorem mg_iinc (X : CallFix p m c cc nL s args mg_T own) (pc' : Nat) (lv' : List (Nat × Value)) (v : Nat) {i k : Nat} {n : Int} {x : Int32} {lv : List (Nat × Value)} (hdg : decode cc pc = .ok (.iinc i n, 3)) (h : lv_has ls nL lv) (hk : lv[k]? = some (i, .int x)) (hv : x + Int32.ofInt n = nI v) (hn : i < nL) (hl : (i, Value.int (nI v)) :: lv.filter (fun q => !(q.1 == i) && !(q.1 + 1 == i && q.2.category == 2)) = lv') (hq : pc + 3 = pc') (kk : ∀ ls' : Array Slot, lv_has ls' nL lv' → W p l e R s m args below meth c H locs cells slots Q (F0 m pc' ls' rest)) : W p l e R s m args below meth c H locs cells slots Q (F0 m pc ls rest) := by
  subst hq
  exact lv_iinc X.1 X.2.1 hdg h hk hv hn hl kk
theorem mg_iadd (X : CallFix p m c cc nL s args mg_T own) (pc' : Nat) (v : Int32) {x y : Int32} (hdg : decode cc pc = .ok (.iadd, 1)) (hv : x + y = v) (hq : pc + 1 = pc') (kk : W p l e R s m args below meth c H locs cells slots Q (F0 m pc' ls (.int v :: rest))) : W p l e R s m args below meth c H locs cells slots Q (F0 m pc ls (.int y :: .int x :: rest)) := by
  subst hq
  exact lv_iadd X.1 X.2.1 hdg (hv ▸ kk)
theorem mg_isub (X : CallFix p m c cc nL s args mg_T own) (pc' : Nat) (v : Int32) {x y : Int32} (hdg : decode cc pc = .ok (.isub, 1)) (hv : x - y = v) (hq : pc + 1 = pc') (kk : W p l e R s m args below meth c H locs cells slots Q (F0 m pc' ls (.int v :: rest))) : W p l e R s m args below meth c H locs cells slots Q (F0 m pc ls (.int y :: .int x :: rest)) := by
  subst hq
  exact lv_isub X.1 X.2.1 hdg (hv ▸ kk)
theorem mg_imul (X : CallFix p m c cc nL s args mg_T own) (pc' : Nat) (v : Int32) {x y : Int32} (hdg : decode cc pc = .ok (.imul, 1)) (hv : x * y = v) (hq : pc + 1 = pc') (kk : W p l e R s m args below meth c H locs cells slots Q (F0 m pc' ls (.int v :: rest))) : W p l e R s m args below meth c H locs cells slots Q (F0 m pc ls (.int y :: .int x :: rest)) := by
  subst hq
  exact lv_imul X.1 X.2.1 hdg (hv ▸ kk)
theorem mg_iand (X : CallFix p m c cc nL s args mg_T own) (pc' : Nat) (v : Int32) {x y : Int32} (hdg : decode cc pc = .ok (.iand, 1)) (hv : x &&& y = v) (hq : pc + 1 = pc') (kk : W p l e R s m args below meth c H locs cells slots Q (F0 m pc' ls (.int v :: rest))) : W p l e R s m args below meth c H locs cells slots Q (F0 m pc ls (.int y :: .int x :: rest)) := by
  subst hq
  exact lv_iand X.1 X.2.1 hdg (hv ▸ kk)
theorem mg_ior (X : CallFix p m c cc nL s args mg_T own) (pc' : Nat) (v : Int32) {x y : Int32} (hdg : decode cc pc = .ok (.ior, 1)) (hv : x ||| y = v) (hq : pc + 1 = pc') (kk : W p l e R s m args below meth c H locs cells slots Q (F0 m pc' ls (.int v :: rest))) : W p l e R s m args below meth c H locs cells slots Q (F0 m pc ls (.int y :: .int x :: rest)) := by
  subst hq
  exact lv_ior X.1 X.2.1 hdg (hv ▸ kk)
theorem mg_ixor (X : CallFix p m c cc nL s args mg_T own) (pc' : Nat) (v : Int32) {x y : Int32} (hdg : decode cc pc = .ok (.ixor, 1)) (hv : x ^^^ y = v) (hq : pc + 1 = pc') (kk : W p l e R s m args below meth c H locs cells slots Q (F0 m pc' ls (.int v :: rest))) : W p l e R s m args below meth c H locs cells slots Q (F0 m pc ls (.int y :: .int x :: rest)) := by
  subst hq
  exact lv_ixor X.1 X.2.1 hdg (hv ▸ kk)
theorem mg_ishl (X : CallFix p m c cc nL s args mg_T own) (pc' : Nat) (v : Int32) {x y : Int32} (hdg : decode cc pc = .ok (.ishl, 1)) (hv : x <<< (y &&& 31) = v) (hq : pc + 1 = pc') (kk : W p l e R s m args below meth c H locs cells slots Q (F0 m pc' ls (.int v :: rest))) : W p l e R s m args below meth c H locs cells slots Q (F0 m pc ls (.int y :: .int x :: rest)) := by
  subst hq
  exact lv_ishl X.1 X.2.1 hdg (hv ▸ kk)
theorem mg_ishr (X : CallFix p m c cc nL s args mg_T own) (pc' : Nat) (v : Int32) {x y : Int32} (hdg : decode cc pc = .ok (.ishr, 1)) (hv : x >>> (y &&& 31) = v) (hq : pc + 1 = pc') (kk : W p l e R s m args below meth c H locs cells slots Q (F0 m pc' ls (.int v :: rest))) : W p l e R s m args below meth c H locs cells slots Q (F0 m pc ls (.int y :: .int x :: rest)) := by
  subst hq
  exact lv_ishr X.1 X.2.1 hdg (hv ▸ kk)
theorem mg_ladd (X : CallFix p m c cc nL s args mg_T own) (pc' : Nat) (v : Int64) {x y : Int64} (hdg : decode cc pc = .ok (.ladd, 1)) (hv : x + y = v) (hq : pc + 1 = pc') (kk : W p l e R s m args below meth c H locs cells slots Q (F0 m pc' ls (.long v :: rest))) : W p l e R s m args below meth c H locs cells slots Q (F0 m pc ls (.long y :: .long x :: rest)) := by
  subst hq
  exact lv_ladd X.1 X.2.1 hdg (hv ▸ kk)
theorem mg_lsub (X : CallFix p m c cc nL s args mg_T own) (pc' : Nat) (v : Int64) {x y : Int64} (hdg : decode cc pc = .ok (.lsub, 1)) (hv : x - y = v) (hq : pc + 1 = pc') (kk : W p l e R s m args below meth c H locs cells slots Q (F0 m pc' ls (.long v :: rest))) : W p l e R s m args below meth c H locs cells slots Q (F0 m pc ls (.long y :: .long x :: rest)) := by
  subst hq
  exact lv_lsub X.1 X.2.1 hdg (hv ▸ kk)
theorem mg_lmul (X : CallFix p m c cc nL s args mg_T own) (pc' : Nat) (v : Int64) {x y : Int64} (hdg : decode cc pc = .ok (.lmul, 1)) (hv : x * y = v) (hq : pc + 1 = pc') (kk : W p l e R s m args below meth c H locs cells slots Q (F0 m pc' ls (.long v :: rest))) : W p l e R s m args below meth c H locs cells slots Q (F0 m pc ls (.long y :: .long x :: rest)) := by
  subst hq
  exact lv_lmul X.1 X.2.1 hdg (hv ▸ kk)
theorem mg_ne0 {b : Nat} (h : 0 < b) (hb : b < 2 ^ 31) : ¬ nI b = 0 := nI_ne0 h hb
theorem mg_lne0 {b : Nat} (h : 0 < b) (hb : b < 2 ^ 63) : ¬ lN b = 0 := fun q => by
  have h2 := (pk_lEQ hb (show 0 < 2 ^ 63 by decide)).mp q
  omega
theorem mg_idiv (X : CallFix p m c cc nL s args mg_T own) (pc' : Nat) {a b : Nat} (hdg : decode cc pc = .ok (.idiv, 1)) (ha : a < 2 ^ 31) (h0 : 0 < b) (hb : b < 2 ^ 31) (hq : pc + 1 = pc') (kk : W p l e R s m args below meth c H locs cells slots Q (F0 m pc' ls (.int (nI (a / b)) :: rest))) : W p l e R s m args below meth c H locs cells slots Q (F0 m pc ls (.int (nI b) :: .int (nI a) :: rest)) := by
  subst hq
  exact lv_idiv X.1 X.2.1 hdg (mg_ne0 h0 hb) (by rw [pk_div ha h0 hb]; exact kk)
theorem mg_irem (X : CallFix p m c cc nL s args mg_T own) (pc' : Nat) {a b : Nat} (hdg : decode cc pc = .ok (.irem, 1)) (ha : a < 2 ^ 31) (h0 : 0 < b) (hb : b < 2 ^ 31) (hq : pc + 1 = pc') (kk : W p l e R s m args below meth c H locs cells slots Q (F0 m pc' ls (.int (nI (a % b)) :: rest))) : W p l e R s m args below meth c H locs cells slots Q (F0 m pc ls (.int (nI b) :: .int (nI a) :: rest)) := by
  subst hq
  exact lv_irem X.1 X.2.1 hdg (mg_ne0 h0 hb) (by rw [pk_rem ha h0 hb]; exact kk)
theorem mg_ldiv (X : CallFix p m c cc nL s args mg_T own) (pc' : Nat) {a b : Nat} (hdg : decode cc pc = .ok (.ldiv, 1)) (ha : a < 2 ^ 63) (h0 : 0 < b) (hb : b < 2 ^ 63) (hq : pc + 1 = pc') (kk : W p l e R s m args below meth c H locs cells slots Q (F0 m pc' ls (.long (lN (a / b)) :: rest))) : W p l e R s m args below meth c H locs cells slots Q (F0 m pc ls (.long (lN b) :: .long (lN a) :: rest)) := by
  subst hq
  exact lv_ldiv X.1 X.2.1 hdg (mg_lne0 h0 hb) (by rw [pk_lDiv ha h0 hb]; exact kk)
theorem mg_lrem (X : CallFix p m c cc nL s args mg_T own) (pc' : Nat) {a b : Nat} (hdg : decode cc pc = .ok (.lrem, 1)) (ha : a < 2 ^ 63) (h0 : 0 < b) (hb : b < 2 ^ 63) (hq : pc + 1 = pc') (kk : W p l e R s m args below meth c H locs cells slots Q (F0 m pc' ls (.long (lN (a % b)) :: rest))) : W p l e R s m args below meth c H locs cells slots Q (F0 m pc ls (.long (lN b) :: .long (lN a) :: rest)) := by
  subst hq
  exact lv_lrem X.1 X.2.1 hdg (mg_lne0 h0 hb) (by rw [pk_lRem ha h0 hb]; exact kk)
theorem mg_i2l (X : CallFix p m c cc nL s args mg_T own) (pc' : Nat) {a : Nat} (hdg : decode cc pc = .ok (.i2l, 1)) (ha : a < 2 ^ 31) (hq : pc + 1 = pc') (kk : W p l e R s m args below meth c H locs cells slots Q (F0 m pc' ls (.long (lN a) :: rest))) : W p l e R s m args below meth c H locs cells slots Q (F0 m pc ls (.int (nI a) :: rest)) := by
  subst hq
  exact lv_i2l X.1 X.2.1 hdg (nI_l ha) kk
theorem mg_l2i (X : CallFix p m c cc nL s args mg_T own) (pc' : Nat) {a : Nat} (hdg : decode cc pc = .ok (.l2i, 1)) (hq : pc + 1 = pc') (kk : W p l e R s m args below meth c H locs cells slots Q (F0 m pc' ls (.int (nI a) :: rest))) : W p l e R s m args below meth c H locs cells slots Q (F0 m pc ls (.long (lN a) :: rest)) := by
  subst hq
  exact lv_l2i X.1 X.2.1 hdg (lN_i a) kk
theorem mg_dup (X : CallFix p m c cc nL s args mg_T own) (pc' : Nat) {v : Value} (hdg : decode cc pc = .ok (.dup, 1)) (hc : v.category = 1) (hq : pc + 1 = pc') (kk : W p l e R s m args below meth c H locs cells slots Q (F0 m pc' ls (v :: v :: rest))) : W p l e R s m args below meth c H locs cells slots Q (F0 m pc ls (v :: rest)) := by
  subst hq
  exact lv_dup X.1 X.2.1 hdg hc kk
theorem mg_pop (X : CallFix p m c cc nL s args mg_T own) (pc' : Nat) {v : Value} (hdg : decode cc pc = .ok (.pop, 1)) (hc : v.category = 1) (hq : pc + 1 = pc') (kk : W p l e R s m args below meth c H locs cells slots Q (F0 m pc' ls (rest))) : W p l e R s m args below meth c H locs cells slots Q (F0 m pc ls (v :: rest)) := by
  subst hq
  exact lv_pop X.1 X.2.1 hdg hc kk
theorem mg_goto (X : CallFix p m c cc nL s args mg_T own) (tgt : Nat) {off : Int} (hdg : decode cc pc = .ok (.goto off, 3)) (ht : (pc : Int) + off = (tgt : Int)) (kk : W p l e R s m args below meth c H locs cells slots Q (F0 m tgt ls rest)) : W p l e R s m args below meth c H locs cells slots Q (F0 m pc ls rest) := lv_goto X.1 X.2.1 hdg ht kk
theorem mg_icmp_ge (X : CallFix p m c cc nL s args mg_T own) (tgt pc' : Nat) {a b : Nat} (ha : a < 2 ^ 31) (hb : b < 2 ^ 31) {off : Int} (hdg : decode cc pc = .ok (.if_icmp .ge off, 3)) (ht : (pc : Int) + off = (tgt : Int)) (hq : pc + 3 = pc') (kt : b ≤ a → W p l e R s m args below meth c H locs cells slots Q (F0 m tgt ls rest)) (kf : a < b → W p l e R s m args below meth c H locs cells slots Q (F0 m pc' ls rest)) : W p l e R s m args below meth c H locs cells slots Q (F0 m pc ls (.int (nI b) :: .int (nI a) :: rest)) := by
  subst hq
  exact lv_icmp_ge X.1 X.2.1 hdg ht (fun h => kt ((nI_leI hb ha).mp h)) (fun h => kf (Nat.not_le.mp (fun q => h ((nI_leI hb ha).mpr q))))
theorem mg_icmp_lt (X : CallFix p m c cc nL s args mg_T own) (tgt pc' : Nat) {a b : Nat} (ha : a < 2 ^ 31) (hb : b < 2 ^ 31) {off : Int} (hdg : decode cc pc = .ok (.if_icmp .lt off, 3)) (ht : (pc : Int) + off = (tgt : Int)) (hq : pc + 3 = pc') (kt : a < b → W p l e R s m args below meth c H locs cells slots Q (F0 m tgt ls rest)) (kf : b ≤ a → W p l e R s m args below meth c H locs cells slots Q (F0 m pc' ls rest)) : W p l e R s m args below meth c H locs cells slots Q (F0 m pc ls (.int (nI b) :: .int (nI a) :: rest)) := by
  subst hq
  exact lv_icmp_lt X.1 X.2.1 hdg ht (fun h => kt ((nI_ltI ha hb).mp h)) (fun h => kf (Nat.not_lt.mp (fun q => h ((nI_ltI ha hb).mpr q))))
theorem mg_icmp_gt (X : CallFix p m c cc nL s args mg_T own) (tgt pc' : Nat) {a b : Nat} (ha : a < 2 ^ 31) (hb : b < 2 ^ 31) {off : Int} (hdg : decode cc pc = .ok (.if_icmp .gt off, 3)) (ht : (pc : Int) + off = (tgt : Int)) (hq : pc + 3 = pc') (kt : b < a → W p l e R s m args below meth c H locs cells slots Q (F0 m tgt ls rest)) (kf : a ≤ b → W p l e R s m args below meth c H locs cells slots Q (F0 m pc' ls rest)) : W p l e R s m args below meth c H locs cells slots Q (F0 m pc ls (.int (nI b) :: .int (nI a) :: rest)) := by
  subst hq
  exact lv_icmp_gt X.1 X.2.1 hdg ht (fun h => kt ((nI_ltI hb ha).mp h)) (fun h => kf (Nat.not_lt.mp (fun q => h ((nI_ltI hb ha).mpr q))))
theorem mg_icmp_le (X : CallFix p m c cc nL s args mg_T own) (tgt pc' : Nat) {a b : Nat} (ha : a < 2 ^ 31) (hb : b < 2 ^ 31) {off : Int} (hdg : decode cc pc = .ok (.if_icmp .le off, 3)) (ht : (pc : Int) + off = (tgt : Int)) (hq : pc + 3 = pc') (kt : a ≤ b → W p l e R s m args below meth c H locs cells slots Q (F0 m tgt ls rest)) (kf : b < a → W p l e R s m args below meth c H locs cells slots Q (F0 m pc' ls rest)) : W p l e R s m args below meth c H locs cells slots Q (F0 m pc ls (.int (nI b) :: .int (nI a) :: rest)) := by
  subst hq
  exact lv_icmp_le X.1 X.2.1 hdg ht (fun h => kt ((nI_leI ha hb).mp h)) (fun h => kf (Nat.not_le.mp (fun q => h ((nI_leI ha hb).mpr q))))
theorem mg_eq32 {a b : Nat} (ha : a < 2 ^ 32) (hb : b < 2 ^ 32) : nI a = nI b ↔ a = b := by
  constructor
  · intro h
    have h1 := congrArg (fun z : Int32 => z.toBitVec.toNat) h
    rwa [pk_tn ha, pk_tn hb] at h1
  · intro h; rw [h]
theorem mg_icmp_eq (X : CallFix p m c cc nL s args mg_T own) (tgt pc' : Nat) {a b : Nat} (ha : a < 2 ^ 32) (hb : b < 2 ^ 32) {off : Int} (hdg : decode cc pc = .ok (.if_icmp .eq off, 3)) (ht : (pc : Int) + off = (tgt : Int)) (hq : pc + 3 = pc') (kt : a = b → W p l e R s m args below meth c H locs cells slots Q (F0 m tgt ls rest)) (kf : a ≠ b → W p l e R s m args below meth c H locs cells slots Q (F0 m pc' ls rest)) : W p l e R s m args below meth c H locs cells slots Q (F0 m pc ls (.int (nI b) :: .int (nI a) :: rest)) := by
  subst hq
  exact lv_icmp_eq X.1 X.2.1 hdg ht (fun h => kt ((mg_eq32 ha hb).mp h)) (fun h => kf (fun q => h ((mg_eq32 ha hb).mpr q)))
theorem mg_icmp_ne (X : CallFix p m c cc nL s args mg_T own) (tgt pc' : Nat) {a b : Nat} (ha : a < 2 ^ 32) (hb : b < 2 ^ 32) {off : Int} (hdg : decode cc pc = .ok (.if_icmp .ne off, 3)) (ht : (pc : Int) + off = (tgt : Int)) (hq : pc + 3 = pc') (kt : a ≠ b → W p l e R s m args below meth c H locs cells slots Q (F0 m tgt ls rest)) (kf : a = b → W p l e R s m args below meth c H locs cells slots Q (F0 m pc' ls rest)) : W p l e R s m args below meth c H locs cells slots Q (F0 m pc ls (.int (nI b) :: .int (nI a) :: rest)) := by
  subst hq
  exact lv_icmp_ne X.1 X.2.1 hdg ht (fun h => kt (fun q => h ((mg_eq32 ha hb).mpr q))) (fun h => kf ((mg_eq32 ha hb).mp h))
theorem mg_if_eq (X : CallFix p m c cc nL s args mg_T own) (tgt pc' : Nat) {a : Nat} (ha : a < 2 ^ 32) {off : Int} (hdg : decode cc pc = .ok (.ifCond .eq off, 3)) (ht : (pc : Int) + off = (tgt : Int)) (hq : pc + 3 = pc') (kt : a = 0 → W p l e R s m args below meth c H locs cells slots Q (F0 m tgt ls rest)) (kf : a ≠ 0 → W p l e R s m args below meth c H locs cells slots Q (F0 m pc' ls rest)) : W p l e R s m args below meth c H locs cells slots Q (F0 m pc ls (.int (nI a) :: rest)) := by
  subst hq
  exact lv_if_eq X.1 X.2.1 hdg ht (fun h => kt ((mg_eq32 ha (show 0 < 2 ^ 32 by decide)).mp h)) (fun h => kf (fun q => h ((mg_eq32 ha (show 0 < 2 ^ 32 by decide)).mpr q)))
theorem mg_if_ne (X : CallFix p m c cc nL s args mg_T own) (tgt pc' : Nat) {a : Nat} (ha : a < 2 ^ 32) {off : Int} (hdg : decode cc pc = .ok (.ifCond .ne off, 3)) (ht : (pc : Int) + off = (tgt : Int)) (hq : pc + 3 = pc') (kt : a ≠ 0 → W p l e R s m args below meth c H locs cells slots Q (F0 m tgt ls rest)) (kf : a = 0 → W p l e R s m args below meth c H locs cells slots Q (F0 m pc' ls rest)) : W p l e R s m args below meth c H locs cells slots Q (F0 m pc ls (.int (nI a) :: rest)) := by
  subst hq
  exact lv_if_ne X.1 X.2.1 hdg ht (fun h => kt (fun q => h ((mg_eq32 ha (show 0 < 2 ^ 32 by decide)).mpr q))) (fun h => kf ((mg_eq32 ha (show 0 < 2 ^ 32 by decide)).mp h))
theorem mg_if_gt (X : CallFix p m c cc nL s args mg_T own) (tgt pc' : Nat) {a : Nat} (ha : a < 2 ^ 31) {off : Int} (hdg : decode cc pc = .ok (.ifCond .gt off, 3)) (ht : (pc : Int) + off = (tgt : Int)) (hq : pc + 3 = pc') (kt : 0 < a → W p l e R s m args below meth c H locs cells slots Q (F0 m tgt ls rest)) (kf : a = 0 → W p l e R s m args below meth c H locs cells slots Q (F0 m pc' ls rest)) : W p l e R s m args below meth c H locs cells slots Q (F0 m pc ls (.int (nI a) :: rest)) := by
  subst hq
  exact lv_if_gt X.1 X.2.1 hdg ht (fun h => kt (Nat.pos_of_ne_zero (fun q => by subst q; exact absurd h (by decide +kernel)))) (fun h => kf (Nat.eq_zero_of_not_pos (fun q => h (nI_lt q ha))))
theorem mg_if_le (X : CallFix p m c cc nL s args mg_T own) (tgt pc' : Nat) {a : Nat} (ha : a < 2 ^ 31) {off : Int} (hdg : decode cc pc = .ok (.ifCond .le off, 3)) (ht : (pc : Int) + off = (tgt : Int)) (hq : pc + 3 = pc') (kt : a = 0 → W p l e R s m args below meth c H locs cells slots Q (F0 m tgt ls rest)) (kf : 0 < a → W p l e R s m args below meth c H locs cells slots Q (F0 m pc' ls rest)) : W p l e R s m args below meth c H locs cells slots Q (F0 m pc ls (.int (nI a) :: rest)) := by
  subst hq
  exact lv_if_le X.1 X.2.1 hdg ht (fun h => kt (Nat.eq_zero_of_not_pos (fun q => nI_nle q ha h))) (fun h => kf (Nat.pos_of_ne_zero (fun q => h (by subst q; decide +kernel))))
/-- an int that is one of the first n naturals -/
def mg_lt (x : Int32) (n : Nat) : Prop := ∃ j, j < n ∧ x = nI j
theorem mg_lt_neg {x : Int32} {n : Nat} (h : x < 0) (hn : n ≤ 2 ^ 31) : ¬ mg_lt x n := fun ⟨j, hj, e⟩ => nI_pos (show j < 2 ^ 31 by omega) (e ▸ h)
theorem mg_lt_ge {j n : Nat} (hj : j < 2 ^ 31) (h : n ≤ j) : ¬ mg_lt (nI j) n := fun ⟨i, hi, e⟩ => by
  have h1 := (nI_eq hj (show i < 2 ^ 31 by omega)).mp e
  omega
theorem mg_lt_in {j n : Nat} (h : j < n) : mg_lt (nI j) n := ⟨j, h, rfl⟩
theorem mg_iflt_r (X : CallFix p m c cc nL s args mg_T own) (tgt pc' : Nat) {x : Int32} {off : Int} (hdg : decode cc pc = .ok (.ifCond .lt off, 3)) (ht : (pc : Int) + off = (tgt : Int)) (hq : pc + 3 = pc') (kt : x < 0 → W p l e R s m args below meth c H locs cells slots Q (F0 m tgt ls rest)) (kf : ∀ j : Nat, j < 2 ^ 31 → x = nI j → W p l e R s m args below meth c H locs cells slots Q (F0 m pc' ls rest)) : W p l e R s m args below meth c H locs cells slots Q (F0 m pc ls (.int x :: rest)) := by
  subst hq
  refine lv_if_lt X.1 X.2.1 hdg ht kt (fun h => ?_)
  obtain ⟨j, hj, e⟩ := nI_of h
  exact kf j hj e
end MG
section MH
variable {p : Program} {l : Launch} {e : Env} {R : Room} {s : State} {m : MethodId} {args : Array Value} {below : List Frame} {meth : Method} {c : Code} {H : Heap} {locs : List Loc} {cells slots : Nat} {Q : State → Prop}
variable {cc : ByteArray} {nL pc : Nat} {own : String} {ls : Array Slot} {rest : List Value} {D : va_G} {K : Nat → ClassId} {A : Nat → Prop} {ws : va_W} {H0 : Heap} {a n k x : Nat} {d : Nat → Nat}
theorem mg_iald (X : CallFix p m c cc nL s args mg_T own) (hK : mg_K D K s) (hw : mg_H D A H0 H locs ws) (pc' q0 : Nat) (ha : ws[q0]? = some (mg_ai K a n d)) (hk : k < n) (hn : n < 2 ^ 31) (hdg : decode cc pc = .ok (.iaload, 1)) (hq : pc + 1 = pc')
    (kk : W p l e R s m args below meth c H locs cells slots Q (F0 m pc' ls (.int (nI (d k)) :: rest))) : W p l e R s m args below meth c H locs cells slots Q (F0 m pc ls (.int (nI k) :: .ref a :: rest)) := by
  subst hq
  refine va_iald X.1 X.2.1 hK.1 hw.1 q0 0 ha rfl (vp_in_nI hk hn) hdg ?_
  rw [nI_clamp (Nat.lt_trans hk hn)]
  exact kk
theorem mg_lald (X : CallFix p m c cc nL s args mg_T own) (hK : mg_K D K s) (hw : mg_H D A H0 H locs ws) (pc' q0 : Nat) (ha : ws[q0]? = some (mg_al K a n d)) (hk : k < n) (hn : n < 2 ^ 31) (hdg : decode cc pc = .ok (.laload, 1)) (hq : pc + 1 = pc')
    (kk : W p l e R s m args below meth c H locs cells slots Q (F0 m pc' ls (.long (lN (d k)) :: rest))) : W p l e R s m args below meth c H locs cells slots Q (F0 m pc ls (.int (nI k) :: .ref a :: rest)) := by
  subst hq
  refine va_lald X.1 X.2.1 hK.1 hw.1 q0 1 ha rfl (vp_in_nI hk hn) hdg ?_
  rw [nI_clamp (Nat.lt_trans hk hn)]
  exact kk
theorem mg_cald (X : CallFix p m c cc nL s args mg_T own) (hK : mg_K D K s) (hw : mg_H D A H0 H locs ws) (pc' q0 : Nat) (ha : ws[q0]? = some (mg_ac K a n d)) (hk : k < n) (hn : n < 2 ^ 31) (hdg : decode cc pc = .ok (.caload, 1)) (hq : pc + 1 = pc')
    (kk : W p l e R s m args below meth c H locs cells slots Q (F0 m pc' ls (.int (nI (d k)) :: rest))) : W p l e R s m args below meth c H locs cells slots Q (F0 m pc ls (.int (nI k) :: .ref a :: rest)) := by
  subst hq
  refine va_cald X.1 X.2.1 hK.1 hw.1 q0 2 ha rfl (vp_in_nI hk hn) hdg ?_
  rw [nI_clamp (Nat.lt_trans hk hn)]
  exact kk
theorem mg_zald (X : CallFix p m c cc nL s args mg_T own) (hK : mg_K D K s) (hw : mg_H D A H0 H locs ws) (pc' q0 : Nat) (ha : ws[q0]? = some (mg_az K a n d)) (hk : k < n) (hn : n < 2 ^ 31) (hdg : decode cc pc = .ok (.baload, 1)) (hq : pc + 1 = pc')
    (kk : W p l e R s m args below meth c H locs cells slots Q (F0 m pc' ls (.int (nI (d k)) :: rest))) : W p l e R s m args below meth c H locs cells slots Q (F0 m pc ls (.int (nI k) :: .ref a :: rest)) := by
  subst hq
  refine va_zald X.1 X.2.1 hK.1 hw.1 q0 3 ha rfl (vp_in_nI hk hn) hdg ?_
  rw [nI_clamp (Nat.lt_trans hk hn)]
  exact kk
theorem mg_iast (X : CallFix p m c cc nL s args mg_T own) (hK : mg_K D K s) (hw : mg_H D A H0 H locs ws) (pc' q0 : Nat) (ws' : va_W) (ha : ws[q0]? = some (mg_ai K a n d)) (hk : k < n) (hn : n < 2 ^ 31) (hdg : decode cc pc = .ok (.iastore, 1)) (he : ws.set q0 (mg_ai K a n (va_up d k x)) = ws') (hq : pc + 1 = pc')
    (kk : ∀ (H1 : Heap) (locs1 : List Loc), mg_H D A H0 H1 locs1 ws' → W p l e R s m args below meth c H1 locs1 cells slots Q (F0 m pc' ls rest)) : W p l e R s m args below meth c H locs cells slots Q (F0 m pc ls (.int (nI x) :: .int (nI k) :: .ref a :: rest)) := by
  subst hq; subst he
  refine va_iast X.1 X.2.1 hK.1 hw.1 hw.2.1 hw.2.2 q0 0 ha rfl (vp_in_nI hk hn) hdg (fun H1 locs1 h1 h2 h3 => ?_)
  rw [nI_clamp (Nat.lt_trans hk hn), mg_I_up] at h1 h2
  exact kk H1 locs1 ⟨h1, h2, h3⟩
theorem mg_last (X : CallFix p m c cc nL s args mg_T own) (hK : mg_K D K s) (hw : mg_H D A H0 H locs ws) (pc' q0 : Nat) (ws' : va_W) (ha : ws[q0]? = some (mg_al K a n d)) (hk : k < n) (hn : n < 2 ^ 31) (hdg : decode cc pc = .ok (.lastore, 1)) (he : ws.set q0 (mg_al K a n (va_up d k x)) = ws') (hq : pc + 1 = pc')
    (kk : ∀ (H1 : Heap) (locs1 : List Loc), mg_H D A H0 H1 locs1 ws' → W p l e R s m args below meth c H1 locs1 cells slots Q (F0 m pc' ls rest)) : W p l e R s m args below meth c H locs cells slots Q (F0 m pc ls (.long (lN x) :: .int (nI k) :: .ref a :: rest)) := by
  subst hq; subst he
  refine va_last X.1 X.2.1 hK.1 hw.1 hw.2.1 hw.2.2 q0 1 ha rfl (vp_in_nI hk hn) hdg (fun H1 locs1 h1 h2 h3 => ?_)
  rw [nI_clamp (Nat.lt_trans hk hn), mg_L_up] at h1 h2
  exact kk H1 locs1 ⟨h1, h2, h3⟩
theorem mg_nar_c (hx : x < 65536) : vp_nar .char (nI x) = nI x := by
  unfold vp_nar
  rw [(pk_charN hx).1]
theorem mg_nar_z (hx : x < 2) : vp_nar .boolean (nI x) = nI x := by
  rcases (show x = 0 ∨ x = 1 by omega) with h | h <;> subst h <;> decide +kernel
theorem mg_cast (X : CallFix p m c cc nL s args mg_T own) (hK : mg_K D K s) (hw : mg_H D A H0 H locs ws) (pc' q0 : Nat) (ws' : va_W) (ha : ws[q0]? = some (mg_ac K a n d)) (hk : k < n) (hn : n < 2 ^ 31) (hx : x < 65536) (hdg : decode cc pc = .ok (.castore, 1)) (he : ws.set q0 (mg_ac K a n (va_up d k x)) = ws') (hq : pc + 1 = pc')
    (kk : ∀ (H1 : Heap) (locs1 : List Loc), mg_H D A H0 H1 locs1 ws' → W p l e R s m args below meth c H1 locs1 cells slots Q (F0 m pc' ls rest)) : W p l e R s m args below meth c H locs cells slots Q (F0 m pc ls (.int (nI x) :: .int (nI k) :: .ref a :: rest)) := by
  subst hq; subst he
  refine va_cast X.1 X.2.1 hK.1 hw.1 hw.2.1 hw.2.2 q0 2 ha rfl (vp_in_nI hk hn) hdg (fun H1 locs1 h1 h2 h3 => ?_)
  rw [nI_clamp (Nat.lt_trans hk hn), mg_nar_c hx, mg_I_up] at h1 h2
  exact kk H1 locs1 ⟨h1, h2, h3⟩
theorem mg_zast (X : CallFix p m c cc nL s args mg_T own) (hK : mg_K D K s) (hw : mg_H D A H0 H locs ws) (pc' q0 : Nat) (ws' : va_W) (ha : ws[q0]? = some (mg_az K a n d)) (hk : k < n) (hn : n < 2 ^ 31) (hx : x < 2) (hdg : decode cc pc = .ok (.bastore, 1)) (he : ws.set q0 (mg_az K a n (va_up d k x)) = ws') (hq : pc + 1 = pc')
    (kk : ∀ (H1 : Heap) (locs1 : List Loc), mg_H D A H0 H1 locs1 ws' → W p l e R s m args below meth c H1 locs1 cells slots Q (F0 m pc' ls rest)) : W p l e R s m args below meth c H locs cells slots Q (F0 m pc ls (.int (nI x) :: .int (nI k) :: .ref a :: rest)) := by
  subst hq; subst he
  refine va_zast X.1 X.2.1 hK.1 hw.1 hw.2.1 hw.2.2 q0 3 ha rfl (vp_in_nI hk hn) hdg (fun H1 locs1 h1 h2 h3 => ?_)
  rw [nI_clamp (Nat.lt_trans hk hn), mg_nar_z hx, mg_I_up] at h1 h2
  exact kk H1 locs1 ⟨h1, h2, h3⟩
/-- a field: its link from the class own, its place -/
def mg_F (own : String) (index ci k : Nat) : Prop := ∃ (C : String) (T : u_T) (N : Nat), mg_CL[ci]? = some (C, T, N) ∧ k < N ∧ (∀ w ∈ u_ws C T N, w ∈ mg_T) ∧ (T k).1 = C ∧
  (Cond.fieldLink own index C (T k).2.1 (T k).2.2.1 ∈ mg_T ∨ ∃ host, Cond.fieldLinkNest own index C (T k).2.1 (T k).2.2.1 host ∈ mg_NW)
def mg_Fp (own : String) (index ci k : Nat) (ty : FieldType) (fin : Bool) : Prop := ∃ (C : String) (T : u_T) (N : Nat) (ty0 : Nat → FieldType), mg_CL[ci]? = some (C, T, N) ∧ k < N ∧ (∀ w ∈ u_ws C T N, w ∈ mg_T) ∧ (T k).1 = C ∧
  (∀ j, j < N → parseFieldDescriptor (T j).2.2.1 = some (ty0 j)) ∧ (∀ a, a < N → ∀ b, b < N → a ≠ b → (T a).2.1 ≠ (T b).2.1) ∧ (T k).2.2.2 = fin ∧ parseFieldDescriptor (T k).2.2.1 = some ty ∧ (fin = true → C = own) ∧
  (Cond.fieldLink own index C (T k).2.1 (T k).2.2.1 ∈ mg_T ∨ (fin = false ∧ ∃ host, Cond.fieldLinkNest own index C (T k).2.1 (T k).2.2.1 host ∈ mg_NW))
theorem mg_get (X : CallFix p m c cc nL s args mg_T own) (hK : mg_K D K s) (hw : mg_H D A H0 H locs ws) (pc' q0 k : Nat) {index ci : Nat} {fs : List Value} {v : Value} (hf : mg_F own index ci k) (he : ws[q0]? = some (mg_ob a ci fs)) (hv : fs[k]? = some v) (hdg : decode cc pc = .ok (.getfield index, 3)) (hq : pc + 3 = pc')
    (kk : W p l e R s m args below meth c H locs cells slots Q (F0 m pc' ls (v :: rest))) : W p l e R s m args below meth c H locs cells slots Q (F0 m pc ls (.ref a :: rest)) := by
  subst hq
  obtain ⟨C, T, N, hc, hk, hin, hC, h | ⟨host, h⟩⟩ := hf
  · exact va_get X.1 X.2.1 X.2.2.2.2 hin X.2.2.2.1 hK.1 hw.1 q0 he hc k hk (X.2.2.2.2 _ h) (fun x hx => by rw [hC] at hx; exact hx) hv hdg kk
  · exact va_getN X.1 X.2.1 X.2.2.2.2 hin X.2.2.2.1 hK.1 hw.1 q0 he hc k hk (va_Nw.use rfl (hK.2 _ h)) (fun x hx => by rw [hC] at hx; exact hx) hv hdg kk
theorem mg_put (X : CallFix p m c cc nL s args mg_T own) (hK : mg_K D K s) (hw : mg_H D A H0 H locs ws) (pc' q0 k : Nat) (ws' : va_W) {index ci : Nat} {fs : List Value} {v : Value} {ty : FieldType} (hf : mg_Fp own index ci k ty false) (he : ws[q0]? = some (mg_ob a ci fs)) (hl : k < fs.length) (hn : narrow ty v = v) (hfit : fits ty v = true) (hdg : decode cc pc = .ok (.putfield index, 3)) (hset : ws.set q0 (mg_ob a ci (fs.set k v)) = ws') (hq : pc + 3 = pc')
    (kk : ∀ (H1 : Heap) (locs1 : List Loc), mg_H D A H0 H1 locs1 ws' → W p l e R s m args below meth c H1 locs1 cells slots Q (F0 m pc' ls rest)) : W p l e R s m args below meth c H locs cells slots Q (F0 m pc ls (v :: .ref a :: rest)) := by
  subst hq; subst hset
  obtain ⟨C, T, N, ty0, hc, hk, hin, hC, hty, hnm, hfin, hd, -, h | ⟨-, host, h⟩⟩ := hf
  · exact va_put X.1 X.2.1 X.2.2.2.2 hin ty0 hty hnm X.2.2.2.1 hK.1 hw.1 hw.2.1 hw.2.2 q0 he hc k hk (X.2.2.2.2 _ h) (fun x hx => by rw [hC] at hx; exact hx) hfin hd hn hfit hl hdg (fun H1 locs1 h1 h2 h3 => kk H1 locs1 ⟨h1, h2, h3⟩)
  · exact va_putN X.1 X.2.1 X.2.2.2.2 hin ty0 hty hnm X.2.2.2.1 hK.1 hw.1 hw.2.1 hw.2.2 q0 he hc k hk (va_Nw.use rfl (hK.2 _ h)) (fun x hx => by rw [hC] at hx; exact hx) hfin hd hn hfit hl hdg (fun H1 locs1 h1 h2 h3 => kk H1 locs1 ⟨h1, h2, h3⟩)
theorem mg_putF (X : CallFix p m c cc nL s args mg_T own) (hnm0 : meth.name = "<init>") (hK : mg_K D K s) (hw : mg_H D A H0 H locs ws) (pc' q0 k : Nat) (ws' : va_W) {index ci : Nat} {fs : List Value} {v : Value} {ty : FieldType} (hf : mg_Fp own index ci k ty true) (he : ws[q0]? = some (mg_ob a ci fs)) (hl : k < fs.length) (hn : narrow ty v = v) (hfit : fits ty v = true) (hdg : decode cc pc = .ok (.putfield index, 3)) (hset : ws.set q0 (mg_ob a ci (fs.set k v)) = ws') (hq : pc + 3 = pc')
    (kk : ∀ (H1 : Heap) (locs1 : List Loc), mg_H D A H0 H1 locs1 ws' → W p l e R s m args below meth c H1 locs1 cells slots Q (F0 m pc' ls rest)) : W p l e R s m args below meth c H locs cells slots Q (F0 m pc ls (v :: .ref a :: rest)) := by
  subst hq; subst hset
  obtain ⟨C, T, N, ty0, hc, hk, hin, hC, hty, hnm, hfin, hd, ho, h | ⟨h, -⟩⟩ := hf
  · exact va_putF X.1 X.2.1 X.2.2.2.2 hin ty0 hty hnm X.2.2.2.1 hK.1 hw.1 hw.2.1 hw.2.2 q0 he hc k hk (X.2.2.2.2 _ h) (fun x hx => by rw [hC] at hx; exact hx) hfin hnm0 (hC.trans (ho rfl)) hd hn hfit hl hdg (fun H1 locs1 h1 h2 h3 => kk H1 locs1 ⟨h1, h2, h3⟩)
  · cases h
/-- the ends -/
theorem mg_vret {S : Type} {post : S → Prop} {ws' : S → va_W} (X : CallFix p m c cc nL s args mg_T own) (hr : meth.sig.returnType = none) (hlk : meth.locks = false) (u : S) (hp : post u) (hw : mg_H D A s.heap H locs (ws' u)) (hdg : decode cc pc = .ok (.return_, 1)) :
    W p l e R s m args below meth c H locs cells slots (MQ below (va_Qv post (mg_B D A ws') A) args s cells slots A) (F0 m pc ls []) :=
  W.vret X.1 X.2.1 hr (fun t ht _ => ⟨⟨u, rfl, hp, by rw [ht]; exact hw.1, hw.2.1⟩, hw.2.2.F ht⟩) hw.2.2.2.2 hdg hlk
theorem mg_iret {S : Type} {post : Int32 → S → Prop} {ws' : S → va_W} {ty : FieldType} {r : Int32} (X : CallFix p m c cc nL s args mg_T own) (hr : meth.sig.returnType = some ty) (hlk : meth.locks = false) (hn : narrow ty (.int r) = .int r) (u : S) (hp : post r u) (hw : mg_H D A s.heap H locs (ws' u)) (hdg : decode cc pc = .ok (.ireturn, 1)) :
    W p l e R s m args below meth c H locs cells slots (MQ below (va_Qi post (mg_B D A ws') A) args s cells slots A) (F0 m pc ls [.int r]) :=
  W.zret X.1 X.2.1 hr hn (fun t ht _ => ⟨⟨r, u, rfl, hp, by rw [ht]; exact hw.1, hw.2.1⟩, hw.2.2.F ht⟩) hw.2.2.2.2 hdg hlk
theorem mg_nz (hx : x < 2) : narrow .boolean (.int (nI x)) = .int (nI x) := by
  rcases (show x = 0 ∨ x = 1 by omega) with h | h <;> subst h <;> decide +kernel
end MH
/-- the callee's cells put back at their places -/
def mg_pt : va_W → List Nat → va_W → va_W
  | ws, i :: is, q :: qs => mg_pt (ws.set i q) is qs
  | ws, _, _ => ws
theorem mg_pt_spec : ∀ (is : List Nat) (ws wc : va_W) (k : Nat) (q : Nat × va_E), (mg_pt ws is wc)[k]? = some q → (∃ j : Nat, is[j]? = some k ∧ wc[j]? = some q) ∨ (ws[k]? = some q ∧ ∀ j : Nat, is[j]? = some k → wc.length ≤ j) := by
  intro is
  induction is with
  | nil =>
    intro ws wc k q h
    have h1 : ws[k]? = some q := by cases wc <;> exact h
    exact Or.inr ⟨h1, fun j hj => by simp at hj⟩
  | cons i is ih =>
    intro ws wc k q h
    cases wc with
    | nil => exact Or.inr ⟨h, fun j _ => Nat.zero_le j⟩
    | cons c0 cs =>
      rcases ih (ws.set i c0) cs k q h with ⟨j, h1, h2⟩ | ⟨h1, h2⟩
      · exact Or.inl ⟨j + 1, h1, h2⟩
      · by_cases hk : k = i
        · subst hk
          rw [List.getElem?_set] at h1
          by_cases hl : k < ws.length
          · rw [if_pos rfl, if_pos hl] at h1
            exact Or.inl ⟨0, rfl, h1⟩
          · rw [if_pos rfl, if_neg hl] at h1
            cases h1
        · rw [List.getElem?_set_ne (Ne.symm hk)] at h1
          refine Or.inr ⟨h1, fun j hj => ?_⟩
          cases j with
          | zero => exact absurd (Option.some.inj hj).symm hk
          | succ j => exact Nat.succ_le_succ (h2 j hj)
theorem mg_at {ws wc : va_W} {is : List Nat} (hs : is.map (fun i => ws[i]?) = wc.map some) {j : Nat} {q : Nat × va_E} (hq : wc[j]? = some q) : ∃ i : Nat, is[j]? = some i ∧ ws[i]? = some q := by
  have h1 : (is.map (fun i => ws[i]?))[j]? = some (some q) := by rw [hs, List.getElem?_map, hq]; rfl
  rw [List.getElem?_map] at h1
  cases hi : is[j]? with
  | none => rw [hi] at h1; cases h1
  | some i => rw [hi] at h1; exact ⟨i, rfl, Option.some.inj h1⟩
theorem mg_join {D : va_G} {A : Nat → Prop} {H0 H H1 : Heap} {locs : List Loc} {ws wc w1 : va_W} {isC : List Nat} (hw : mg_H D A H0 H locs ws) (hC : isC.map (fun i => ws[i]?) = wc.map some) (had : w1.map (fun q => q.1) = wc.map (fun q => q.1))
    (hk : ∀ q : Nat, q < H.size → ¬ va_A wc H.size q → H1[q]? = H[q]?) (hP1 : va_P D mg_CL w1 H1) : va_P D mg_CL (mg_pt ws isC w1) H1 ∧ va_D A (mg_pt ws isC w1) := by
  have hlen1 : isC.length = wc.length := by have := congrArg List.length hC; simpa using this
  have hlen2 : w1.length = wc.length := by have := congrArg List.length had; simpa using this
  have hadr : ∀ (j : Nat) (q : Nat × va_E), w1[j]? = some q → ∃ e, wc[j]? = some (q.1, e) := by
    intro j q hq
    have h1 : (w1.map (fun q => q.1))[j]? = some q.1 := by rw [List.getElem?_map, hq]; rfl
    rw [had, List.getElem?_map] at h1
    cases hj : wc[j]? with
    | none => rw [hj] at h1; cases h1
    | some y =>
      rw [hj] at h1
      have h2 : y.1 = q.1 := Option.some.inj h1
      exact ⟨y.2, by rw [← h2]⟩
  have same : ∀ (k : Nat) (q : Nat × va_E), (mg_pt ws isC w1)[k]? = some q → ∃ e, ws[k]? = some (q.1, e) := by
    intro k q hq
    rcases mg_pt_spec isC ws w1 k q hq with ⟨j, h1, h2⟩ | ⟨h1, -⟩
    · obtain ⟨e, he⟩ := hadr j q h2
      obtain ⟨i, h3, h4⟩ := mg_at hC he
      cases h1.symm.trans h3
      exact ⟨e, h4⟩
    · exact ⟨q.2, h1⟩
  refine ⟨fun k q hq => ?_, fun i j x y hx hy hxy => ?_, fun k q hq => ?_⟩
  · rcases mg_pt_spec isC ws w1 k q hq with ⟨j, h1, h2⟩ | ⟨h1, h2⟩
    · exact hP1 j q h2
    · refine (hw.1 k q h1).kept (hk q.1 (hw.1 k q h1).lt (fun hA => ?_))
      rcases hA with ⟨j, e, hj⟩ | hA
      · obtain ⟨i, h3, h4⟩ := mg_at hC hj
        have hki : k = i := hw.2.1.1 k i q (q.1, e) h1 h4 rfl
        subst hki
        have h5 := h2 j h3
        have h6 : j < isC.length := (List.getElem?_eq_some_iff.mp h3).1
        omega
      · have := (hw.1 k q h1).lt
        omega
  · obtain ⟨e1, h1⟩ := same i x hx
    obtain ⟨e2, h2⟩ := same j y hy
    exact hw.2.1.1 i j _ _ h1 h2 hxy
  · obtain ⟨e1, h1⟩ := same k q hq
    exact hw.2.1.2 k (q.1, e1) h1
theorem mg_freeC {D : va_G} {A : Nat → Prop} {H0 H : Heap} {locs : List Loc} {ws wc : va_W} {isC : List Nat} (hw : mg_H D A H0 H locs ws) (hA : ∀ q, H0.size ≤ q → A q) (hC : isC.map (fun i => ws[i]?) = wc.map some) : ∀ q, va_A wc H.size q → A q := va_free hw.2.1 hw.2.2 hA isC hC
/-- the callee's cells, cut out -/
theorem mg_cut {D : va_G} {ws wc : va_W} {isC : List Nat} {H : Heap} (hP : va_P D mg_CL ws H) (hC : isC.map (fun i => ws[i]?) = wc.map some) : va_P D mg_CL wc H := fun j q hq => by
  obtain ⟨i, -, h⟩ := mg_at hC hq
  exact hP i q h
theorem mg_cutD {A : Nat → Prop} {ws wc : va_W} {isC : List Nat} (hD : va_D A ws) (hn : va_nd isC = true) (hC : isC.map (fun i => ws[i]?) = wc.map some) : va_D A wc := hD.sub isC hn hC
/-- what is known of a call of an instance method -/
def mg_CV (own : String) (index : Nat) (y : MethodName) (cc : ByteArray) (nL : Nat) (ret : Option FieldType) (n : Nat) : Prop :=
  (Cond.methodLink own index y ∈ mg_T ∨ ∃ host, Cond.methodLinkNest own index y host ∈ mg_NW) ∧ Cond.instanceMethod y ∈ mg_T ∧ Cond.selects y.cls y y ∈ mg_T ∧ Cond.initialized y.cls ∈ mg_T ∧ Cond.code y cc nL ret ∈ mg_T ∧
  y.cls ≠ "java/lang/invoke/MethodHandle" ∧ y.cls ≠ "java/lang/invoke/VarHandle" ∧ (parseMethodDescriptor y.desc).map (fun d => d.parameters.length) = some n
def mg_CS (own : String) (index : Nat) (y : MethodName) (cc : ByteArray) (nL : Nat) (ret : Option FieldType) (n : Nat) : Prop :=
  Cond.methodLink own index y ∈ mg_T ∧ Cond.static y ∈ mg_T ∧ Cond.initialized y.cls ∈ mg_T ∧ Cond.code y cc nL ret ∈ mg_T ∧
  y.cls ≠ "java/lang/invoke/MethodHandle" ∧ y.cls ≠ "java/lang/invoke/VarHandle" ∧ (parseMethodDescriptor y.desc).map (fun d => d.parameters.length) = some n
section MC
variable {p : Program} {l : Launch} {e : Env} {R : Room} {s : State} {m : MethodId} {args : Array Value} {below : List Frame} {meth : Method} {c : Code} {H : Heap} {locs : List Loc} {cells slots : Nat} {Q : State → Prop}
variable {cc c1 : ByteArray} {nL pc n1 n mc ms sz index : Nat} {own : String} {ls : Array Slot} {rest As st0 : List Value} {D : va_G} {K : Nat → ClassId} {A : Nat → Prop} {ws wc : va_W} {b : Nat} {y : MethodName} {ret : Option FieldType} {rm : Room} {Qc : Array Value → State → Outcome → State → Prop} {free : Addr → Prop}
theorem mg_runV (X : CallFix p m c cc nL s args mg_T own) (hK : mg_K D K s) (hw : mg_H D A s.heap H locs ws) (isC : List Nat) (q0 : Nat) {ci N : Nat} {T : u_T} {fs : List Value} (hb : ws[q0]? = some (mg_ob b ci fs)) (hcl : mg_CL[ci]? = some (y.cls, T, N))
    (hM : Met l y (mg_ws y c1 n1 ret) rm (mg_Pre D K (.ref b :: As) wc H.size) Qc mc ms free) (hc : mg_CV own index y c1 n1 ret n) (hrc : rm.cells = mc) (hrs : rm.slots = ms) (hR : rm.frames + 1 ≤ R.frames ∧ 8 + (n1 + 11) + rm.locals ≤ R.locals)
    (hC : isC.map (fun i => ws[i]?) = wc.map some) (hnd : va_nd isC = true) (hn : As.length = n) (hls : ls.size = nL) (hst : st0 = As.reverse ++ .ref b :: rest) (hcat : (rest.map fun v => v.category).sum ≤ 8) (hdg : decode cc pc = .ok (.invokevirtual index, 3)) (hf : cells + mc ≤ R.cells ∧ slots + ms ≤ R.slots) :
    va_Run p l e R s m args below meth c H locs cells slots mc ms (F0 m pc ls st0) rest (Qc (Value.ref b :: As).toArray) free := by
  obtain ⟨hl, h1, h2, h3, h4, h5, h6, h7⟩ := hc
  have hT := X.2.2.2.2
  have hgood : GoodIn mg_T (mg_ws y c1 n1 ret) := fun w hw => by
    have hw2 : w ∈ mg_T := by
      rcases List.mem_cons.mp hw with e | e
      · rw [e]; exact h4
      · exact e
    exact ⟨hw2, good_of_word (List.mem_filter.mp hw2).2⟩
  have hpre : PreV s H y.cls b (mg_Pre D K (.ref b :: As) wc H.size) As := ⟨mg_Pre.blind D K _ wc H.size, va_recv hK.1 hw.1 hcl hb, fun U hU hW => ⟨rfl, by rw [hU], by rw [hU]; exact mg_cut hw.1 hC, hK.warm hW, (mg_cutD hw.2.1 hnd hC).weaken (fun _ _ _ _ => trivial)⟩⟩
  have hroom : 2 * (F0 m pc ls st0).monitorRoom + (rest.map fun v => v.category).sum ≤ 8 := by show 2 * 0 + _ ≤ 8; omega
  rcases hl with hl | ⟨host, hl⟩
  · exact va_runV X hM ⟨callB_of n hT hgood rfl hrc hrs (hT _ h3) (hT _ hl) ⟨h5, h6, h7⟩ hR, hT _ h1, hT _ h2⟩ hpre rfl hn hls hst hroom hdg hf
  · exact va_runVN X hM ⟨va_cnB n hT hgood rfl hrc hrs (hK.2 _ hl) (hT _ h3) ⟨h5, h6, h7⟩ hR, hT _ h1, hT _ h2⟩ hpre rfl hn hls hst hroom hdg hf
theorem mg_runS (X : CallFix p m c cc nL s args mg_T own) (hK : mg_K D K s) (hw : mg_H D A s.heap H locs ws) (isC : List Nat)
    (hM : Met l y (mg_ws y c1 n1 ret) rm (mg_Pre D K As wc H.size) Qc mc ms free) (hc : mg_CS own index y c1 n1 ret n) (hrc : rm.cells = mc) (hrs : rm.slots = ms) (hR : rm.frames + 1 ≤ R.frames ∧ 8 + (n1 + 11) + rm.locals ≤ R.locals)
    (hC : isC.map (fun i => ws[i]?) = wc.map some) (hnd : va_nd isC = true) (hn : As.length = n) (hls : ls.size = nL) (hst : st0 = As.reverse ++ rest) (hcat : (rest.map fun v => v.category).sum ≤ 8) (hdg : decode cc pc = .ok (.invokestatic index, 3)) (hf : cells + mc ≤ R.cells ∧ slots + ms ≤ R.slots) :
    va_Run p l e R s m args below meth c H locs cells slots mc ms (F0 m pc ls st0) rest (Qc As.toArray) free := by
  obtain ⟨hl, h1, h3, h4, h5, h6, h7⟩ := hc
  have hT := X.2.2.2.2
  have hgood : GoodIn mg_T (mg_ws y c1 n1 ret) := fun w hw => by
    have hw2 : w ∈ mg_T := by
      rcases List.mem_cons.mp hw with e | e
      · rw [e]; exact h4
      · exact e
    exact ⟨hw2, good_of_word (List.mem_filter.mp hw2).2⟩
  have hpre : PreS s H (mg_Pre D K As wc H.size) As := ⟨mg_Pre.blind D K _ wc H.size, fun U hU hW => ⟨rfl, by rw [hU], by rw [hU]; exact mg_cut hw.1 hC, hK.warm hW, (mg_cutD hw.2.1 hnd hC).weaken (fun _ _ _ _ => trivial)⟩⟩
  have hroom : 2 * (F0 m pc ls st0).monitorRoom + (rest.map fun v => v.category).sum ≤ 8 := by show 2 * 0 + _ ≤ 8; omega
  exact va_runS X hM ⟨callB_of n hT hgood rfl hrc hrs (hT _ h3) (hT _ hl) ⟨h5, h6, h7⟩ hR, hT _ h1⟩ hpre rfl hn hls hst hroom hdg hf
/-- a void call: the callee's cells come back at their places -/
theorem mg_backv {S : Type} {post : S → Prop} {wc' : S → va_W} {av : Array Value} (hw : mg_H D A s.heap H locs ws) (hA : ∀ q, s.heap.size ≤ q → A q) (isC : List Nat) (w1 : S → va_W) (hC : isC.map (fun i => ws[i]?) = wc.map some) (had : ∀ u, (wc' u).map (fun q => q.1) = wc.map (fun q => q.1)) (hw1 : ∀ u, mg_pt ws isC (wc' u) = w1 u)
    (hr : va_Run p l e R s m args below meth c H locs cells slots 0 0 (F0 m pc ls st0) rest (va_Qv post (mg_B D (va_A wc H.size) wc') (va_A wc H.size) av) (va_A wc H.size))
    (kk : ∀ (u : S) (H1 : Heap) (locs1 : List Loc), post u → mg_H D A s.heap H1 locs1 (w1 u) → W p l e R s m args below meth c H1 locs1 cells slots Q (F0 m (pc + 3) ls rest)) : W p l e R s m args below meth c H locs cells slots Q (F0 m pc ls st0) := by
  have hF := mg_freeC hw hA hC
  refine va_callv hr hw.2.2 (fun q _ h => hF q h) hF (fun u t H1 locs1 ht _ hp hB _ hk hS => ?_)
  have hP1 := hB.1
  rw [ht] at hP1
  have hj := mg_join hw hC (had u) hk hP1
  rw [hw1 u] at hj
  exact kk u H1 locs1 hp ⟨hj.1, hj.2, hS⟩
theorem mg_backi {S : Type} {post : Int32 → S → Prop} {wc' : S → va_W} {av : Array Value} (hw : mg_H D A s.heap H locs ws) (hA : ∀ q, s.heap.size ≤ q → A q) (isC : List Nat) (w1 : S → va_W) (hC : isC.map (fun i => ws[i]?) = wc.map some) (had : ∀ u, (wc' u).map (fun q => q.1) = wc.map (fun q => q.1)) (hw1 : ∀ u, mg_pt ws isC (wc' u) = w1 u)
    (hr : va_Run p l e R s m args below meth c H locs cells slots 0 0 (F0 m pc ls st0) rest (va_Qi post (mg_B D (va_A wc H.size) wc') (va_A wc H.size) av) (va_A wc H.size))
    (kk : ∀ (r : Int32) (u : S) (H1 : Heap) (locs1 : List Loc), post r u → mg_H D A s.heap H1 locs1 (w1 u) → W p l e R s m args below meth c H1 locs1 cells slots Q (F0 m (pc + 3) ls (.int r :: rest))) : W p l e R s m args below meth c H locs cells slots Q (F0 m pc ls st0) := by
  have hF := mg_freeC hw hA hC
  refine va_calli hr hw.2.2 (fun q _ h => hF q h) hF (fun r u t H1 locs1 ht _ hp hB _ hk hS => ?_)
  have hP1 := hB.1
  rw [ht] at hP1
  have hj := mg_join hw hC (had u) hk hP1
  rw [hw1 u] at hj
  exact kk r u H1 locs1 hp ⟨hj.1, hj.2, hS⟩
end MC
