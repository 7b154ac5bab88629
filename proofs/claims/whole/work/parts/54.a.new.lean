/-! Constructors: new cells at the end of the world. -/
def mg_KA (K : Nat → ClassId) (U : State) : Prop := U.vm.findClass ("[" ++ FieldType.int.toString) = some (K 0) ∧ U.vm.findClass ("[" ++ FieldType.long.toString) = some (K 1) ∧ U.vm.findClass ("[" ++ FieldType.char.toString) = some (K 2) ∧ U.vm.findClass ("[" ++ FieldType.boolean.toString) = some (K 3)
theorem mg_KA.moved {K : Nat → ClassId} {u U : State} (hvm : u.vm.Alike U.vm) (h : mg_KA K u) : mg_KA K U := by
  obtain ⟨h1, h2, h3, h4⟩ := h
  exact ⟨by rw [hvm.findClass]; exact h1, by rw [hvm.findClass]; exact h2, by rw [hvm.findClass]; exact h3, by rw [hvm.findClass]; exact h4⟩
def mg_PreN (D : va_G) (K : Nat → ClassId) (av : List Value) (ws : va_W) (sz : Nat) : Array Value → State → Prop :=
  va_Pc av (fun U => U.heap.size = sz ∧ va_P D mg_CL ws U.heap ∧ mg_K D K U ∧ va_D (fun _ => True) ws ∧ mg_KA K U)
theorem mg_PreN.blind (D : va_G) (K : Nat → ClassId) (av : List Value) (ws : va_W) (sz : Nat) : FrameBlind (mg_PreN D K av ws sz) := fun a U g mk q => by
  obtain ⟨q0, q1, qP, qK, qD, qS⟩ := q
  exact ⟨q0, q1, qP, qK.calling, qD, mg_KA.moved (u := U) (U := U.calling g mk a) (Vm.Alike.refl U.vm) qS⟩
/-- a constructor's contract: the cells that were there, then the new ones -/
def mg_Mn (l : Launch) (D : va_G) (K : Nat → ClassId) (y : MethodName) (cc : ByteArray) (nL : Nat) (rm : Room) (mc ms : Nat) (av : List Value) (ws : va_W) {S : Type} (w0 wn : S → va_W) : Prop :=
  ∀ sz, Met l y (mg_ws y cc nL none) rm (mg_PreN D K av ws sz) (va_Qv (fun _ : S => True) (mg_B D (va_A ws sz) (fun u => w0 u ++ wn u)) (va_A ws sz)) mc ms (va_A ws sz)
theorem mg_entryN {l : Launch} {D : va_G} {K : Nat → ClassId} {y : MethodName} {cc : ByteArray} {nL mc ms : Nat} {ret : Option FieldType} {rm : Room} {av : List Value} {ws : va_W} {sz : Nat} {Qc : (Nat → Prop) → Array Value → State → Outcome → State → Prop}
    (hy : plainName y.cls = true) (hn : (lg_sl av).length ≤ nL)
    (h : ∀ (p : Program) (e : Env) (s : State) (m : MethodId) (args : Array Value) (below : List Frame) (meth : Method) (c : Code) (A : Nat → Prop) (ls : Array Slot), CallFix p m c cc nL s args mg_T y.cls → meth.sig.returnType = ret → meth.locks = false → meth.name = y.name →
      (∀ q, s.heap.size ≤ q → A q) → mg_K D K s → mg_H D A s.heap s.heap [] ws → mg_KA K s → lv_has ls nL (lv_args 0 av) → W p l e rm s m args below meth c s.heap [] 0 0 (MQ below (Qc A) args s mc ms A) (F0 m 0 ls [])) :
    Met l y (mg_ws y cc nL ret) rm (mg_PreN D K av ws sz) (Qc (va_A ws sz)) mc ms (va_A ws sz) := by
  refine Met.ofW (cc := cc) (maxL := nL) (ret := ret) hy rfl ?_
  intro p e s m args below meth c s₁ B hml hv
  obtain ⟨rfl, hsz, hP, hK, hD0, hSt⟩ := hv
  have hts := atoms_spec (ws := mg_ws y cc nL ret) B.pre
  subst hsz
  have hl := lv_entry av (n := nL) hn
  rw [lg_entry_eq]
  generalize (lg_sl av ++ List.replicate (nL - (lg_sl av).length) Slot.unset).toArray = ls at hl ⊢
  exact h p e s m _ below meth c (va_A ws s.heap.size) ls ⟨B.exec, B.bytes, hml, findClass_of_methodNamed B.named, fun w hw => hts w (List.mem_cons_of_mem _ hw)⟩ B.returns B.notSynchronized (name_of_methodNamed B.named B.method).1
    (fun q h => Or.inr h) hK ⟨hP, hD0.self, va_S.rf⟩ hSt hl
/-- the addresses stay -/
theorem mg_pt_ad {ws wc w0 : va_W} {isC : List Nat} (hC : isC.map (fun i => ws[i]?) = wc.map some) (had : w0.map (fun q => q.1) = wc.map (fun q => q.1)) {k : Nat} {q : Nat × va_E} (h : (mg_pt ws isC w0)[k]? = some q) : ∃ e, ws[k]? = some (q.1, e) := by
  rcases mg_pt_spec isC ws w0 k q h with ⟨j, h1, h2⟩ | ⟨h1, -⟩
  · have h3 : (w0.map (fun q => q.1))[j]? = some q.1 := by rw [List.getElem?_map, h2]; rfl
    rw [had, List.getElem?_map] at h3
    cases hj : wc[j]? with
    | none => rw [hj] at h3; cases h3
    | some y =>
      rw [hj] at h3
      obtain ⟨i, h4, h5⟩ := mg_at hC hj
      rw [h1] at h4
      cases h4
      have h6 : y.1 = q.1 := Option.some.inj h3
      exact ⟨y.2, by rw [h5, ← h6]⟩
  · exact ⟨q.2, h1⟩
theorem mg_joinN {D : va_G} {A : Nat → Prop} {H0 H H1 : Heap} {locs : List Loc} {ws wc w0 wn : va_W} {isC : List Nat} (hw : mg_H D A H0 H locs ws) (hA : ∀ q, H0.size ≤ q → A q) (hC : isC.map (fun i => ws[i]?) = wc.map some) (had : w0.map (fun q => q.1) = wc.map (fun q => q.1))
    (hk : ∀ q : Nat, q < H.size → ¬ va_A wc H.size q → H1[q]? = H[q]?) (hP1 : va_P D mg_CL (w0 ++ wn) H1) (hD1 : va_D (va_A wc H.size) (w0 ++ wn)) : va_P D mg_CL (mg_pt ws isC w0 ++ wn) H1 ∧ va_D A (mg_pt ws isC w0 ++ wn) := by
  have hP0 : va_P D mg_CL w0 H1 := fun k q hq => hP1 k q (by rw [List.getElem?_append_left (List.getElem?_eq_some_iff.mp hq).1]; exact hq)
  have hPn : va_P D mg_CL wn H1 := fun k q hq => hP1 (w0.length + k) q (by rw [List.getElem?_append_right (by omega), show w0.length + k - w0.length = k by omega]; exact hq)
  have hj := mg_join hw hC had hk hP0
  have hF := mg_freeC hw hA hC
  have hnew : ∀ (k : Nat) (q : Nat × va_E), wn[k]? = some q → H.size ≤ q.1 := by
    intro k q hq
    have hq1 : (w0 ++ wn)[w0.length + k]? = some q := by rw [List.getElem?_append_right (by omega), show w0.length + k - w0.length = k by omega]; exact hq
    rcases hD1.2 _ q hq1 with ⟨j, e, hje⟩ | h
    · have h3 : (w0.map (fun q => q.1))[j]? = some q.1 := by rw [had, List.getElem?_map, hje]; rfl
      rw [List.getElem?_map] at h3
      cases hj0 : w0[j]? with
      | none => rw [hj0] at h3; cases h3
      | some z =>
        rw [hj0] at h3
        have hjl := (List.getElem?_eq_some_iff.mp hj0).1
        have h4 : (w0 ++ wn)[j]? = some z := by rw [List.getElem?_append_left hjl]; exact hj0
        have h5 := hD1.1 j (w0.length + k) z q h4 hq1 (Option.some.inj h3)
        omega
    · exact h
  refine ⟨hj.1.app hPn, ?_, ?_⟩
  · intro i j p q hi hj2 hpq
    by_cases hil : i < (mg_pt ws isC w0).length
    · rw [List.getElem?_append_left hil] at hi
      by_cases hjl : j < (mg_pt ws isC w0).length
      · rw [List.getElem?_append_left hjl] at hj2
        exact hj.2.1 i j p q hi hj2 hpq
      · rw [List.getElem?_append_right (by omega)] at hj2
        obtain ⟨e, he⟩ := mg_pt_ad hC had hi
        have h1 := vx_lt hw.1 he
        have h2 := hnew _ q hj2
        have h3 : p.1 < H.size := h1
        omega
    · rw [List.getElem?_append_right (by omega)] at hi
      by_cases hjl : j < (mg_pt ws isC w0).length
      · rw [List.getElem?_append_left hjl] at hj2
        obtain ⟨e, he⟩ := mg_pt_ad hC had hj2
        have h1 := vx_lt hw.1 he
        have h2 := hnew _ p hi
        have h3 : q.1 < H.size := h1
        omega
      · rw [List.getElem?_append_right (by omega)] at hj2
        have a1 : (w0 ++ wn)[w0.length + (i - (mg_pt ws isC w0).length)]? = some p := by rw [List.getElem?_append_right (by omega)]; rw [show ∀ x, w0.length + x - w0.length = x from fun x => by omega]; exact hi
        have a2 : (w0 ++ wn)[w0.length + (j - (mg_pt ws isC w0).length)]? = some q := by rw [List.getElem?_append_right (by omega)]; rw [show ∀ x, w0.length + x - w0.length = x from fun x => by omega]; exact hj2
        have h5 := hD1.1 _ _ p q a1 a2 hpq
        omega
  · intro k q hq
    by_cases hkl : k < (mg_pt ws isC w0).length
    · rw [List.getElem?_append_left hkl] at hq
      exact hj.2.2 k q hq
    · rw [List.getElem?_append_right (by omega)] at hq
      exact hA _ (Nat.le_trans hw.2.2.1 (hnew _ q hq))
/-- what a 'new' rests on -/
def mg_NC (own : String) (index ci : Nat) (fs : List Value) (N : Nat) : Prop := ∃ (C : String) (T : u_T) (ty : Nat → FieldType), mg_CL[ci]? = some (C, T, N) ∧ (∀ w ∈ u_ws C T N, w ∈ mg_T) ∧ (∀ k, k < N → parseFieldDescriptor (T k).2.2.1 = some (ty k)) ∧ Cond.classLink own index C ∈ mg_T ∧ Cond.instantiable C N ∈ mg_T ∧ Cond.initialized C ∈ mg_T ∧ ∀ j, j < N → defaultValue (ty j) = vp_V fs j
def mg_z : Nat → Nat := fun _ => 0
section MN
variable {p : Program} {l : Launch} {e : Env} {R : Room} {s : State} {m : MethodId} {args : Array Value} {below : List Frame} {meth : Method} {c : Code} {H : Heap} {locs : List Loc} {cells slots : Nat} {Q : State → Prop}
variable {cc c1 : ByteArray} {nL pc n1 n index mc ms ci N : Nat} {own : String} {ls : Array Slot} {rest As st0 fs : List Value} {D : va_G} {K : Nat → ClassId} {A : Nat → Prop} {ws wc : va_W} {b : Nat} {y : MethodName} {rm : Room}
theorem mg_new (X : CallFix p m c cc nL s args mg_T own) (hK : mg_K D K s) (hw : mg_H D A s.heap H locs ws) (hA : ∀ q, s.heap.size ≤ q → A q) (pc' : Nat) (w1 : Nat → va_W) (hN : mg_NC own index ci fs N) (hR : cells + 1 ≤ R.cells ∧ slots + N ≤ R.slots) (hdg : decode cc pc = .ok (.new index, 3)) (hw1 : ∀ q, ws ++ [mg_ob q ci fs] = w1 q) (hq : pc + 3 = pc')
    (kk : ∀ (q : Nat) (H1 : Heap), mg_H D A s.heap H1 locs (w1 q) → W p l e R s m args below meth c H1 locs (cells + 1) (slots + N) Q (F0 m pc' ls (.ref q :: rest))) : W p l e R s m args below meth c H locs cells slots Q (F0 m pc ls rest) := by
  subst hq
  obtain ⟨C, T, ty, h1, h2, h3, h4, h5, h6, h7⟩ := hN
  have hT := X.2.2.2.2
  refine va_new X.1 X.2.1 hT h2 ty h3 X.2.2.2.1 (hT _ h4) (hT _ h5) (hT _ h6) hK.1 hw.1 hw.2.1 hw.2.2 hA h1 h7 hR.1 hR.2 hdg (fun q H1 a1 a2 a3 => ?_)
  have e1 := hw1 q
  exact kk q H1 ⟨by rw [← e1]; exact a1, by rw [← e1]; exact a2, a3⟩
theorem mg_newi (X : CallFix p m c cc nL s args mg_T own) (hK : mg_K D K s) (hw : mg_H D A s.heap H locs ws) (hA : ∀ q, s.heap.size ≤ q → A q) (hKA : mg_KA K s) (pc' : Nat) (w1 : Nat → va_W) (ha : Cond.arrayClass .int ∈ mg_T) (hn : n ≤ 100000) (hR : cells + 1 ≤ R.cells ∧ slots + n ≤ R.slots) (hdg : decode cc pc = .ok (.newarray .int, 2)) (hw1 : ∀ q, ws ++ [mg_ai K q n mg_z] = w1 q) (hq : pc + 2 = pc')
    (kk : ∀ (q : Nat) (H1 : Heap), mg_H D A s.heap H1 locs (w1 q) → W p l e R s m args below meth c H1 locs (cells + 1) (slots + n) Q (F0 m pc' ls (.ref q :: rest))) : W p l e R s m args below meth c H locs cells slots Q (F0 m pc ls (.int (nI n) :: rest)) := by
  subst hq
  refine va_newaK (atype := .int) X.1 X.2.1 (X.2.2.2.2 _ ha) rfl hdg rfl (nI_pos (by omega)) (nI_clamp (by omega)) (by show n * componentBytes .int ≤ _; simp only [componentBytes]; omega) hR.1 hR.2 rfl fun H1 cA e1 z1 o1 hAr hNm => ?_
  have hc : cA = K 0 := Option.some.inj (hNm.symm.trans hKA.1)
  subst hc
  have hk : ∀ (k : Nat) (x : Nat × va_E), ws[k]? = some x → H1[x.1]? = H[x.1]? := fun k x hx => o1 x.1 ((hw.1 k x hx).lt)
  have e2 := hw1 H.size
  refine kk H.size H1 ⟨?_, ?_, ⟨Nat.le_trans hw.2.2.1 (by omega), fun x h1 h2 => (o1 x (Nat.lt_of_lt_of_le h1 hw.2.2.1)).trans (hw.2.2.2.1 x h1 h2), hw.2.2.2.2⟩⟩
  · rw [← e2]
    refine (hw.1.kept hk).app (fun k x hx => ?_)
    have hz : k < 1 := (List.getElem?_eq_some_iff.mp hx).1
    rw [show k = 0 by omega] at hx
    cases hx
    exact e1
  · rw [← e2]; exact hw.2.1.push hw.1 rfl (hA _ hw.2.2.1)
theorem mg_newl (X : CallFix p m c cc nL s args mg_T own) (hK : mg_K D K s) (hw : mg_H D A s.heap H locs ws) (hA : ∀ q, s.heap.size ≤ q → A q) (hKA : mg_KA K s) (pc' : Nat) (w1 : Nat → va_W) (ha : Cond.arrayClass .long ∈ mg_T) (hn : n ≤ 100000) (hR : cells + 1 ≤ R.cells ∧ slots + n ≤ R.slots) (hdg : decode cc pc = .ok (.newarray .long, 2)) (hw1 : ∀ q, ws ++ [mg_al K q n mg_z] = w1 q) (hq : pc + 2 = pc')
    (kk : ∀ (q : Nat) (H1 : Heap), mg_H D A s.heap H1 locs (w1 q) → W p l e R s m args below meth c H1 locs (cells + 1) (slots + n) Q (F0 m pc' ls (.ref q :: rest))) : W p l e R s m args below meth c H locs cells slots Q (F0 m pc ls (.int (nI n) :: rest)) := by
  subst hq
  refine va_newaK (atype := .long) X.1 X.2.1 (X.2.2.2.2 _ ha) rfl hdg rfl (nI_pos (by omega)) (nI_clamp (by omega)) (by show n * componentBytes .long ≤ _; simp only [componentBytes]; omega) hR.1 hR.2 rfl fun H1 cA e1 z1 o1 hAr hNm => ?_
  have hc : cA = K 1 := Option.some.inj (hNm.symm.trans hKA.2.1)
  subst hc
  have hk : ∀ (k : Nat) (x : Nat × va_E), ws[k]? = some x → H1[x.1]? = H[x.1]? := fun k x hx => o1 x.1 ((hw.1 k x hx).lt)
  have e2 := hw1 H.size
  refine kk H.size H1 ⟨?_, ?_, ⟨Nat.le_trans hw.2.2.1 (by omega), fun x h1 h2 => (o1 x (Nat.lt_of_lt_of_le h1 hw.2.2.1)).trans (hw.2.2.2.1 x h1 h2), hw.2.2.2.2⟩⟩
  · rw [← e2]
    refine (hw.1.kept hk).app (fun k x hx => ?_)
    have hz : k < 1 := (List.getElem?_eq_some_iff.mp hx).1
    rw [show k = 0 by omega] at hx
    cases hx
    exact e1
  · rw [← e2]; exact hw.2.1.push hw.1 rfl (hA _ hw.2.2.1)
theorem mg_newc (X : CallFix p m c cc nL s args mg_T own) (hK : mg_K D K s) (hw : mg_H D A s.heap H locs ws) (hA : ∀ q, s.heap.size ≤ q → A q) (hKA : mg_KA K s) (pc' : Nat) (w1 : Nat → va_W) (ha : Cond.arrayClass .char ∈ mg_T) (hn : n ≤ 100000) (hR : cells + 1 ≤ R.cells ∧ slots + n ≤ R.slots) (hdg : decode cc pc = .ok (.newarray .char, 2)) (hw1 : ∀ q, ws ++ [mg_ac K q n mg_z] = w1 q) (hq : pc + 2 = pc')
    (kk : ∀ (q : Nat) (H1 : Heap), mg_H D A s.heap H1 locs (w1 q) → W p l e R s m args below meth c H1 locs (cells + 1) (slots + n) Q (F0 m pc' ls (.ref q :: rest))) : W p l e R s m args below meth c H locs cells slots Q (F0 m pc ls (.int (nI n) :: rest)) := by
  subst hq
  refine va_newaK (atype := .char) X.1 X.2.1 (X.2.2.2.2 _ ha) rfl hdg rfl (nI_pos (by omega)) (nI_clamp (by omega)) (by show n * componentBytes .char ≤ _; simp only [componentBytes]; omega) hR.1 hR.2 rfl fun H1 cA e1 z1 o1 hAr hNm => ?_
  have hc : cA = K 2 := Option.some.inj (hNm.symm.trans hKA.2.2.1)
  subst hc
  have hk : ∀ (k : Nat) (x : Nat × va_E), ws[k]? = some x → H1[x.1]? = H[x.1]? := fun k x hx => o1 x.1 ((hw.1 k x hx).lt)
  have e2 := hw1 H.size
  refine kk H.size H1 ⟨?_, ?_, ⟨Nat.le_trans hw.2.2.1 (by omega), fun x h1 h2 => (o1 x (Nat.lt_of_lt_of_le h1 hw.2.2.1)).trans (hw.2.2.2.1 x h1 h2), hw.2.2.2.2⟩⟩
  · rw [← e2]
    refine (hw.1.kept hk).app (fun k x hx => ?_)
    have hz : k < 1 := (List.getElem?_eq_some_iff.mp hx).1
    rw [show k = 0 by omega] at hx
    cases hx
    exact e1
  · rw [← e2]; exact hw.2.1.push hw.1 rfl (hA _ hw.2.2.1)
theorem mg_newz (X : CallFix p m c cc nL s args mg_T own) (hK : mg_K D K s) (hw : mg_H D A s.heap H locs ws) (hA : ∀ q, s.heap.size ≤ q → A q) (hKA : mg_KA K s) (pc' : Nat) (w1 : Nat → va_W) (ha : Cond.arrayClass .boolean ∈ mg_T) (hn : n ≤ 100000) (hR : cells + 1 ≤ R.cells ∧ slots + n ≤ R.slots) (hdg : decode cc pc = .ok (.newarray .boolean, 2)) (hw1 : ∀ q, ws ++ [mg_az K q n mg_z] = w1 q) (hq : pc + 2 = pc')
    (kk : ∀ (q : Nat) (H1 : Heap), mg_H D A s.heap H1 locs (w1 q) → W p l e R s m args below meth c H1 locs (cells + 1) (slots + n) Q (F0 m pc' ls (.ref q :: rest))) : W p l e R s m args below meth c H locs cells slots Q (F0 m pc ls (.int (nI n) :: rest)) := by
  subst hq
  refine va_newaK (atype := .boolean) X.1 X.2.1 (X.2.2.2.2 _ ha) rfl hdg rfl (nI_pos (by omega)) (nI_clamp (by omega)) (by show n * componentBytes .boolean ≤ _; simp only [componentBytes]; omega) hR.1 hR.2 rfl fun H1 cA e1 z1 o1 hAr hNm => ?_
  have hc : cA = K 3 := Option.some.inj (hNm.symm.trans hKA.2.2.2)
  subst hc
  have hk : ∀ (k : Nat) (x : Nat × va_E), ws[k]? = some x → H1[x.1]? = H[x.1]? := fun k x hx => o1 x.1 ((hw.1 k x hx).lt)
  have e2 := hw1 H.size
  refine kk H.size H1 ⟨?_, ?_, ⟨Nat.le_trans hw.2.2.1 (by omega), fun x h1 h2 => (o1 x (Nat.lt_of_lt_of_le h1 hw.2.2.1)).trans (hw.2.2.2.1 x h1 h2), hw.2.2.2.2⟩⟩
  · rw [← e2]
    refine (hw.1.kept hk).app (fun k x hx => ?_)
    have hz : k < 1 := (List.getElem?_eq_some_iff.mp hx).1
    rw [show k = 0 by omega] at hx
    cases hx
    exact e1
  · rw [← e2]; exact hw.2.1.push hw.1 rfl (hA _ hw.2.2.1)
theorem mg_objinit {idx : Nat} {a : Nat} (X : CallFix p m c cc nL s args mg_T own) (pc' : Nat) (hl : Cond.methodLink own idx Lib.objectInit ∈ mg_T) (hi : Cond.instanceMethod Lib.objectInit ∈ mg_T) (hc : Cond.code Lib.objectInit ⟨#[0xb1]⟩ 1 none ∈ mg_T) (hls : ls.size = nL) (hcat : (rest.map fun v => v.category).sum ≤ 8) (hdg : decode cc pc = .ok (.invokespecial idx, 3)) (hR : 1 ≤ R.frames ∧ 20 ≤ R.locals) (hq : pc + 3 = pc')
    (kk : W p l e R s m args below meth c H locs cells slots Q (F0 m pc' ls rest)) : W p l e R s m args below meth c H locs cells slots Q (F0 m pc ls (.ref a :: rest)) := by
  subst hq
  have hT := X.2.2.2.2
  exact W.objInit X.1 X.2.1 X.2.2.2.1 (hT _ hl) (hT _ hi) (hT _ hc) (g := F0 m pc ls (.ref a :: rest)) rfl (hls.trans X.2.2.1.symm) rfl hdg hR.1 (by show 2 * 0 + _ + 12 ≤ _; omega) kk
def mg_CI (own : String) (index : Nat) (y : MethodName) (cc : ByteArray) (nL n : Nat) : Prop :=
  Cond.methodLink own index y ∈ mg_T ∧ Cond.instanceMethod y ∈ mg_T ∧ Cond.initialized y.cls ∈ mg_T ∧ Cond.code y cc nL none ∈ mg_T ∧ y.name = "<init>" ∧
  y.cls ≠ "java/lang/invoke/MethodHandle" ∧ y.cls ≠ "java/lang/invoke/VarHandle" ∧ (parseMethodDescriptor y.desc).map (fun d => d.parameters.length) = some n
theorem mg_callN {S : Type} {w0 wn : S → va_W} (X : CallFix p m c cc nL s args mg_T own) (hK : mg_K D K s) (hw : mg_H D A s.heap H locs ws) (hA : ∀ q, s.heap.size ≤ q → A q) (hKA : mg_KA K s) (pc' : Nat) (isC : List Nat) (w1 : S → va_W)
    (hM : mg_Mn l D K y c1 n1 rm mc ms (.ref b :: As) wc w0 wn) (hc : mg_CI own index y c1 n1 n) (hR : rm.frames + 1 ≤ R.frames ∧ 8 + (n1 + 11) + rm.locals ≤ R.locals)
    (hrc : rm.cells = mc ∧ rm.slots = ms) (hC : isC.map (fun i => ws[i]?) = wc.map some) (hnd : va_nd isC = true) (hn : As.length = n) (hls : ls.size = nL) (hst : st0 = As.reverse ++ .ref b :: rest) (hcat : (rest.map fun v => v.category).sum ≤ 8) (hdg : decode cc pc = .ok (.invokespecial index, 3)) (hf : cells + mc ≤ R.cells ∧ slots + ms ≤ R.slots)
    (had : ∀ u, (w0 u).map (fun q => q.1) = wc.map (fun q => q.1)) (hw1 : ∀ u, mg_pt ws isC (w0 u) ++ wn u = w1 u) (hq : pc + 3 = pc')
    (kk : ∀ (u : S) (H1 : Heap) (locs1 : List Loc), mg_H D A s.heap H1 locs1 (w1 u) → W p l e R s m args below meth c H1 locs1 (cells + mc) (slots + ms) Q (F0 m pc' ls rest)) : W p l e R s m args below meth c H locs cells slots Q (F0 m pc ls st0) := by
  subst hq
  obtain ⟨hl, h1, h3, h4, h0, h5, h6, h7⟩ := hc
  have hT := X.2.2.2.2
  have hF := mg_freeC hw hA hC
  have hpre : PreS s H (mg_PreN D K (.ref b :: As) wc H.size) (.ref b :: As) := ⟨mg_PreN.blind D K _ wc H.size, fun U hU hW => ⟨rfl, by rw [hU], by rw [hU]; exact mg_cut hw.1 hC, hK.warm hW, (mg_cutD hw.2.1 hnd hC).weaken (fun _ _ _ _ => trivial), hKA.moved hW.alike⟩⟩
  have hroom : 2 * (F0 m pc ls st0).monitorRoom + (rest.map fun v => v.category).sum ≤ 8 := by show 2 * 0 + _ ≤ 8; omega
  have hrun := va_runI (e := e) (below := below) (meth := meth) (locs := locs) (g := F0 m pc ls st0) X (hM H.size) ⟨callB_of n hT (mg_goodM h4) rfl hrc.1 hrc.2 (hT _ h3) (hT _ hl) ⟨h5, h6, h7⟩ hR, h0, hT _ h1⟩ hpre rfl hn hls hst hroom hdg hf
  refine va_callv hrun hw.2.2 (fun q _ h => hF q h) hF (fun u t H1 locs1 ht _ hp hB _ hk hS => ?_)
  have hP1 := hB.1
  rw [ht] at hP1
  have hj := mg_joinN hw hA hC (had u) hk hP1 hB.2
  rw [hw1 u] at hj
  exact kk u H1 locs1 ⟨hj.1, hj.2, hS⟩
end MN
