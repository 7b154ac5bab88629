/-! The law's start: what the tables and the statics say. -/
theorem st_kn {s : State} {args : Array Value} (hT : ∀ w ∈ mg_T, w.before args s = true) {C : String} {T : u_T} {N : Nat} (hin : ∀ w ∈ u_ws C T N, w ∈ mg_T) (hi : Cond.instantiable C N ∈ mg_T) : ∃ q : ClassId × (Nat → Nat), u_Kn s C T N q.1 q.2 := by
  obtain ⟨a, b, h⟩ := u_known hT hin (hT _ hi)
  exact ⟨(a, b), h⟩
theorem st_ar {s : State} {args : Array Value} (hT : ∀ w ∈ mg_T, w.before args s = true) {ty : FieldType} (ha : Cond.arrayClass ty ∈ mg_T) : ∃ cA : ClassId, ArrOfT s cA ty ∧ s.vm.findClass ("[" ++ ty.toString) = some cA := by
  obtain ⟨cA, kA, comp, hfind, hk, hkind⟩ := Cond.arrayClass_spec (hT _ ha)
  exact ⟨cA, fun n z => ⟨fun k h => (by cases h), kA, hk, comp, hkind⟩, hfind⟩
theorem st_K {s : State} {args : Array Value} (hT : ∀ w ∈ mg_T, w.before args s = true) (hN : ∀ w ∈ mg_NW, w.before args s = true) : ∃ (D : va_G) (K : Nat → ClassId), mg_K D K s ∧ mg_KA K s := by
  obtain ⟨q0, h0⟩ := st_kn hT in_Am (mg_in 138 (by decide +kernel) (by decide +kernel))
  obtain ⟨q1, h1⟩ := st_kn hT in_Fa (mg_in 56 (by decide +kernel) (by decide +kernel))
  obtain ⟨q2, h2⟩ := st_kn hT in_Ma (mg_in 82 (by decide +kernel) (by decide +kernel))
  obtain ⟨q3, h3⟩ := st_kn hT in_Fi (mg_in 113 (by decide +kernel) (by decide +kernel))
  obtain ⟨q4, h4⟩ := st_kn hT in_Su (mg_in 132 (by decide +kernel) (by decide +kernel))
  obtain ⟨q5, h5⟩ := st_kn hT in_LM (mg_in 48 (by decide +kernel) (by decide +kernel))
  obtain ⟨q6, h6⟩ := st_kn hT in_Mo (mg_in 647 (by decide +kernel) (by decide +kernel))
  obtain ⟨c0, a0, f0⟩ := st_ar hT ac_i
  obtain ⟨c1, a1, f1⟩ := st_ar hT ac_l
  obtain ⟨c2, a2, f2⟩ := st_ar hT ac_c
  obtain ⟨c3, a3, f3⟩ := st_ar hT ac_z
  refine ⟨(fun c => match c with | 0 => q0.1 | 1 => q1.1 | 2 => q2.1 | 3 => q3.1 | 4 => q4.1 | 5 => q5.1 | _ => q6.1, fun c => match c with | 0 => q0.2 | 1 => q1.2 | 2 => q2.2 | 3 => q3.2 | 4 => q4.2 | 5 => q5.2 | _ => q6.2), fun k => match k with | 0 => c0 | 1 => c1 | 2 => c2 | _ => c3, ⟨⟨fun c q hc => ?_, fun k q hk => ?_⟩, fun w hw => va_any (mg_nw_on (List.mem_filter.mp hw).2) (hN w hw)⟩, f0, f1, f2, f3⟩
  · have hl : c < 7 := (List.getElem?_eq_some_iff.mp hc).1
    rcases (show c = 0 ∨ c = 1 ∨ c = 2 ∨ c = 3 ∨ c = 4 ∨ c = 5 ∨ c = 6 by omega) with e | e | e | e | e | e | e <;> subst e <;> cases hc
    · exact h0
    · exact h1
    · exact h2
    · exact h3
    · exact h4
    · exact h5
    · exact h6
  · have hl : k < 4 := (List.getElem?_eq_some_iff.mp hk).1
    rcases (show k = 0 ∨ k = 1 ∨ k = 2 ∨ k = 3 by omega) with e | e | e | e <;> subst e <;> cases hk
    · exact ⟨a0, f0⟩
    · exact ⟨a1, f1⟩
    · exact ⟨a2, f2⟩
    · exact ⟨a3, f3⟩
