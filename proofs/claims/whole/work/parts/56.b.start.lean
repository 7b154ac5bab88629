theorem st_St {s : State} {b : Nat} (hT : ∀ w ∈ lw_tbl, w.before #[Value.ref b] s = true) (hg : (Jvm.Cond.and given_1 narrow_1).before #[Value.ref b] s = true) {A : Nat → Prop} (hA : ∀ a : Nat, a < s.heap.size → ¬ A a) : mg_St A s s.heap := by
  have hs := flat_of_before _ hg
  obtain ⟨t, ht, hTt⟩ := va_Tof (tm := .static R_Am "TENS" "[I") (ty := .int) (N := 9) (f := fun j => .int (nI (10 ^ j))) (by decide) (hs _ (by decide +kernel)) (va_eqt (z := 9) (hs _ (by decide +kernel))) (fun j hj => by
    rcases (show j = 0 ∨ j = 1 ∨ j = 2 ∨ j = 3 ∨ j = 4 ∨ j = 5 ∨ j = 6 ∨ j = 7 ∨ j = 8 by omega) with e | e | e | e | e | e | e | e | e <;> subst e
    · exact va_eqt (t := .elem (.static R_Am "TENS" "[I") (.int 0)) (z := 1) (hs _ (by decide +kernel))
    · exact va_eqt (t := .elem (.static R_Am "TENS" "[I") (.int 1)) (z := 10) (hs _ (by decide +kernel))
    · exact va_eqt (t := .elem (.static R_Am "TENS" "[I") (.int 2)) (z := 100) (hs _ (by decide +kernel))
    · exact va_eqt (t := .elem (.static R_Am "TENS" "[I") (.int 3)) (z := 1000) (hs _ (by decide +kernel))
    · exact va_eqt (t := .elem (.static R_Am "TENS" "[I") (.int 4)) (z := 10000) (hs _ (by decide +kernel))
    · exact va_eqt (t := .elem (.static R_Am "TENS" "[I") (.int 5)) (z := 100000) (hs _ (by decide +kernel))
    · exact va_eqt (t := .elem (.static R_Am "TENS" "[I") (.int 6)) (z := 1000000) (hs _ (by decide +kernel))
    · exact va_eqt (t := .elem (.static R_Am "TENS" "[I") (.int 7)) (z := 10000000) (hs _ (by decide +kernel))
    · exact va_eqt (t := .elem (.static R_Am "TENS" "[I") (.int 8)) (z := 100000000) (hs _ (by decide +kernel))) hA
  exact ⟨vx_Zqof (hT _ (List.mem_of_getElem? (i := 261) (by decide +kernel))) (hT _ (List.mem_of_getElem? (i := 41) (by decide +kernel))) (hs _ (by decide +kernel)) hA, vx_Zqof (hT _ (List.mem_of_getElem? (i := 263) (by decide +kernel))) (hT _ (List.mem_of_getElem? (i := 41) (by decide +kernel))) (hs _ (by decide +kernel)) hA, ⟨t, va_Zof (hT _ (List.mem_of_getElem? (i := 540) (by decide +kernel))) (hT _ (List.mem_of_getElem? (i := 39) (by decide +kernel))) ht hA, hTt⟩, va_Nc.of (hs _ (by decide +kernel)), va_Nc.of (hs _ (by decide +kernel)), va_Nc.of (hs _ (by decide +kernel)), fun w hw => va_any (mg_xw_on (List.mem_filter.mp hw).2) (hT w (List.mem_filter.mp hw).1)⟩
