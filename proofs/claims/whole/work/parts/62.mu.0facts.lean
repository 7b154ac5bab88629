theorem fp_Mo_169 : mg_Fp "LinkedMarkersModel" 169 6 24 (.int) false := ⟨R_Mo, T_Mo, 26, t_Mo, rfl, by decide, in_Mo, rfl, ty_Mo, nm_Mo, rfl, by decide +kernel, (fun h => by first | rfl | cases h), Or.inl (mg_in 679 (by decide +kernel) (by decide +kernel))⟩
theorem cw_Mo_172 : Cond.constantLong "LinkedMarkersModel" 172 10 ∈ mg_T := mg_in 856 (by decide +kernel) (by decide +kernel)
