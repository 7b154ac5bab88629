theorem mg_cb_6 : (Int8.ofInt (6)).toInt32 = nI 6 := by decide +kernel
theorem mg_cb_16 : (Int8.ofInt (16)).toInt32 = nI 16 := by decide +kernel
theorem mg_ci_m1 : Int32.ofInt (-1) = nI 4294967295 := by decide +kernel
theorem mg_ci_0 : Int32.ofInt (0) = nI 0 := by decide +kernel
theorem mg_ci_1 : Int32.ofInt (1) = nI 1 := by decide +kernel
theorem mg_ci_5 : Int32.ofInt (5) = nI 5 := by decide +kernel
theorem f_Am_11 : mg_F "LinkedMarkers$Amounts" 11 0 0 := ⟨R_Am, T_Am, 1, rfl, by decide, in_Am, rfl, Or.inl (mg_in 143 (by decide +kernel) (by decide +kernel))⟩
theorem cw_Am_15 : Cond.constantLong "LinkedMarkers$Amounts" 15 1000000000 ∈ mg_T := mg_in 517 (by decide +kernel) (by decide +kernel)
