theorem mg_cb_9 : (Int8.ofInt (9)).toInt32 = nI 9 := by decide +kernel
theorem mg_cb_48 : (Int8.ofInt (48)).toInt32 = nI 48 := by decide +kernel
theorem mg_cb_53 : (Int8.ofInt (53)).toInt32 = nI 53 := by decide +kernel
theorem sf_Am_17 : Cond.fieldLink "LinkedMarkers$Amounts" 17 R_Am "TENS" "[I" ∈ mg_T := mg_in 539 (by decide +kernel) (by decide +kernel)
theorem cw_Am_21 : Cond.constantLong "LinkedMarkers$Amounts" 21 10 ∈ mg_T := mg_in 541 (by decide +kernel) (by decide +kernel)
