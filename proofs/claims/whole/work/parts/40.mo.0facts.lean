theorem mg_cb_10 : (Int8.ofInt (10)).toInt32 = nI 10 := by decide +kernel
theorem mg_cb_24 : (Int8.ofInt (24)).toInt32 = nI 24 := by decide +kernel
theorem mg_ci_4 : Int32.ofInt (4) = nI 4 := by decide +kernel
theorem f_Mo_76 : mg_F "LinkedMarkersModel" 76 6 0 := ⟨R_Mo, T_Mo, 26, rfl, by decide, in_Mo, rfl, Or.inl (mg_in 655 (by decide +kernel) (by decide +kernel))⟩
theorem fp_Mo_76 : mg_Fp "LinkedMarkersModel" 76 6 0 (.int) false := ⟨R_Mo, T_Mo, 26, t_Mo, rfl, by decide, in_Mo, rfl, ty_Mo, nm_Mo, rfl, by decide +kernel, (fun h => by first | rfl | cases h), Or.inl (mg_in 655 (by decide +kernel) (by decide +kernel))⟩
theorem f_Mo_28 : mg_F "LinkedMarkersModel" 28 6 11 := ⟨R_Mo, T_Mo, 26, rfl, by decide, in_Mo, rfl, Or.inl (mg_in 666 (by decide +kernel) (by decide +kernel))⟩
theorem f_Mo_80 : mg_F "LinkedMarkersModel" 80 6 1 := ⟨R_Mo, T_Mo, 26, rfl, by decide, in_Mo, rfl, Or.inl (mg_in 656 (by decide +kernel) (by decide +kernel))⟩
theorem f_Mo_83 : mg_F "LinkedMarkersModel" 83 6 7 := ⟨R_Mo, T_Mo, 26, rfl, by decide, in_Mo, rfl, Or.inl (mg_in 662 (by decide +kernel) (by decide +kernel))⟩
theorem f_Mo_34 : mg_F "LinkedMarkersModel" 34 6 13 := ⟨R_Mo, T_Mo, 26, rfl, by decide, in_Mo, rfl, Or.inl (mg_in 668 (by decide +kernel) (by decide +kernel))⟩
theorem f_Mo_86 : mg_F "LinkedMarkersModel" 86 6 3 := ⟨R_Mo, T_Mo, 26, rfl, by decide, in_Mo, rfl, Or.inl (mg_in 658 (by decide +kernel) (by decide +kernel))⟩
theorem g_Mo_115 : mg_CV "LinkedMarkersModel" 115 y_Mo_ways b_Mo_ways 1 (some .int) 0 := ⟨Or.inl (mg_in 794 (by decide +kernel) (by decide +kernel)), (mg_in 796 (by decide +kernel) (by decide +kernel)), (mg_in 17 (by decide +kernel) (by decide +kernel)), (mg_in 40 (by decide +kernel) (by decide +kernel)), (mg_in 797 (by decide +kernel) (by decide +kernel)), by decide, by decide, by decide +kernel⟩
theorem f_Mo_13 : mg_F "LinkedMarkersModel" 13 6 5 := ⟨R_Mo, T_Mo, 26, rfl, by decide, in_Mo, rfl, Or.inl (mg_in 660 (by decide +kernel) (by decide +kernel))⟩
theorem f_Mo_7 : mg_F "LinkedMarkersModel" 7 6 4 := ⟨R_Mo, T_Mo, 26, rfl, by decide, in_Mo, rfl, Or.inl (mg_in 659 (by decide +kernel) (by decide +kernel))⟩
theorem f_Mo_16 : mg_F "LinkedMarkersModel" 16 6 6 := ⟨R_Mo, T_Mo, 26, rfl, by decide, in_Mo, rfl, Or.inl (mg_in 661 (by decide +kernel) (by decide +kernel))⟩
theorem f_Mo_31 : mg_F "LinkedMarkersModel" 31 6 12 := ⟨R_Mo, T_Mo, 26, rfl, by decide, in_Mo, rfl, Or.inl (mg_in 667 (by decide +kernel) (by decide +kernel))⟩
theorem g_Mo_122 : mg_CV "LinkedMarkersModel" 122 y_Mo_originOf b_Mo_originOf 7 (some .int) 3 := ⟨Or.inl (mg_in 806 (by decide +kernel) (by decide +kernel)), (mg_in 808 (by decide +kernel) (by decide +kernel)), (mg_in 19 (by decide +kernel) (by decide +kernel)), (mg_in 40 (by decide +kernel) (by decide +kernel)), (mg_in 809 (by decide +kernel) (by decide +kernel)), by decide, by decide, by decide +kernel⟩
