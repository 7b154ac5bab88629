theorem mg_cb_17 : (Int8.ofInt (17)).toInt32 = nI 17 := by decide +kernel
theorem f_Mo_89 : mg_F "LinkedMarkersModel" 89 6 2 := ⟨R_Mo, T_Mo, 26, rfl, by decide, in_Mo, rfl, Or.inl (mg_in 657 (by decide +kernel) (by decide +kernel))⟩
theorem g_Mo_126 : mg_CV "LinkedMarkersModel" 126 y_Mo_isSo b_Mo_isSo 8 (some .boolean) 2 := ⟨Or.inl (mg_in 822 (by decide +kernel) (by decide +kernel)), (mg_in 824 (by decide +kernel) (by decide +kernel)), (mg_in 22 (by decide +kernel) (by decide +kernel)), (mg_in 40 (by decide +kernel) (by decide +kernel)), (mg_in 825 (by decide +kernel) (by decide +kernel)), by decide, by decide, by decide +kernel⟩
theorem f_Mo_19 : mg_F "LinkedMarkersModel" 19 6 8 := ⟨R_Mo, T_Mo, 26, rfl, by decide, in_Mo, rfl, Or.inl (mg_in 663 (by decide +kernel) (by decide +kernel))⟩
theorem f_Mo_38 : mg_F "LinkedMarkersModel" 38 6 14 := ⟨R_Mo, T_Mo, 26, rfl, by decide, in_Mo, rfl, Or.inl (mg_in 669 (by decide +kernel) (by decide +kernel))⟩
theorem g_Mo_130 : mg_CV "LinkedMarkersModel" 130 y_Mo_reckonFit b_Mo_reckonFit 9 (some .int) 2 := ⟨Or.inl (mg_in 818 (by decide +kernel) (by decide +kernel)), (mg_in 820 (by decide +kernel) (by decide +kernel)), (mg_in 21 (by decide +kernel) (by decide +kernel)), (mg_in 40 (by decide +kernel) (by decide +kernel)), (mg_in 821 (by decide +kernel) (by decide +kernel)), by decide, by decide, by decide +kernel⟩
theorem cw_Mo_137 : Cond.constantLong "LinkedMarkersModel" 137 268435456 ∈ mg_T := mg_in 852 (by decide +kernel) (by decide +kernel)
theorem f_Mo_60 : mg_F "LinkedMarkersModel" 60 6 21 := ⟨R_Mo, T_Mo, 26, rfl, by decide, in_Mo, rfl, Or.inl (mg_in 676 (by decide +kernel) (by decide +kernel))⟩
theorem f_Mo_63 : mg_F "LinkedMarkersModel" 63 6 22 := ⟨R_Mo, T_Mo, 26, rfl, by decide, in_Mo, rfl, Or.inl (mg_in 677 (by decide +kernel) (by decide +kernel))⟩
theorem f_Mo_25 : mg_F "LinkedMarkersModel" 25 6 10 := ⟨R_Mo, T_Mo, 26, rfl, by decide, in_Mo, rfl, Or.inl (mg_in 665 (by decide +kernel) (by decide +kernel))⟩
