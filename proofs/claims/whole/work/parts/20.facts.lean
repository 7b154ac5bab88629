theorem mg_inws {C : String} {T : u_T} {N : Nat} (is : List Nat) (h : u_ws C T N = is.filterMap (fun i => lw_tbl[i]?)) (hg : (u_ws C T N).all goodWord = true) : ∀ w ∈ u_ws C T N, w ∈ mg_T := fun w hw => by
  have h1 := List.all_eq_true.mp hg w hw
  rw [h] at hw
  obtain ⟨i, -, hi⟩ := List.mem_filterMap.mp hw
  exact mg_in i hi h1
set_option maxRecDepth 20000 in
theorem in_Am : ∀ w ∈ u_ws R_Am T_Am 1, w ∈ mg_T := mg_inws [144] (by decide +kernel) (by decide +kernel)
set_option maxRecDepth 20000 in
theorem in_Fa : ∀ w ∈ u_ws R_Fa T_Fa 5, w ∈ mg_T := mg_inws [69, 71, 73, 75, 77] (by decide +kernel) (by decide +kernel)
set_option maxRecDepth 20000 in
theorem in_Ma : ∀ w ∈ u_ws R_Ma T_Ma 6, w ∈ mg_T := mg_inws [99, 101, 103, 105, 107, 109] (by decide +kernel) (by decide +kernel)
set_option maxRecDepth 20000 in
theorem in_Fi : ∀ w ∈ u_ws R_Fi T_Fi 4, w ∈ mg_T := mg_inws [122, 124, 126, 128] (by decide +kernel) (by decide +kernel)
set_option maxRecDepth 20000 in
theorem in_Su : ∀ w ∈ u_ws R_Su T_Su 8, w ∈ mg_T := mg_inws [157, 159, 161, 163, 165, 167, 169, 171] (by decide +kernel) (by decide +kernel)
set_option maxRecDepth 20000 in
theorem in_LM : ∀ w ∈ u_ws R_LM T_LM 6, w ∈ mg_T := mg_inws [180, 182, 184, 186, 188, 190] (by decide +kernel) (by decide +kernel)
set_option maxRecDepth 20000 in
theorem in_Mo : ∀ w ∈ u_ws R_Mo T_Mo 26, w ∈ mg_T := mg_inws [681, 683, 685, 687, 689, 691, 693, 695, 697, 699, 701, 703, 705, 707, 709, 711, 713, 715, 717, 719, 721, 723, 725, 727, 729, 731] (by decide +kernel) (by decide +kernel)
theorem mg_cb_6 : (Int8.ofInt (6)).toInt32 = nI 6 := by decide +kernel
theorem mg_cb_16 : (Int8.ofInt (16)).toInt32 = nI 16 := by decide +kernel
theorem mg_ci_m1 : Int32.ofInt (-1) = nI 4294967295 := by decide +kernel
theorem mg_ci_0 : Int32.ofInt (0) = nI 0 := by decide +kernel
theorem mg_ci_1 : Int32.ofInt (1) = nI 1 := by decide +kernel
theorem mg_ci_2 : Int32.ofInt (2) = nI 2 := by decide +kernel
theorem mg_ci_3 : Int32.ofInt (3) = nI 3 := by decide +kernel
theorem mg_ci_5 : Int32.ofInt (5) = nI 5 := by decide +kernel
theorem f_Am_11 : mg_F "LinkedMarkers$Amounts" 11 0 0 := ⟨R_Am, T_Am, 1, rfl, by decide, in_Am, rfl, Or.inl (mg_in 143 (by decide +kernel) (by decide +kernel))⟩
theorem cw_Am_15 : Cond.constantLong "LinkedMarkers$Amounts" 15 1000000000 ∈ mg_T := mg_in 517 (by decide +kernel) (by decide +kernel)
theorem f_Fa_21 : mg_F "LinkedMarkers$Family" 21 1 3 := ⟨R_Fa, T_Fa, 5, rfl, by decide, in_Fa, rfl, Or.inl (mg_in 64 (by decide +kernel) (by decide +kernel))⟩
theorem f_Fa_25 : mg_F "LinkedMarkers$Family" 25 1 4 := ⟨R_Fa, T_Fa, 5, rfl, by decide, in_Fa, rfl, Or.inl (mg_in 67 (by decide +kernel) (by decide +kernel))⟩
theorem g_Fa_28 : mg_CV "LinkedMarkers$Family" 28 y_Fa_bits b_Fa_bits 1 (some .int) 0 := ⟨Or.inl (mg_in 206 (by decide +kernel) (by decide +kernel)), (mg_in 207 (by decide +kernel) (by decide +kernel)), (mg_in 208 (by decide +kernel) (by decide +kernel)), (mg_in 35 (by decide +kernel) (by decide +kernel)), (mg_in 209 (by decide +kernel) (by decide +kernel)), by decide, by decide, by decide +kernel⟩
theorem g_Fa_32 : mg_CV "LinkedMarkers$Family" 32 y_Fa_persons b_Fa_persons 1 (some .int) 0 := ⟨Or.inl (mg_in 301 (by decide +kernel) (by decide +kernel)), (mg_in 199 (by decide +kernel) (by decide +kernel)), (mg_in 200 (by decide +kernel) (by decide +kernel)), (mg_in 35 (by decide +kernel) (by decide +kernel)), (mg_in 201 (by decide +kernel) (by decide +kernel)), by decide, by decide, by decide +kernel⟩
theorem g_Fa_35 : mg_CV "LinkedMarkers$Family" 35 y_Fa_ways b_Fa_ways 1 (some .int) 0 := ⟨Or.inl (mg_in 466 (by decide +kernel) (by decide +kernel)), (mg_in 203 (by decide +kernel) (by decide +kernel)), (mg_in 204 (by decide +kernel) (by decide +kernel)), (mg_in 35 (by decide +kernel) (by decide +kernel)), (mg_in 205 (by decide +kernel) (by decide +kernel)), by decide, by decide, by decide +kernel⟩
theorem f_Fa_9 : mg_F "LinkedMarkers$Family" 9 1 0 := ⟨R_Fa, T_Fa, 5, rfl, by decide, in_Fa, rfl, Or.inl (mg_in 61 (by decide +kernel) (by decide +kernel))⟩
theorem f_Fa_15 : mg_F "LinkedMarkers$Family" 15 1 1 := ⟨R_Fa, T_Fa, 5, rfl, by decide, in_Fa, rfl, Or.inl (mg_in 62 (by decide +kernel) (by decide +kernel))⟩
theorem f_Fa_18 : mg_F "LinkedMarkers$Family" 18 1 2 := ⟨R_Fa, T_Fa, 5, rfl, by decide, in_Fa, rfl, Or.inl (mg_in 63 (by decide +kernel) (by decide +kernel))⟩
theorem fp_Fa_21 : mg_Fp "LinkedMarkers$Family" 21 1 3 (.int) false := ⟨R_Fa, T_Fa, 5, t_Fa, rfl, by decide, in_Fa, rfl, ty_Fa, nm_Fa, rfl, by decide +kernel, (fun h => by first | rfl | cases h), Or.inl (mg_in 64 (by decide +kernel) (by decide +kernel))⟩
theorem fp_Fa_25 : mg_Fp "LinkedMarkers$Family" 25 1 4 (.int) false := ⟨R_Fa, T_Fa, 5, t_Fa, rfl, by decide, in_Fa, rfl, ty_Fa, nm_Fa, rfl, by decide +kernel, (fun h => by first | rfl | cases h), Or.inl (mg_in 67 (by decide +kernel) (by decide +kernel))⟩
theorem g_Fa_38 : mg_CV "LinkedMarkers$Family" 38 y_Fa_sourceOf b_Fa_sourceOf 8 (some .int) 3 := ⟨Or.inl (mg_in 634 (by decide +kernel) (by decide +kernel)), (mg_in 341 (by decide +kernel) (by decide +kernel)), (mg_in 342 (by decide +kernel) (by decide +kernel)), (mg_in 35 (by decide +kernel) (by decide +kernel)), (mg_in 343 (by decide +kernel) (by decide +kernel)), by decide, by decide, by decide +kernel⟩
