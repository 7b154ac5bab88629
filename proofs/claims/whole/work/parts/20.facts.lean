theorem mg_inws {C : String} {T : u_T} {N : Nat} (is : List Nat) (h : u_ws C T N = is.filterMap (fun i => lw_tbl[i]?)) (hg : (u_ws C T N).all goodWord = true) : ∀ w ∈ u_ws C T N, w ∈ mg_T := fun w hw => by
  have h1 := List.all_eq_true.mp hg w hw
  rw [h] at hw
  obtain ⟨i, -, hi⟩ := List.mem_filterMap.mp hw
  exact mg_in i hi h1
set_option maxRecDepth 20000 in
theorem in_Am : ∀ w ∈ u_ws R_Am T_Am 1, w ∈ mg_T := mg_inws [144] (by decide +kernel) (by decide +kernel)
set_option maxRecDepth 20000 in
theorem in_Fa : ∀ w ∈ u_ws R_Fa T_Fa 5, w ∈ mg_T := mg_inws [69, 71, 73, 75, 77] (by decide +kernel) (by decide +kernel)
set_option maxRecDepth 20000 in
theorem in_Ma : ∀ w ∈ u_ws R_Ma T_Ma 6, w ∈ mg_T := mg_inws [99, 101, 103, 105, 107, 109] (by decide +kernel) (by decide +kernel)
set_option maxRecDepth 20000 in
theorem in_Fi : ∀ w ∈ u_ws R_Fi T_Fi 4, w ∈ mg_T := mg_inws [122, 124, 126, 128] (by decide +kernel) (by decide +kernel)
set_option maxRecDepth 20000 in
theorem in_Su : ∀ w ∈ u_ws R_Su T_Su 8, w ∈ mg_T := mg_inws [157, 159, 161, 163, 165, 167, 169, 171] (by decide +kernel) (by decide +kernel)
set_option maxRecDepth 20000 in
theorem in_LM : ∀ w ∈ u_ws R_LM T_LM 6, w ∈ mg_T := mg_inws [180, 182, 184, 186, 188, 190] (by decide +kernel) (by decide +kernel)
set_option maxRecDepth 20000 in
theorem in_Mo : ∀ w ∈ u_ws R_Mo T_Mo 26, w ∈ mg_T := mg_inws [681, 683, 685, 687, 689, 691, 693, 695, 697, 699, 701, 703, 705, 707, 709, 711, 713, 715, 717, 719, 721, 723, 725, 727, 729, 731] (by decide +kernel) (by decide +kernel)
