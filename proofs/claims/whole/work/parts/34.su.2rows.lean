set_option maxRecDepth 100000 in
set_option maxHeartbeats 4000000 in
theorem k_Su_fill (l : Launch) (D : va_G) (K : Nat → ClassId) (aS : Nat) (h : Nat) (hM : Nat) (hF : Nat) (qsr : Nat) (aB : Nat) (aE : Nat) (aQ : Nat) (aT : Nat) (qf : Nat) (qm : Nat) (qr : Nat) (nf : Nat) (nc : Nat) (aX : Nat) (qX : Nat) (dX : Nat → Nat) (VX : Nat → Nat) (hnc : nc ≤ 3) (hRX : am_R 64 dX VX) : mg_Mv l D K y_Su_fillWithOnes b_Su_fillWithOnes 3 ({ frames := 3, cells := 0, slots := 0, locals := 60 }) [.ref (aS), .ref (aX)] [mg_ob aS 4 [.ref (h), .ref (hM), .ref (hF), .ref (qsr), .ref (aB), .ref (aE), .ref (aQ), .ref (aT)], mg_ob h 1 [.ref (qf), .ref (qm), .ref (qr), .int (nI (nf)), .int (nI (nc))], mg_ob aX 0 [.ref (qX)], mg_al K qX (64 * 6) dX] (fun (u : (Nat → Nat)) => am_R 64 u (su_pt (fun _ => 1) VX (2 ^ (2 * nc)))) (fun (u : (Nat → Nat)) => [mg_ob aS 4 [.ref (h), .ref (hM), .ref (hF), .ref (qsr), .ref (aB), .ref (aE), .ref (aQ), .ref (aT)], mg_ob h 1 [.ref (qf), .ref (qm), .ref (qr), .int (nI (nf)), .int (nI (nc))], mg_ob aX 0 [.ref (qX)], mg_al K qX (64 * 6) u]) := by
  intro sz
  refine mg_entry (Qc := fun A => va_Qv (fun (u : (Nat → Nat)) => am_R 64 u (su_pt (fun _ => 1) VX (2 ^ (2 * nc)))) (mg_B D A (fun (u : (Nat → Nat)) => [mg_ob aS 4 [.ref (h), .ref (hM), .ref (hF), .ref (qsr), .ref (aB), .ref (aE), .ref (aQ), .ref (aT)], mg_ob h 1 [.ref (qf), .ref (qm), .ref (qr), .int (nI (nf)), .int (nI (nc))], mg_ob aX 0 [.ref (qX)], mg_al K qX (64 * 6) u])) A) (by decide) (Nat.le_of_ble_eq_true rfl) ?_
  intro p e s m args below meth c A ls X hr hlk hnm hA hK hw hl
  have hl : lv_has ls 3 [(0, .ref (aS)), (1, .ref (aX))] := hl
  have hw6 := mg_ways hnc
  rw [← su_pt0 (fun _ => 1) VX] at hRX
  refine mg_iconst X 1 0 d_Su_fillWithOnes_0 mg_ci_0 rfl ?_
  refine mg_istore_n X 2 [(2, .int (nI (0))), (0, .ref (aS)), (1, .ref (aX))] d_Su_fillWithOnes_1 hl (by decide) rfl rfl (fun ls hl => ?_)
  have L2 : ∀ (n0 : Nat) (k : Nat) (u : Nat → Nat), n0 = 2 ^ (2 * nc) - k → (am_R 64 u (su_pt (fun _ => 1) VX k)) → (k ≤ 2 ^ (2 * nc)) → ∀ (ls : Array Slot) (H : Heap) (locs : List Loc), lv_has ls 3 [(0, .ref (aS)), (1, .ref (aX)), (2, .int (nI (k)))] → mg_H D A s.heap H locs [mg_ob aS 4 [.ref (h), .ref (hM), .ref (hF), .ref (qsr), .ref (aB), .ref (aE), .ref (aQ), .ref (aT)], mg_ob h 1 [.ref (qf), .ref (qm), .ref (qr), .int (nI (nf)), .int (nI (nc))], mg_ob aX 0 [.ref (qX)], mg_al K qX (64 * 6) u] → W p l e ({ frames := 3, cells := 0, slots := 0, locals := 60 }) s m args below meth c H locs 0 0 (MQ below (va_Qv (fun (u : (Nat → Nat)) => am_R 64 u (su_pt (fun _ => 1) VX (2 ^ (2 * nc)))) (mg_B D A (fun (u : (Nat → Nat)) => [mg_ob aS 4 [.ref (h), .ref (hM), .ref (hF), .ref (qsr), .ref (aB), .ref (aE), .ref (aQ), .ref (aT)], mg_ob h 1 [.ref (qf), .ref (qm), .ref (qr), .int (nI (nf)), .int (nI (nc))], mg_ob aX 0 [.ref (qX)], mg_al K qX (64 * 6) u])) A) args s (0) (0) A) (F0 m 2 ls []) := by
    intro n0
    induction n0 using Nat.strongRecOn with
    | ind n0 ih2 =>
    intro k u hm2 hI hk ls H locs hl hw
    refine mg_iload_n X 3 d_Su_fillWithOnes_2 (lv_at hl 2 rfl) rfl ?_
    refine mg_aload_n X 4 d_Su_fillWithOnes_3 (lv_at hl 0 rfl) rfl ?_
    refine mg_get X hK hw 7 0 0 f_Su_9 rfl rfl d_Su_fillWithOnes_4 rfl ?_
    refine mg_callVi X hK hw hA 10 [1] 1 (fun _ => [mg_ob aS 4 [.ref (h), .ref (hM), .ref (hF), .ref (qsr), .ref (aB), .ref (aE), .ref (aQ), .ref (aT)], mg_ob h 1 [.ref (qf), .ref (qm), .ref (qr), .int (nI (nf)), .int (nI (nc))], mg_ob aX 0 [.ref (qX)], mg_al K qX (64 * 6) u]) rfl rfl (k_Fa_ways l D K h qf qm qr nf nc (by omega)) g_Su_70 ⟨by decide, by decide⟩ ⟨rfl, rfl⟩ rfl rfl rfl hl.1 (rest := [.int (nI (k))]) (As := []) rfl (Nat.le_of_ble_eq_true rfl) d_Su_fillWithOnes_7 ⟨Nat.zero_le _, Nat.zero_le _⟩ (fun _ => rfl) (fun _ => rfl) rfl ?_
    intro r _ H locs hp2 hw
    subst hp2
    refine mg_icmp_ge X 25 13 (by omega) (by omega) d_Su_fillWithOnes_10 (by decide) rfl (fun hb => ?_) (fun hb => ?_)
    · -- pc 10 t
      exact mg_vret X hr hlk (u) (by obtain rfl : k = 2 ^ (2 * nc) := (by omega); exact hI) hw d_Su_fillWithOnes_25
    · -- pc 10 f
      refine mg_aload_n X 14 d_Su_fillWithOnes_13 (lv_at hl 1 rfl) rfl ?_
      refine mg_iload_n X 15 d_Su_fillWithOnes_14 (lv_at hl 2 rfl) rfl ?_
      refine mg_iconst X 16 1 d_Su_fillWithOnes_15 mg_ci_1 rfl ?_
      refine mg_callVv X hK hw hA 19 [2, 3] 2 (fun u3 => [mg_ob aS 4 [.ref (h), .ref (hM), .ref (hF), .ref (qsr), .ref (aB), .ref (aE), .ref (aQ), .ref (aT)], mg_ob h 1 [.ref (qf), .ref (qm), .ref (qr), .int (nI (nf)), .int (nI (nc))], mg_ob aX 0 [.ref (qX)], mg_al K qX (64 * 6) u3]) rfl rfl (k_Am_set l D K aX qX 64 k 1 u (su_pt (fun _ => 1) VX k) (by omega) (hI) (by omega) (by omega)) g_Su_93 ⟨by decide, by decide⟩ ⟨rfl, rfl⟩ rfl rfl rfl hl.1 (rest := []) (As := [.int (nI (k)), .int (nI (1))]) rfl (Nat.le_of_ble_eq_true rfl) d_Su_fillWithOnes_16 ⟨Nat.zero_le _, Nat.zero_le _⟩ (fun _ => rfl) (fun _ => rfl) rfl ?_
      intro u3 H locs hp4 hw
      refine mg_iinc X 22 [(2, .int (nI (k + 1))), (0, .ref (aS)), (1, .ref (aX))] (k + 1) d_Su_fillWithOnes_19 hl (k := 2) rfl (mg_inc1 _) (by decide) rfl rfl (fun ls hl => ?_)
      refine mg_goto X 2 d_Su_fillWithOnes_22 (by decide) ?_
      have hl : lv_has ls 3 [(0, .ref (aS)), (1, .ref (aX)), (2, .int (nI (k + 1)))] := lv_sub hl [1, 2, 0] rfl
      exact ih2 _ (by omega) (k + 1) u3 rfl (by rw [← su_ptS]; exact hp4) (by omega) ls _ _ hl hw
  have hl : lv_has ls 3 [(0, .ref (aS)), (1, .ref (aX)), (2, .int (nI (0)))] := lv_sub hl [1, 2, 0] rfl
  exact L2 _ 0 dX rfl (hRX) (Nat.zero_le _) ls _ _ hl hw

set_option maxRecDepth 100000 in
set_option maxHeartbeats 4000000 in
theorem k_Su_multiplyByFits (l : Launch) (D : va_G) (K : Nat → ClassId) (aS : Nat) (h : Nat) (hM : Nat) (hF : Nat) (qsr : Nat) (aB : Nat) (aE : Nat) (aQ : Nat) (aT : Nat) (qf : Nat) (qm : Nat) (qr : Nat) (nf : Nat) (nc : Nat) (qtb : Nat) (ql : Nat) (aX : Nat) (qX : Nat) (mk : Nat) (dX : Nat → Nat) (VX : Nat → Nat) (tb : Nat → Nat) (hnc : nc ≤ 3) (hRX : am_R 64 dX VX) (hm : mk < 4) (hTb : ∀ j, j < 2 ^ (2 * nc) → tb (mk * 64 + j) ≤ 2 ^ 18) (hV : ∀ j, j < 2 ^ (2 * nc) → VX j * tb (mk * 64 + j) < 1000000000 ^ 6) : mg_Mv l D K y_Su_multiplyByFits b_Su_multiplyByFits 4 ({ frames := 3, cells := 0, slots := 0, locals := 60 }) [.ref (aS), .ref (aX), .int (nI (mk))] [mg_ob aS 4 [.ref (h), .ref (hM), .ref (hF), .ref (qsr), .ref (aB), .ref (aE), .ref (aQ), .ref (aT)], mg_ob h 1 [.ref (qf), .ref (qm), .ref (qr), .int (nI (nf)), .int (nI (nc))], mg_ob hF 3 [.ref (h), .ref (hM), .ref (qtb), .ref (ql)], mg_ai K qtb 256 tb, mg_ob aX 0 [.ref (qX)], mg_al K qX (64 * 6) dX] (fun (u : (Nat → Nat)) => am_R 64 u (su_pt (fun j => VX j * tb (mk * 64 + j)) VX (2 ^ (2 * nc)))) (fun (u : (Nat → Nat)) => [mg_ob aS 4 [.ref (h), .ref (hM), .ref (hF), .ref (qsr), .ref (aB), .ref (aE), .ref (aQ), .ref (aT)], mg_ob h 1 [.ref (qf), .ref (qm), .ref (qr), .int (nI (nf)), .int (nI (nc))], mg_ob hF 3 [.ref (h), .ref (hM), .ref (qtb), .ref (ql)], mg_ai K qtb 256 tb, mg_ob aX 0 [.ref (qX)], mg_al K qX (64 * 6) u]) := by
  intro sz
  refine mg_entry (Qc := fun A => va_Qv (fun (u : (Nat → Nat)) => am_R 64 u (su_pt (fun j => VX j * tb (mk * 64 + j)) VX (2 ^ (2 * nc)))) (mg_B D A (fun (u : (Nat → Nat)) => [mg_ob aS 4 [.ref (h), .ref (hM), .ref (hF), .ref (qsr), .ref (aB), .ref (aE), .ref (aQ), .ref (aT)], mg_ob h 1 [.ref (qf), .ref (qm), .ref (qr), .int (nI (nf)), .int (nI (nc))], mg_ob hF 3 [.ref (h), .ref (hM), .ref (qtb), .ref (ql)], mg_ai K qtb 256 tb, mg_ob aX 0 [.ref (qX)], mg_al K qX (64 * 6) u])) A) (by decide) (Nat.le_of_ble_eq_true rfl) ?_
  intro p e s m args below meth c A ls X hr hlk hnm hA hK hw hl
  have hl : lv_has ls 4 [(0, .ref (aS)), (1, .ref (aX)), (2, .int (nI (mk)))] := hl
  have hw6 := mg_ways hnc
  rw [← su_pt0 (fun j => VX j * tb (mk * 64 + j)) VX] at hRX
  refine mg_iconst X 1 0 d_Su_multiplyByFits_0 mg_ci_0 rfl ?_
  refine mg_istore_n X 2 [(3, .int (nI (0))), (0, .ref (aS)), (1, .ref (aX)), (2, .int (nI (mk)))] d_Su_multiplyByFits_1 hl (by decide) rfl rfl (fun ls hl => ?_)
  have L2 : ∀ (n0 : Nat) (k : Nat) (u : Nat → Nat), n0 = 2 ^ (2 * nc) - k → (am_R 64 u (su_pt (fun j => VX j * tb (mk * 64 + j)) VX k)) → (k ≤ 2 ^ (2 * nc)) → ∀ (ls : Array Slot) (H : Heap) (locs : List Loc), lv_has ls 4 [(0, .ref (aS)), (1, .ref (aX)), (2, .int (nI (mk))), (3, .int (nI (k)))] → mg_H D A s.heap H locs [mg_ob aS 4 [.ref (h), .ref (hM), .ref (hF), .ref (qsr), .ref (aB), .ref (aE), .ref (aQ), .ref (aT)], mg_ob h 1 [.ref (qf), .ref (qm), .ref (qr), .int (nI (nf)), .int (nI (nc))], mg_ob hF 3 [.ref (h), .ref (hM), .ref (qtb), .ref (ql)], mg_ai K qtb 256 tb, mg_ob aX 0 [.ref (qX)], mg_al K qX (64 * 6) u] → W p l e ({ frames := 3, cells := 0, slots := 0, locals := 60 }) s m args below meth c H locs 0 0 (MQ below (va_Qv (fun (u : (Nat → Nat)) => am_R 64 u (su_pt (fun j => VX j * tb (mk * 64 + j)) VX (2 ^ (2 * nc)))) (mg_B D A (fun (u : (Nat → Nat)) => [mg_ob aS 4 [.ref (h), .ref (hM), .ref (hF), .ref (qsr), .ref (aB), .ref (aE), .ref (aQ), .ref (aT)], mg_ob h 1 [.ref (qf), .ref (qm), .ref (qr), .int (nI (nf)), .int (nI (nc))], mg_ob hF 3 [.ref (h), .ref (hM), .ref (qtb), .ref (ql)], mg_ai K qtb 256 tb, mg_ob aX 0 [.ref (qX)], mg_al K qX (64 * 6) u])) A) args s (0) (0) A) (F0 m 2 ls []) := by
    intro n0
    induction n0 using Nat.strongRecOn with
    | ind n0 ih2 =>
    intro k u hm2 hI hk ls H locs hl hw
    refine mg_iload_n X 3 d_Su_multiplyByFits_2 (lv_at hl 3 rfl) rfl ?_
    refine mg_aload_n X 4 d_Su_multiplyByFits_3 (lv_at hl 0 rfl) rfl ?_
    refine mg_get X hK hw 7 0 0 f_Su_9 rfl rfl d_Su_multiplyByFits_4 rfl ?_
    refine mg_callVi X hK hw hA 10 [1] 1 (fun _ => [mg_ob aS 4 [.ref (h), .ref (hM), .ref (hF), .ref (qsr), .ref (aB), .ref (aE), .ref (aQ), .ref (aT)], mg_ob h 1 [.ref (qf), .ref (qm), .ref (qr), .int (nI (nf)), .int (nI (nc))], mg_ob hF 3 [.ref (h), .ref (hM), .ref (qtb), .ref (ql)], mg_ai K qtb 256 tb, mg_ob aX 0 [.ref (qX)], mg_al K qX (64 * 6) u]) rfl rfl (k_Fa_ways l D K h qf qm qr nf nc (by omega)) g_Su_70 ⟨by decide, by decide⟩ ⟨rfl, rfl⟩ rfl rfl rfl hl.1 (rest := [.int (nI (k))]) (As := []) rfl (Nat.le_of_ble_eq_true rfl) d_Su_multiplyByFits_7 ⟨Nat.zero_le _, Nat.zero_le _⟩ (fun _ => rfl) (fun _ => rfl) rfl ?_
    intro r _ H locs hp2 hw
    subst hp2
    refine mg_icmp_ge X 33 13 (by omega) (by omega) d_Su_multiplyByFits_10 (by decide) rfl (fun hb => ?_) (fun hb => ?_)
    · -- pc 10 t
      exact mg_vret X hr hlk (u) (by obtain rfl : k = 2 ^ (2 * nc) := (by omega); exact hI) hw d_Su_multiplyByFits_33
    · -- pc 10 f
      refine mg_aload_n X 14 d_Su_multiplyByFits_13 (lv_at hl 1 rfl) rfl ?_
      refine mg_iload_n X 15 d_Su_multiplyByFits_14 (lv_at hl 3 rfl) rfl ?_
      refine mg_aload_n X 16 d_Su_multiplyByFits_15 (lv_at hl 0 rfl) rfl ?_
      refine mg_get X hK hw 19 0 2 f_Su_19 rfl rfl d_Su_multiplyByFits_16 rfl ?_
      refine mg_iload_n X 20 d_Su_multiplyByFits_19 (lv_at hl 2 rfl) rfl ?_
      refine mg_iload_n X 21 d_Su_multiplyByFits_20 (lv_at hl 3 rfl) rfl ?_
      refine mg_callVi X hK hw hA 24 [2, 3] 2 (fun _ => [mg_ob aS 4 [.ref (h), .ref (hM), .ref (hF), .ref (qsr), .ref (aB), .ref (aE), .ref (aQ), .ref (aT)], mg_ob h 1 [.ref (qf), .ref (qm), .ref (qr), .int (nI (nf)), .int (nI (nc))], mg_ob hF 3 [.ref (h), .ref (hM), .ref (qtb), .ref (ql)], mg_ai K qtb 256 tb, mg_ob aX 0 [.ref (qX)], mg_al K qX (64 * 6) u]) rfl rfl (k_Fi_at l D K hF qtb ql h hM mk k tb (by omega) (by omega)) g_Su_122 ⟨by decide, by decide⟩ ⟨rfl, rfl⟩ rfl rfl rfl hl.1 (rest := [.int (nI (k)), .ref (aX)]) (As := [.int (nI (mk)), .int (nI (k))]) rfl (Nat.le_of_ble_eq_true rfl) d_Su_multiplyByFits_21 ⟨Nat.zero_le _, Nat.zero_le _⟩ (fun _ => rfl) (fun _ => rfl) rfl ?_
      intro r _ H locs hp4 hw
      subst hp4
      refine mg_callVv X hK hw hA 27 [4, 5] 4 (fun u5 => [mg_ob aS 4 [.ref (h), .ref (hM), .ref (hF), .ref (qsr), .ref (aB), .ref (aE), .ref (aQ), .ref (aT)], mg_ob h 1 [.ref (qf), .ref (qm), .ref (qr), .int (nI (nf)), .int (nI (nc))], mg_ob hF 3 [.ref (h), .ref (hM), .ref (qtb), .ref (ql)], mg_ai K qtb 256 tb, mg_ob aX 0 [.ref (qX)], mg_al K qX (64 * 6) u5]) rfl rfl (k_Am_multiply l D K aX qX 64 k (tb (mk * 64 + k)) u (su_pt (fun j => VX j * tb (mk * 64 + j)) VX k) (by omega) (hI) (by omega) (Nat.lt_of_le_of_lt (hTb k hb) (by decide)) (by rw [su_ptk]; exact hV k hb)) g_Su_112 ⟨by decide, by decide⟩ ⟨rfl, rfl⟩ rfl rfl rfl hl.1 (rest := []) (As := [.int (nI (k)), .int (nI (tb (mk * 64 + k)))]) rfl (Nat.le_of_ble_eq_true rfl) d_Su_multiplyByFits_24 ⟨Nat.zero_le _, Nat.zero_le _⟩ (fun _ => rfl) (fun _ => rfl) rfl ?_
      intro u5 H locs hp6 hw
      refine mg_iinc X 30 [(3, .int (nI (k + 1))), (0, .ref (aS)), (1, .ref (aX)), (2, .int (nI (mk)))] (k + 1) d_Su_multiplyByFits_27 hl (k := 3) rfl (mg_inc1 _) (by decide) rfl rfl (fun ls hl => ?_)
      refine mg_goto X 2 d_Su_multiplyByFits_30 (by decide) ?_
      have hl : lv_has ls 4 [(0, .ref (aS)), (1, .ref (aX)), (2, .int (nI (mk))), (3, .int (nI (k + 1)))] := lv_sub hl [1, 2, 3, 0] rfl
      exact ih2 _ (by omega) (k + 1) u5 rfl (by rw [← su_ptS]; have h9 := hp6; rw [su_ptk] at h9; exact h9) (by omega) ls _ _ hl hw
  have hl : lv_has ls 4 [(0, .ref (aS)), (1, .ref (aX)), (2, .int (nI (mk))), (3, .int (nI (0)))] := lv_sub hl [1, 2, 3, 0] rfl
  exact L2 _ 0 dX rfl (hRX) (Nat.zero_le _) ls _ _ hl hw

set_option maxRecDepth 100000 in
set_option maxHeartbeats 4000000 in
theorem k_Su_crossGap (l : Launch) (D : va_G) (K : Nat → ClassId) (aS : Nat) (h : Nat) (hM : Nat) (hF : Nat) (qsr : Nat) (aB : Nat) (aE : Nat) (aQ : Nat) (aT : Nat) (qf : Nat) (qm : Nat) (qr : Nat) (nf : Nat) (nc : Nat) (aX : Nat) (qX : Nat) (g : Nat) (Mx : Nat) (dX : Nat → Nat) (VX : Nat → Nat) (sr : Nat → Nat) (f : Nat → Nat) (hnc : nc ≤ 3) (hRX : am_R 64 dX VX) (hg : g < 3) (hsr : sr g ≤ 16) (hf : ∀ j, j < 2 ^ (2 * nc) → VX j = f j) (hMx : ∀ j, j < 2 ^ (2 * nc) → f j ≤ Mx) (hM2 : Mx * 16 ^ (2 * nc) < 1000000000 ^ 6) : mg_Mv l D K y_Su_crossGap b_Su_crossGap 6 ({ frames := 3, cells := 0, slots := 0, locals := 60 }) [.ref (aS), .ref (aX), .int (nI (g))] [mg_ob aS 4 [.ref (h), .ref (hM), .ref (hF), .ref (qsr), .ref (aB), .ref (aE), .ref (aQ), .ref (aT)], mg_ob h 1 [.ref (qf), .ref (qm), .ref (qr), .int (nI (nf)), .int (nI (nc))], mg_ai K qsr 3 sr, mg_ob aX 0 [.ref (qX)], mg_al K qX (64 * 6) dX] (fun (uu : (Nat → Nat) × (Nat → Nat)) => am_R 64 uu.1 uu.2 ∧ ∀ j, j < 2 ^ (2 * nc) → uu.2 j = jn_cr (sr g) (2 * nc) f j) (fun (uu : (Nat → Nat) × (Nat → Nat)) => [mg_ob aS 4 [.ref (h), .ref (hM), .ref (hF), .ref (qsr), .ref (aB), .ref (aE), .ref (aQ), .ref (aT)], mg_ob h 1 [.ref (qf), .ref (qm), .ref (qr), .int (nI (nf)), .int (nI (nc))], mg_ai K qsr 3 sr, mg_ob aX 0 [.ref (qX)], mg_al K qX (64 * 6) uu.1]) := by
  intro sz
  refine mg_entry (Qc := fun A => va_Qv (fun (uu : (Nat → Nat) × (Nat → Nat)) => am_R 64 uu.1 uu.2 ∧ ∀ j, j < 2 ^ (2 * nc) → uu.2 j = jn_cr (sr g) (2 * nc) f j) (mg_B D A (fun (uu : (Nat → Nat) × (Nat → Nat)) => [mg_ob aS 4 [.ref (h), .ref (hM), .ref (hF), .ref (qsr), .ref (aB), .ref (aE), .ref (aQ), .ref (aT)], mg_ob h 1 [.ref (qf), .ref (qm), .ref (qr), .int (nI (nf)), .int (nI (nc))], mg_ai K qsr 3 sr, mg_ob aX 0 [.ref (qX)], mg_al K qX (64 * 6) uu.1])) A) (by decide) (Nat.le_of_ble_eq_true rfl) ?_
  intro p e s m args below meth c A ls X hr hlk hnm hA hK hw hl
  have hl : lv_has ls 6 [(0, .ref (aS)), (1, .ref (aX)), (2, .int (nI (g)))] := hl
  have hw6 := mg_ways hnc
  refine mg_iconst X 1 0 d_Su_crossGap_0 mg_ci_0 rfl ?_
  refine mg_istore_n X 2 [(3, .int (nI (0))), (0, .ref (aS)), (1, .ref (aX)), (2, .int (nI (g)))] d_Su_crossGap_1 hl (by decide) rfl rfl (fun ls hl => ?_)
  have L2 : ∀ (n0 : Nat) (b : Nat) (u : Nat → Nat) (V : Nat → Nat), n0 = 2 * nc - b → (am_R 64 u V) → (b ≤ 2 * nc) → (∀ j, j < 2 ^ (2 * nc) → V j = jn_ps (sr g) b f j) → ∀ (ls : Array Slot) (H : Heap) (locs : List Loc), lv_has ls 6 [(0, .ref (aS)), (1, .ref (aX)), (2, .int (nI (g))), (3, .int (nI (b)))] → mg_H D A s.heap H locs [mg_ob aS 4 [.ref (h), .ref (hM), .ref (hF), .ref (qsr), .ref (aB), .ref (aE), .ref (aQ), .ref (aT)], mg_ob h 1 [.ref (qf), .ref (qm), .ref (qr), .int (nI (nf)), .int (nI (nc))], mg_ai K qsr 3 sr, mg_ob aX 0 [.ref (qX)], mg_al K qX (64 * 6) u] → W p l e ({ frames := 3, cells := 0, slots := 0, locals := 60 }) s m args below meth c H locs 0 0 (MQ below (va_Qv (fun (uu : (Nat → Nat) × (Nat → Nat)) => am_R 64 uu.1 uu.2 ∧ ∀ j, j < 2 ^ (2 * nc) → uu.2 j = jn_cr (sr g) (2 * nc) f j) (mg_B D A (fun (uu : (Nat → Nat) × (Nat → Nat)) => [mg_ob aS 4 [.ref (h), .ref (hM), .ref (hF), .ref (qsr), .ref (aB), .ref (aE), .ref (aQ), .ref (aT)], mg_ob h 1 [.ref (qf), .ref (qm), .ref (qr), .int (nI (nf)), .int (nI (nc))], mg_ai K qsr 3 sr, mg_ob aX 0 [.ref (qX)], mg_al K qX (64 * 6) uu.1])) A) args s (0) (0) A) (F0 m 2 ls []) := by
    intro n0
    induction n0 using Nat.strongRecOn with
    | ind n0 ih2 =>
    intro b u V hm2 hI hb0 hJ ls H locs hl hw
    refine mg_iload_n X 3 d_Su_crossGap_2 (lv_at hl 3 rfl) rfl ?_
    refine mg_aload_n X 4 d_Su_crossGap_3 (lv_at hl 0 rfl) rfl ?_
    refine mg_get X hK hw 7 0 0 f_Su_9 rfl rfl d_Su_crossGap_4 rfl ?_
    refine mg_callVi X hK hw hA 10 [1] 1 (fun _ => [mg_ob aS 4 [.ref (h), .ref (hM), .ref (hF), .ref (qsr), .ref (aB), .ref (aE), .ref (aQ), .ref (aT)], mg_ob h 1 [.ref (qf), .ref (qm), .ref (qr), .int (nI (nf)), .int (nI (nc))], mg_ai K qsr 3 sr, mg_ob aX 0 [.ref (qX)], mg_al K qX (64 * 6) u]) rfl rfl (k_Fa_bits l D K h qf qm qr nf nc ) g_Su_127 ⟨by decide, by decide⟩ ⟨rfl, rfl⟩ rfl rfl rfl hl.1 (rest := [.int (nI (b))]) (As := []) rfl (Nat.le_of_ble_eq_true rfl) d_Su_crossGap_7 ⟨Nat.zero_le _, Nat.zero_le _⟩ (fun _ => rfl) (fun _ => rfl) rfl ?_
    intro r _ H locs hp2 hw
    subst hp2
    refine mg_icmp_ge X 70 13 (by omega) (by omega) d_Su_crossGap_10 (by decide) rfl (fun hb => ?_) (fun hb => ?_)
    · -- pc 10 t
      exact mg_vret X hr hlk ((u, V)) (⟨hI, fun j hj => by show V j = _; rw [hJ j hj, show b = 2 * nc by omega]; exact jn_ps_eq _ _ _ _⟩) hw d_Su_crossGap_70
    · -- pc 10 f
      refine mg_iconst X 14 1 d_Su_crossGap_13 mg_ci_1 rfl ?_
      refine mg_iload_n X 15 d_Su_crossGap_14 (lv_at hl 3 rfl) rfl ?_
      refine mg_ishl X 16 ((nI (2 ^ b))) d_Su_crossGap_15 (mg_shl (by omega)) rfl ?_
      refine mg_istore X 18 [(4, .int (nI (2 ^ b))), (0, .ref (aS)), (1, .ref (aX)), (2, .int (nI (g))), (3, .int (nI (b)))] d_Su_crossGap_16 hl (by decide) rfl rfl (fun ls hl => ?_)
      refine mg_iconst X 19 0 d_Su_crossGap_18 mg_ci_0 rfl ?_
      refine mg_istore X 21 [(5, .int (nI (0))), (4, .int (nI (2 ^ b))), (0, .ref (aS)), (1, .ref (aX)), (2, .int (nI (g))), (3, .int (nI (b)))] d_Su_crossGap_19 hl (by decide) rfl rfl (fun ls hl => ?_)
      have L21 : ∀ (n0 : Nat) (w : Nat) (u2 : Nat → Nat) (V2 : Nat → Nat), n0 = 2 ^ (2 * nc) - w → (am_R 64 u2 V2) → (w ≤ 2 ^ (2 * nc)) → (cg_I (sr g) b (2 * nc) w V V2) → ∀ (ls : Array Slot) (H : Heap) (locs : List Loc), lv_has ls 6 [(0, .ref (aS)), (1, .ref (aX)), (2, .int (nI (g))), (3, .int (nI (b))), (4, .int (nI (2 ^ b))), (5, .int (nI (w)))] → mg_H D A s.heap H locs [mg_ob aS 4 [.ref (h), .ref (hM), .ref (hF), .ref (qsr), .ref (aB), .ref (aE), .ref (aQ), .ref (aT)], mg_ob h 1 [.ref (qf), .ref (qm), .ref (qr), .int (nI (nf)), .int (nI (nc))], mg_ai K qsr 3 sr, mg_ob aX 0 [.ref (qX)], mg_al K qX (64 * 6) u2] → W p l e ({ frames := 3, cells := 0, slots := 0, locals := 60 }) s m args below meth c H locs 0 0 (MQ below (va_Qv (fun (uu : (Nat → Nat) × (Nat → Nat)) => am_R 64 uu.1 uu.2 ∧ ∀ j, j < 2 ^ (2 * nc) → uu.2 j = jn_cr (sr g) (2 * nc) f j) (mg_B D A (fun (uu : (Nat → Nat) × (Nat → Nat)) => [mg_ob aS 4 [.ref (h), .ref (hM), .ref (hF), .ref (qsr), .ref (aB), .ref (aE), .ref (aQ), .ref (aT)], mg_ob h 1 [.ref (qf), .ref (qm), .ref (qr), .int (nI (nf)), .int (nI (nc))], mg_ai K qsr 3 sr, mg_ob aX 0 [.ref (qX)], mg_al K qX (64 * 6) uu.1])) A) args s (0) (0) A) (F0 m 21 ls []) := by
        intro n0
        induction n0 using Nat.strongRecOn with
        | ind n0 ih21 =>
        intro w u2 V2 hm21 hI2 hw0 hG ls H locs hl hw
        refine mg_iload X 23 d_Su_crossGap_21 (lv_at hl 5 rfl) rfl ?_
        refine mg_aload_n X 24 d_Su_crossGap_23 (lv_at hl 0 rfl) rfl ?_
        refine mg_get X hK hw 27 0 0 f_Su_9 rfl rfl d_Su_crossGap_24 rfl ?_
        refine mg_callVi X hK hw hA 30 [1] 1 (fun _ => [mg_ob aS 4 [.ref (h), .ref (hM), .ref (hF), .ref (qsr), .ref (aB), .ref (aE), .ref (aQ), .ref (aT)], mg_ob h 1 [.ref (qf), .ref (qm), .ref (qr), .int (nI (nf)), .int (nI (nc))], mg_ai K qsr 3 sr, mg_ob aX 0 [.ref (qX)], mg_al K qX (64 * 6) u2]) rfl rfl (k_Fa_ways l D K h qf qm qr nf nc (by omega)) g_Su_70 ⟨by decide, by decide⟩ ⟨rfl, rfl⟩ rfl rfl rfl hl.1 (rest := [.int (nI (w))]) (As := []) rfl (Nat.le_of_ble_eq_true rfl) d_Su_crossGap_27 ⟨Nat.zero_le _, Nat.zero_le _⟩ (fun _ => rfl) (fun _ => rfl) rfl ?_
        intro r _ H locs hp4 hw
        subst hp4
        refine mg_icmp_ge X 64 33 (by omega) (by omega) d_Su_crossGap_30 (by decide) rfl (fun hc => ?_) (fun hc => ?_)
        · -- pc 30 t
          refine mg_iinc X 67 [(3, .int (nI (b + 1))), (0, .ref (aS)), (1, .ref (aX)), (2, .int (nI (g))), (4, .int (nI (2 ^ b))), (5, .int (nI (w)))] (b + 1) d_Su_crossGap_64 hl (k := 3) rfl (mg_inc1 _) (by decide) rfl rfl (fun ls hl => ?_)
          refine mg_goto X 2 d_Su_crossGap_67 (by decide) ?_
          have hl : lv_has ls 6 [(0, .ref (aS)), (1, .ref (aX)), (2, .int (nI (g))), (3, .int (nI (b + 1)))] := lv_sub hl [1, 2, 3, 0] rfl
          exact ih2 _ (by omega) (b + 1) u2 V2 rfl (hI2) (by omega) (cg_bits hb hJ (cg_end (by rw [← show w = 2 ^ (2 * nc) by omega]; exact hG) hb)) ls _ _ hl hw
        · -- pc 30 f
          refine mg_iload X 35 d_Su_crossGap_33 (lv_at hl 5 rfl) rfl ?_
          refine mg_iload X 37 d_Su_crossGap_35 (lv_at hl 4 rfl) rfl ?_
          refine mg_iand X 38 ((nI (w &&& (2 ^ b)))) d_Su_crossGap_37 (mg_and _ _) rfl ?_
          refine mg_if_ne X 58 41 (Nat.lt_of_le_of_lt Nat.and_le_left (by omega)) d_Su_crossGap_38 (by decide) rfl (fun ha => ?_) (fun ha => ?_)
          · -- pc 38 t
            have hbit : w.testBit b = true := by cases hx9 : w.testBit b with | true => rfl | false => exact absurd (mg_andp.mpr hx9) ha
            refine mg_iinc X 61 [(5, .int (nI (w + 1))), (0, .ref (aS)), (1, .ref (aX)), (2, .int (nI (g))), (3, .int (nI (b))), (4, .int (nI (2 ^ b)))] (w + 1) d_Su_crossGap_58 hl (k := 5) rfl (mg_inc1 _) (by decide) rfl rfl (fun ls hl => ?_)
            refine mg_goto X 21 d_Su_crossGap_61 (by decide) ?_
            have hl : lv_has ls 6 [(0, .ref (aS)), (1, .ref (aX)), (2, .int (nI (g))), (3, .int (nI (b))), (4, .int (nI (2 ^ b))), (5, .int (nI (w + 1)))] := lv_sub hl [1, 2, 3, 4, 5, 0] rfl
            exact ih21 _ (by omega) (w + 1) u2 V2 rfl (hI2) (by omega) (cg_skip hG hbit) ls _ _ hl hw
          · -- pc 38 f
            have hbit : w.testBit b = false := mg_andp.mp ha
            have hup : w ^^^ 2 ^ b < 2 ^ (2 * nc) := Nat.xor_lt_two_pow hc (Nat.pow_lt_pow_right (by decide) hb)
            have hx1 : V2 w ≤ Mx * 16 ^ b := by rw [hG w hc, if_neg (by rw [cg_lo_self hbit]; omega), hJ w hc]; exact cg_ps_le hsr hMx b (by omega) w hc
            have hx2 : V2 (w ^^^ 2 ^ b) ≤ Mx * 16 ^ b := by rw [hG _ hup, if_neg (by rw [cg_lo_up hbit]; omega), hJ _ hup]; exact cg_ps_le hsr hMx b (by omega) _ hup
            have hx3 := su_bl hsr hb hx1 hx2 hM2
            rw [← mg_orx hbit] at hup hx3
            refine mg_aload_n X 42 d_Su_crossGap_41 (lv_at hl 1 rfl) rfl ?_
            refine mg_iload X 44 d_Su_crossGap_42 (lv_at hl 5 rfl) rfl ?_
            refine mg_iload X 46 d_Su_crossGap_44 (lv_at hl 5 rfl) rfl ?_
            refine mg_iload X 48 d_Su_crossGap_46 (lv_at hl 4 rfl) rfl ?_
            refine mg_ior X 49 ((nI (w ||| (2 ^ b)))) d_Su_crossGap_48 (mg_or _ _) rfl ?_
            refine mg_aload_n X 50 d_Su_crossGap_49 (lv_at hl 0 rfl) rfl ?_
            refine mg_get X hK hw 53 0 3 f_Su_23 rfl rfl d_Su_crossGap_50 rfl ?_
            refine mg_iload_n X 54 d_Su_crossGap_53 (lv_at hl 2 rfl) rfl ?_
            refine mg_iald X hK hw 55 2 rfl (by omega) (by omega) d_Su_crossGap_54 rfl ?_
            refine mg_callVv X hK hw hA 58 [3, 4] 3 (fun u5 => [mg_ob aS 4 [.ref (h), .ref (hM), .ref (hF), .ref (qsr), .ref (aB), .ref (aE), .ref (aQ), .ref (aT)], mg_ob h 1 [.ref (qf), .ref (qm), .ref (qr), .int (nI (nf)), .int (nI (nc))], mg_ai K qsr 3 sr, mg_ob aX 0 [.ref (qX)], mg_al K qX (64 * 6) u5]) rfl rfl (k_Am_blend l D K aX qX 64 w (w ||| (2 ^ b)) (sr g) u2 V2 (by omega) (hI2) (by omega) (by omega) (by rw [mg_orx hbit]; exact cg_up_ne) (hsr) (hx3.1) (hx3.2)) g_Su_130 ⟨by decide, by decide⟩ ⟨rfl, rfl⟩ rfl rfl rfl hl.1 (rest := []) (As := [.int (nI (w)), .int (nI (w ||| (2 ^ b))), .int (nI (sr g))]) rfl (Nat.le_of_ble_eq_true rfl) d_Su_crossGap_55 ⟨Nat.zero_le _, Nat.zero_le _⟩ (fun _ => rfl) (fun _ => rfl) rfl ?_
            intro u5 H locs hp6 hw
            refine mg_iinc X 61 [(5, .int (nI (w + 1))), (0, .ref (aS)), (1, .ref (aX)), (2, .int (nI (g))), (3, .int (nI (b))), (4, .int (nI (2 ^ b)))] (w + 1) d_Su_crossGap_58 hl (k := 5) rfl (mg_inc1 _) (by decide) rfl rfl (fun ls hl => ?_)
            refine mg_goto X 21 d_Su_crossGap_61 (by decide) ?_
            have hl : lv_has ls 6 [(0, .ref (aS)), (1, .ref (aX)), (2, .int (nI (g))), (3, .int (nI (b))), (4, .int (nI (2 ^ b))), (5, .int (nI (w + 1)))] := lv_sub hl [1, 2, 3, 4, 5, 0] rfl
            exact ih21 _ (by omega) (w + 1) u5 (va_up (va_up V2 w ((16 - sr g) * V2 w + sr g * V2 (w ^^^ 2 ^ b))) (w ^^^ 2 ^ b) (sr g * V2 w + (16 - sr g) * V2 (w ^^^ 2 ^ b))) rfl (by rw [← mg_orx hbit]; exact hp6) (by omega) (cg_step hG hb hc hbit) ls _ _ hl hw
      have hl : lv_has ls 6 [(0, .ref (aS)), (1, .ref (aX)), (2, .int (nI (g))), (3, .int (nI (b))), (4, .int (nI (2 ^ b))), (5, .int (nI (0)))] := lv_sub hl [2, 3, 4, 5, 1, 0] rfl
      exact L21 _ 0 u V rfl (hI) (Nat.zero_le _) (cg_0 _ _ _ _) ls _ _ hl hw
  have hl : lv_has ls 6 [(0, .ref (aS)), (1, .ref (aX)), (2, .int (nI (g))), (3, .int (nI (0)))] := lv_sub hl [1, 2, 3, 0] rfl
  exact L2 _ 0 dX VX rfl (hRX) (Nat.zero_le _) (hf) ls _ _ hl hw

set_option maxRecDepth 100000 in
set_option maxHeartbeats 4000000 in
theorem k_Su_addUp (l : Launch) (D : va_G) (K : Nat → ClassId) (aS : Nat) (h : Nat) (hM : Nat) (hF : Nat) (qsr : Nat) (aB : Nat) (aE : Nat) (aQ : Nat) (aT : Nat) (qf : Nat) (qm : Nat) (qr : Nat) (nf : Nat) (nc : Nat) (qT : Nat) (aX : Nat) (qX : Nat) (t : Nat) (dT : Nat → Nat) (VT : Nat → Nat) (dX : Nat → Nat) (VX : Nat → Nat) (hnc : nc ≤ 3) (hRT : am_R 4 dT VT) (hRX : am_R 64 dX VX) (ht : t < 4) (hl0 : zs_sum (2 ^ (2 * nc)) VX < 1000000000 ^ 6) : mg_Mv l D K y_Su_addUp b_Su_addUp 4 ({ frames := 3, cells := 0, slots := 0, locals := 60 }) [.ref (aS), .int (nI (t)), .ref (aX)] [mg_ob aS 4 [.ref (h), .ref (hM), .ref (hF), .ref (qsr), .ref (aB), .ref (aE), .ref (aQ), .ref (aT)], mg_ob h 1 [.ref (qf), .ref (qm), .ref (qr), .int (nI (nf)), .int (nI (nc))], mg_ob aT 0 [.ref (qT)], mg_al K qT (4 * 6) dT, mg_ob aX 0 [.ref (qX)], mg_al K qX (64 * 6) dX] (fun (u : (Nat → Nat)) => am_R 4 u (va_up VT t (zs_sum (2 ^ (2 * nc)) VX))) (fun (u : (Nat → Nat)) => [mg_ob aS 4 [.ref (h), .ref (hM), .ref (hF), .ref (qsr), .ref (aB), .ref (aE), .ref (aQ), .ref (aT)], mg_ob h 1 [.ref (qf), .ref (qm), .ref (qr), .int (nI (nf)), .int (nI (nc))], mg_ob aT 0 [.ref (qT)], mg_al K qT (4 * 6) u, mg_ob aX 0 [.ref (qX)], mg_al K qX (64 * 6) dX]) := by
  intro sz
  refine mg_entry (Qc := fun A => va_Qv (fun (u : (Nat → Nat)) => am_R 4 u (va_up VT t (zs_sum (2 ^ (2 * nc)) VX))) (mg_B D A (fun (u : (Nat → Nat)) => [mg_ob aS 4 [.ref (h), .ref (hM), .ref (hF), .ref (qsr), .ref (aB), .ref (aE), .ref (aQ), .ref (aT)], mg_ob h 1 [.ref (qf), .ref (qm), .ref (qr), .int (nI (nf)), .int (nI (nc))], mg_ob aT 0 [.ref (qT)], mg_al K qT (4 * 6) u, mg_ob aX 0 [.ref (qX)], mg_al K qX (64 * 6) dX])) A) (by decide) (Nat.le_of_ble_eq_true rfl) ?_
  intro p e s m args below meth c A ls X hr hlk hnm hA hK hw hl
  have hl : lv_has ls 4 [(0, .ref (aS)), (1, .int (nI (t))), (2, .ref (aX))] := hl
  have hw6 := mg_ways hnc
  refine mg_aload_n X 1 d_Su_addUp_0 (lv_at hl 0 rfl) rfl ?_
  refine mg_get X hK hw 4 0 7 f_Su_42 rfl rfl d_Su_addUp_1 rfl ?_
  refine mg_iload_n X 5 d_Su_addUp_4 (lv_at hl 1 rfl) rfl ?_
  refine mg_iconst X 6 0 d_Su_addUp_5 mg_ci_0 rfl ?_
  refine mg_callVv X hK hw hA 9 [2, 3] 2 (fun u1 => [mg_ob aS 4 [.ref (h), .ref (hM), .ref (hF), .ref (qsr), .ref (aB), .ref (aE), .ref (aQ), .ref (aT)], mg_ob h 1 [.ref (qf), .ref (qm), .ref (qr), .int (nI (nf)), .int (nI (nc))], mg_ob aT 0 [.ref (qT)], mg_al K qT (4 * 6) u1, mg_ob aX 0 [.ref (qX)], mg_al K qX (64 * 6) dX]) rfl rfl (k_Am_set l D K aT qT 4 t 0 dT VT (by omega) (hRT) (by omega) (by omega)) g_Su_93 ⟨by decide, by decide⟩ ⟨rfl, rfl⟩ rfl rfl rfl hl.1 (rest := []) (As := [.int (nI (t)), .int (nI (0))]) rfl (Nat.le_of_ble_eq_true rfl) d_Su_addUp_6 ⟨Nat.zero_le _, Nat.zero_le _⟩ (fun _ => rfl) (fun _ => rfl) rfl ?_
  intro u1 H locs hp2 hw
  refine mg_iconst X 10 0 d_Su_addUp_9 mg_ci_0 rfl ?_
  refine mg_istore_n X 11 [(3, .int (nI (0))), (0, .ref (aS)), (1, .int (nI (t))), (2, .ref (aX))] d_Su_addUp_10 hl (by decide) rfl rfl (fun ls hl => ?_)
  have L11 : ∀ (n0 : Nat) (k : Nat) (u : Nat → Nat), n0 = 2 ^ (2 * nc) - k → (am_R 4 u (va_up VT t (zs_sum k VX))) → (k ≤ 2 ^ (2 * nc)) → ∀ (ls : Array Slot) (H : Heap) (locs : List Loc), lv_has ls 4 [(0, .ref (aS)), (1, .int (nI (t))), (2, .ref (aX)), (3, .int (nI (k)))] → mg_H D A s.heap H locs [mg_ob aS 4 [.ref (h), .ref (hM), .ref (hF), .ref (qsr), .ref (aB), .ref (aE), .ref (aQ), .ref (aT)], mg_ob h 1 [.ref (qf), .ref (qm), .ref (qr), .int (nI (nf)), .int (nI (nc))], mg_ob aT 0 [.ref (qT)], mg_al K qT (4 * 6) u, mg_ob aX 0 [.ref (qX)], mg_al K qX (64 * 6) dX] → W p l e ({ frames := 3, cells := 0, slots := 0, locals := 60 }) s m args below meth c H locs 0 0 (MQ below (va_Qv (fun (u : (Nat → Nat)) => am_R 4 u (va_up VT t (zs_sum (2 ^ (2 * nc)) VX))) (mg_B D A (fun (u : (Nat → Nat)) => [mg_ob aS 4 [.ref (h), .ref (hM), .ref (hF), .ref (qsr), .ref (aB), .ref (aE), .ref (aQ), .ref (aT)], mg_ob h 1 [.ref (qf), .ref (qm), .ref (qr), .int (nI (nf)), .int (nI (nc))], mg_ob aT 0 [.ref (qT)], mg_al K qT (4 * 6) u, mg_ob aX 0 [.ref (qX)], mg_al K qX (64 * 6) dX])) A) args s (0) (0) A) (F0 m 11 ls []) := by
    intro n0
    induction n0 using Nat.strongRecOn with
    | ind n0 ih11 =>
    intro k u hm11 hI hk ls H locs hl hw
    refine mg_iload_n X 12 d_Su_addUp_11 (lv_at hl 3 rfl) rfl ?_
    refine mg_aload_n X 13 d_Su_addUp_12 (lv_at hl 0 rfl) rfl ?_
    refine mg_get X hK hw 16 0 0 f_Su_9 rfl rfl d_Su_addUp_13 rfl ?_
    refine mg_callVi X hK hw hA 19 [1] 1 (fun _ => [mg_ob aS 4 [.ref (h), .ref (hM), .ref (hF), .ref (qsr), .ref (aB), .ref (aE), .ref (aQ), .ref (aT)], mg_ob h 1 [.ref (qf), .ref (qm), .ref (qr), .int (nI (nf)), .int (nI (nc))], mg_ob aT 0 [.ref (qT)], mg_al K qT (4 * 6) u, mg_ob aX 0 [.ref (qX)], mg_al K qX (64 * 6) dX]) rfl rfl (k_Fa_ways l D K h qf qm qr nf nc (by omega)) g_Su_70 ⟨by decide, by decide⟩ ⟨rfl, rfl⟩ rfl rfl rfl hl.1 (rest := [.int (nI (k))]) (As := []) rfl (Nat.le_of_ble_eq_true rfl) d_Su_addUp_16 ⟨Nat.zero_le _, Nat.zero_le _⟩ (fun _ => rfl) (fun _ => rfl) rfl ?_
    intro r _ H locs hp4 hw
    subst hp4
    refine mg_icmp_ge X 38 22 (by omega) (by omega) d_Su_addUp_19 (by decide) rfl (fun hb => ?_) (fun hb => ?_)
    · -- pc 19 t
      exact mg_vret X hr hlk (u) (by obtain rfl : k = 2 ^ (2 * nc) := (by omega); exact hI) hw d_Su_addUp_38
    · -- pc 19 f
      refine mg_aload_n X 23 d_Su_addUp_22 (lv_at hl 0 rfl) rfl ?_
      refine mg_get X hK hw 26 0 7 f_Su_42 rfl rfl d_Su_addUp_23 rfl ?_
      refine mg_iload_n X 27 d_Su_addUp_26 (lv_at hl 1 rfl) rfl ?_
      refine mg_aload_n X 28 d_Su_addUp_27 (lv_at hl 2 rfl) rfl ?_
      refine mg_iload_n X 29 d_Su_addUp_28 (lv_at hl 3 rfl) rfl ?_
      refine mg_callVv X hK hw hA 32 [2, 3, 4, 5] 2 (fun u5 => [mg_ob aS 4 [.ref (h), .ref (hM), .ref (hF), .ref (qsr), .ref (aB), .ref (aE), .ref (aQ), .ref (aT)], mg_ob h 1 [.ref (qf), .ref (qm), .ref (qr), .int (nI (nf)), .int (nI (nc))], mg_ob aT 0 [.ref (qT)], mg_al K qT (4 * 6) u5, mg_ob aX 0 [.ref (qX)], mg_al K qX (64 * 6) dX]) rfl rfl (k_Am_add l D K aT qT 4 aX qX 64 t k u (va_up VT t (zs_sum k VX)) dX VX (by omega) (hI) (by omega) (hRX) (by omega) (by omega) (by rw [va_up_self]; exact Nat.lt_of_le_of_lt (zs_mono (n := k + 1) (f := VX) (show k + 1 ≤ 2 ^ (2 * nc) by omega)) hl0)) g_Su_96 ⟨by decide, by decide⟩ ⟨rfl, rfl⟩ rfl rfl rfl hl.1 (rest := []) (As := [.int (nI (t)), .ref (aX), .int (nI (k))]) rfl (Nat.le_of_ble_eq_true rfl) d_Su_addUp_29 ⟨Nat.zero_le _, Nat.zero_le _⟩ (fun _ => rfl) (fun _ => rfl) rfl ?_
      intro u5 H locs hp6 hw
      refine mg_iinc X 35 [(3, .int (nI (k + 1))), (0, .ref (aS)), (1, .int (nI (t))), (2, .ref (aX))] (k + 1) d_Su_addUp_32 hl (k := 3) rfl (mg_inc1 _) (by decide) rfl rfl (fun ls hl => ?_)
      refine mg_goto X 11 d_Su_addUp_35 (by decide) ?_
      have hl : lv_has ls 4 [(0, .ref (aS)), (1, .int (nI (t))), (2, .ref (aX)), (3, .int (nI (k + 1)))] := lv_sub hl [1, 2, 3, 0] rfl
      exact ih11 _ (by omega) (k + 1) u5 rfl (by have h9 := hp6; rw [va_up_self, bx_uu] at h9; exact h9) (by omega) ls _ _ hl hw
  have hl : lv_has ls 4 [(0, .ref (aS)), (1, .int (nI (t))), (2, .ref (aX)), (3, .int (nI (0)))] := lv_sub hl [1, 2, 3, 0] rfl
  exact L11 _ 0 u1 rfl (hp2) (Nat.zero_le _) ls _ _ hl hw
