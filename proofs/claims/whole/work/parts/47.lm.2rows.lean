set_option maxRecDepth 100000 in
set_option maxHeartbeats 4000000 in
theorem k_LM_isWeight (l : Launch) (D : va_G) (K : Nat → ClassId) (x : Int32)  : mg_Mi l D K y_LM_isWeight b_LM_isWeight 1 (.boolean) ({ frames := 0, cells := 0, slots := 0, locals := 0 }) [.int (x)] [] (fun (r : Int32) (_ : Unit) => r = nI (ft_c (mg_lt x 9))) (fun (_ : Unit) => []) := by
  intro sz
  refine mg_entry (Qc := fun A => va_Qi (fun (r : Int32) (_ : Unit) => r = nI (ft_c (mg_lt x 9))) (mg_B D A (fun (_ : Unit) => [])) A) (by decide) (Nat.le_of_ble_eq_true rfl) ?_
  intro p e s m args below meth c A ls X hr hlk hnm hA hK hw hl
  have hl : lv_has ls 1 [(0, .int (x))] := hl
  refine mg_iload_n X 1 d_LM_isWeight_0 (lv_at hl 0 rfl) rfl ?_
  refine mg_iflt_r X 14 4 d_LM_isWeight_1 (by decide) rfl (fun hneg => ?_) (fun j hj ej => ?_)
  · -- pc 1 t
    refine mg_iconst X 15 0 d_LM_isWeight_14 mg_ci_0 rfl ?_
    exact mg_iret X hr hlk (mg_nz (by omega)) (()) (by rw [ft_c0 (mg_lt_neg hneg (by omega))]) hw d_LM_isWeight_15
  · -- pc 1 f
    subst ej
    refine mg_iload_n X 5 d_LM_isWeight_4 (lv_at hl 0 rfl) rfl ?_
    refine mg_bipush X 7 8 d_LM_isWeight_5 mg_cb_8 rfl ?_
    refine mg_icmp_gt X 14 10 (by omega) (by omega) d_LM_isWeight_7 (by decide) rfl (fun hc => ?_) (fun hc => ?_)
    · -- pc 7 t
      refine mg_iconst X 15 0 d_LM_isWeight_14 mg_ci_0 rfl ?_
      exact mg_iret X hr hlk (mg_nz (by omega)) (()) (by rw [ft_c0 (mg_lt_ge hj (by omega))]) hw d_LM_isWeight_15
    · -- pc 7 f
      refine mg_iconst X 11 1 d_LM_isWeight_10 mg_ci_1 rfl ?_
      refine mg_goto X 15 d_LM_isWeight_11 (by decide) ?_
      exact mg_iret X hr hlk (mg_nz (by omega)) (()) (by rw [ft_c1 (mg_lt_in (by omega))]) hw d_LM_isWeight_15

set_option maxRecDepth 100000 in
set_option maxHeartbeats 4000000 in
theorem k_LM_isRate (l : Launch) (D : va_G) (K : Nat → ClassId) (x : Int32)  : mg_Mi l D K y_LM_isRate b_LM_isRate 1 (.boolean) ({ frames := 0, cells := 0, slots := 0, locals := 0 }) [.int (x)] [] (fun (r : Int32) (_ : Unit) => r = nI (ft_c (mg_lt x 9))) (fun (_ : Unit) => []) := by
  intro sz
  refine mg_entry (Qc := fun A => va_Qi (fun (r : Int32) (_ : Unit) => r = nI (ft_c (mg_lt x 9))) (mg_B D A (fun (_ : Unit) => [])) A) (by decide) (Nat.le_of_ble_eq_true rfl) ?_
  intro p e s m args below meth c A ls X hr hlk hnm hA hK hw hl
  have hl : lv_has ls 1 [(0, .int (x))] := hl
  refine mg_iload_n X 1 d_LM_isRate_0 (lv_at hl 0 rfl) rfl ?_
  refine mg_iflt_r X 14 4 d_LM_isRate_1 (by decide) rfl (fun hneg => ?_) (fun j hj ej => ?_)
  · -- pc 1 t
    refine mg_iconst X 15 0 d_LM_isRate_14 mg_ci_0 rfl ?_
    exact mg_iret X hr hlk (mg_nz (by omega)) (()) (by rw [ft_c0 (mg_lt_neg hneg (by omega))]) hw d_LM_isRate_15
  · -- pc 1 f
    subst ej
    refine mg_iload_n X 5 d_LM_isRate_4 (lv_at hl 0 rfl) rfl ?_
    refine mg_bipush X 7 8 d_LM_isRate_5 mg_cb_8 rfl ?_
    refine mg_icmp_gt X 14 10 (by omega) (by omega) d_LM_isRate_7 (by decide) rfl (fun hc => ?_) (fun hc => ?_)
    · -- pc 7 t
      refine mg_iconst X 15 0 d_LM_isRate_14 mg_ci_0 rfl ?_
      exact mg_iret X hr hlk (mg_nz (by omega)) (()) (by rw [ft_c0 (mg_lt_ge hj (by omega))]) hw d_LM_isRate_15
    · -- pc 7 f
      refine mg_iconst X 11 1 d_LM_isRate_10 mg_ci_1 rfl ?_
      refine mg_goto X 15 d_LM_isRate_11 (by decide) ?_
      exact mg_iret X hr hlk (mg_nz (by omega)) (()) (by rw [ft_c1 (mg_lt_in (by omega))]) hw d_LM_isRate_15

set_option maxRecDepth 100000 in
set_option maxHeartbeats 4000000 in
theorem k_LM_isLetter (l : Launch) (D : va_G) (K : Nat → ClassId) (x : Int32)  : mg_Mi l D K y_LM_isLetter b_LM_isLetter 1 (.boolean) ({ frames := 0, cells := 0, slots := 0, locals := 0 }) [.int (x)] [] (fun (r : Int32) (_ : Unit) => r = nI (ft_c (mg_bt x 1 3))) (fun (_ : Unit) => []) := by
  intro sz
  refine mg_entry (Qc := fun A => va_Qi (fun (r : Int32) (_ : Unit) => r = nI (ft_c (mg_bt x 1 3))) (mg_B D A (fun (_ : Unit) => [])) A) (by decide) (Nat.le_of_ble_eq_true rfl) ?_
  intro p e s m args below meth c A ls X hr hlk hnm hA hK hw hl
  have hl : lv_has ls 1 [(0, .int (x))] := hl
  refine mg_iload_n X 1 d_LM_isLetter_0 (lv_at hl 0 rfl) rfl ?_
  refine mg_iconst X 2 1 d_LM_isLetter_1 mg_ci_1 rfl ?_
  refine mg_icl_r X 14 5 (by decide) d_LM_isLetter_2 (by decide) rfl (fun hlo => ?_) (fun j lj hj ej => ?_)
  · -- pc 2 t
    refine mg_iconst X 15 0 d_LM_isLetter_14 mg_ci_0 rfl ?_
    exact mg_iret X hr hlk (mg_nz (by omega)) (()) (by rw [ft_c0 (mg_bt_no (by decide) hlo)]) hw d_LM_isLetter_15
  · -- pc 2 f
    subst ej
    refine mg_iload_n X 6 d_LM_isLetter_5 (lv_at hl 0 rfl) rfl ?_
    refine mg_iconst X 7 3 d_LM_isLetter_6 mg_ci_3 rfl ?_
    refine mg_icmp_gt X 14 10 (by omega) (by omega) d_LM_isLetter_7 (by decide) rfl (fun hhi => ?_) (fun hhi => ?_)
    · -- pc 7 t
      refine mg_iconst X 15 0 d_LM_isLetter_14 mg_ci_0 rfl ?_
      exact mg_iret X hr hlk (mg_nz (by omega)) (()) (by rw [ft_c0 (mg_bt_gt hj (by decide) hhi)]) hw d_LM_isLetter_15
    · -- pc 7 f
      refine mg_iconst X 11 1 d_LM_isLetter_10 mg_ci_1 rfl ?_
      refine mg_goto X 15 d_LM_isLetter_11 (by decide) ?_
      exact mg_iret X hr hlk (mg_nz (by omega)) (()) (by rw [ft_c1 (mg_bt_in lj hhi)]) hw d_LM_isLetter_15

set_option maxRecDepth 100000 in
set_option maxHeartbeats 4000000 in
theorem k_LM_areWeights (l : Launch) (D : va_G) (K : Nat → ClassId) (a1 : Int32) (a2 : Int32) (a3 : Int32)  : mg_Mi l D K y_LM_areWeights b_LM_areWeights 3 (.boolean) ({ frames := 1, cells := 0, slots := 0, locals := 20 }) [.int (a1), .int (a2), .int (a3)] [] (fun (r : Int32) (_ : Unit) => r = nI (ft_c (mg_w3 a1 a2 a3))) (fun (_ : Unit) => []) := by
  intro sz
  refine mg_entry (Qc := fun A => va_Qi (fun (r : Int32) (_ : Unit) => r = nI (ft_c (mg_w3 a1 a2 a3))) (mg_B D A (fun (_ : Unit) => [])) A) (by decide) (Nat.le_of_ble_eq_true rfl) ?_
  intro p e s m args below meth c A ls X hr hlk hnm hA hK hw hl
  have hl : lv_has ls 3 [(0, .int (a1)), (1, .int (a2)), (2, .int (a3))] := hl
  refine mg_iload_n X 1 d_LM_areWeights_0 (lv_at hl 0 rfl) rfl ?_
  refine mg_callSi X hK hw hA 4 [] (fun _ => []) (k_LM_isWeight l D K a1 ) g_LM_193 ⟨by decide, by decide⟩ ⟨rfl, rfl⟩ rfl rfl rfl hl.1 (rest := []) (As := [.int (a1)]) rfl (Nat.le_of_ble_eq_true rfl) d_LM_areWeights_1 ⟨Nat.zero_le _, Nat.zero_le _⟩ (fun _ => rfl) (fun _ => rfl) rfl ?_
  intro r _ H locs hp2 hw
  subst hp2
  refine mg_bif_eq X 35 7 d_LM_areWeights_4 (by decide) rfl (fun h1 => ?_) (fun h1 => ?_)
  · -- pc 4 t
    refine mg_iconst X 36 0 d_LM_areWeights_35 mg_ci_0 rfl ?_
    exact mg_iret X hr hlk (mg_nz (by omega)) (()) (by rw [ft_c0 (fun ⟨i, j, k, e1, e2, e3, e⟩ => by first | exact absurd ⟨i, by omega, e1⟩ h1 | exact absurd ⟨j, by omega, e2⟩ h2 | exact absurd ⟨k, by omega, e3⟩ h3 | (have q1 := (nI_eq (by omega) (by omega)).mp e1; have q2 := (nI_eq (by omega) (by omega)).mp e2; have q3 := (nI_eq (by omega) (by omega)).mp e3; omega))]) hw d_LM_areWeights_36
  · -- pc 4 f
    obtain ⟨ja1, ha1, rfl⟩ := h1
    refine mg_iload_n X 8 d_LM_areWeights_7 (lv_at hl 1 rfl) rfl ?_
    refine mg_callSi X hK hw hA 11 [] (fun _ => []) (k_LM_isWeight l D K a2 ) g_LM_193 ⟨by decide, by decide⟩ ⟨rfl, rfl⟩ rfl rfl rfl hl.1 (rest := []) (As := [.int (a2)]) rfl (Nat.le_of_ble_eq_true rfl) d_LM_areWeights_8 ⟨Nat.zero_le _, Nat.zero_le _⟩ (fun _ => rfl) (fun _ => rfl) rfl ?_
    intro r _ H locs hp4 hw
    subst hp4
    refine mg_bif_eq X 35 14 d_LM_areWeights_11 (by decide) rfl (fun h2 => ?_) (fun h2 => ?_)
    · -- pc 11 t
      refine mg_iconst X 36 0 d_LM_areWeights_35 mg_ci_0 rfl ?_
      exact mg_iret X hr hlk (mg_nz (by omega)) (()) (by rw [ft_c0 (fun ⟨i, j, k, e1, e2, e3, e⟩ => by first | exact absurd ⟨i, by omega, e1⟩ h1 | exact absurd ⟨j, by omega, e2⟩ h2 | exact absurd ⟨k, by omega, e3⟩ h3 | (have q1 := (nI_eq (by omega) (by omega)).mp e1; have q2 := (nI_eq (by omega) (by omega)).mp e2; have q3 := (nI_eq (by omega) (by omega)).mp e3; omega))]) hw d_LM_areWeights_36
    · -- pc 11 f
      obtain ⟨ja2, ha2, rfl⟩ := h2
      refine mg_iload_n X 15 d_LM_areWeights_14 (lv_at hl 2 rfl) rfl ?_
      refine mg_callSi X hK hw hA 18 [] (fun _ => []) (k_LM_isWeight l D K a3 ) g_LM_193 ⟨by decide, by decide⟩ ⟨rfl, rfl⟩ rfl rfl rfl hl.1 (rest := []) (As := [.int (a3)]) rfl (Nat.le_of_ble_eq_true rfl) d_LM_areWeights_15 ⟨Nat.zero_le _, Nat.zero_le _⟩ (fun _ => rfl) (fun _ => rfl) rfl ?_
      intro r _ H locs hp6 hw
      subst hp6
      refine mg_bif_eq X 35 21 d_LM_areWeights_18 (by decide) rfl (fun h3 => ?_) (fun h3 => ?_)
      · -- pc 18 t
        refine mg_iconst X 36 0 d_LM_areWeights_35 mg_ci_0 rfl ?_
        exact mg_iret X hr hlk (mg_nz (by omega)) (()) (by rw [ft_c0 (fun ⟨i, j, k, e1, e2, e3, e⟩ => by first | exact absurd ⟨i, by omega, e1⟩ h1 | exact absurd ⟨j, by omega, e2⟩ h2 | exact absurd ⟨k, by omega, e3⟩ h3 | (have q1 := (nI_eq (by omega) (by omega)).mp e1; have q2 := (nI_eq (by omega) (by omega)).mp e2; have q3 := (nI_eq (by omega) (by omega)).mp e3; omega))]) hw d_LM_areWeights_36
      · -- pc 18 f
        obtain ⟨ja3, ha3, rfl⟩ := h3
        refine mg_iload_n X 22 d_LM_areWeights_21 (lv_at hl 0 rfl) rfl ?_
        refine mg_iload_n X 23 d_LM_areWeights_22 (lv_at hl 1 rfl) rfl ?_
        refine mg_iadd X 24 (nI (ja1 + ja2)) d_LM_areWeights_23 (nI_add _ _) rfl ?_
        refine mg_iload_n X 25 d_LM_areWeights_24 (lv_at hl 2 rfl) rfl ?_
        refine mg_iadd X 26 (nI ((ja1 + ja2) + ja3)) d_LM_areWeights_25 (nI_add _ _) rfl ?_
        refine mg_bipush X 28 8 d_LM_areWeights_26 mg_cb_8 rfl ?_
        refine mg_icmp_ne X 35 31 (by omega) (by omega) d_LM_areWeights_28 (by decide) rfl (fun h4 => ?_) (fun h4 => ?_)
        · -- pc 28 t
          refine mg_iconst X 36 0 d_LM_areWeights_35 mg_ci_0 rfl ?_
          exact mg_iret X hr hlk (mg_nz (by omega)) (()) (by rw [ft_c0 (fun ⟨i, j, k, e1, e2, e3, e⟩ => by first | exact absurd ⟨i, by omega, e1⟩ h1 | exact absurd ⟨j, by omega, e2⟩ h2 | exact absurd ⟨k, by omega, e3⟩ h3 | (have q1 := (nI_eq (by omega) (by omega)).mp e1; have q2 := (nI_eq (by omega) (by omega)).mp e2; have q3 := (nI_eq (by omega) (by omega)).mp e3; omega))]) hw d_LM_areWeights_36
        · -- pc 28 f
          refine mg_iconst X 32 1 d_LM_areWeights_31 mg_ci_1 rfl ?_
          refine mg_goto X 36 d_LM_areWeights_32 (by decide) ?_
          exact mg_iret X hr hlk (mg_nz (by omega)) (()) (by rw [ft_c1 ⟨ja1, ja2, ja3, rfl, rfl, rfl, by omega⟩]) hw d_LM_areWeights_36

set_option maxRecDepth 100000 in
set_option maxHeartbeats 4000000 in
theorem k_LM_founder (l : Launch) (D : va_G) (K : Nat → ClassId) (aL : Nat) (h : Nat) (hM : Nat) (hF : Nat) (aS : Nat) (qp : Nat) (pl : Nat) (qf : Nat) (qm : Nat) (qr : Nat) (nf : Nat) (nc : Nat) (qtb : Nat) (ql : Nat) (qw : Nat) (qra : Nat) (qo : Nat) (qt : Nat) (nm : Nat) (sg : Nat) (fa : Nat → Nat) (mo : Nat → Nat) (rk : Nat → Nat) (wt : Nat → Nat) (ol : Nat → Nat) (tl : Nat → Nat) (tb : Nat → Nat) (hF0 : fm_ok nf nc fa mo rk) (hS : sn_ok ol tl) (hm4 : nm ≤ 4) (hW8 : ∀ k, k < nm → ma_wt wt k 1 + ma_wt wt k 2 + ma_wt wt k 3 = 8) (hx : nf < 3) (hsg : sg = 0) : mg_Mi l D K y_LM_founder b_LM_founder 2 (.int) ({ frames := 22, cells := 0, slots := 0, locals := 523 }) [.ref (aL)] [mg_ob aL 5 [.ref (h), .ref (hM), .ref (hF), .ref (aS), .ref (qp), .int (nI (pl))], mg_ob h 1 [.ref (qf), .ref (qm), .ref (qr), .int (nI (nf)), .int (nI (nc))], mg_ai K qf 6 fa, mg_ai K qm 6 mo, mg_ai K qr 6 rk, mg_ob hM 2 [.ref (qw), .ref (qra), .ref (qo), .ref (qt), .int (nI (nm)), .int (nI (sg))], mg_ai K qw 12 wt, mg_ai K qo 24 ol, mg_ai K qt 24 tl, mg_ob hF 3 [.ref (h), .ref (hM), .ref (qtb), .ref (ql)], mg_ai K ql 6 (fun _ => 0), mg_ai K qtb 256 tb] (fun (r : Int32) (_ : Unit) => r = nI (nf + nc)) (fun (_ : Unit) => [mg_ob aL 5 [.ref (h), .ref (hM), .ref (hF), .ref (aS), .ref (qp), .int (nI (pl))], mg_ob h 1 [.ref (qf), .ref (qm), .ref (qr), .int (nI (nf + 1)), .int (nI (nc))], mg_ai K qf 6 (va_up fa (nf + nc) 4294967295), mg_ai K qm 6 (va_up mo (nf + nc) 4294967295), mg_ai K qr 6 (va_up rk (nf + nc) nf), mg_ob hM 2 [.ref (qw), .ref (qra), .ref (qo), .ref (qt), .int (nI (nm)), .int (nI (sg))], mg_ai K qw 12 wt, mg_ai K qo 24 ol, mg_ai K qt 24 tl, mg_ob hF 3 [.ref (h), .ref (hM), .ref (qtb), .ref (ql)], mg_ai K ql 6 (fun _ => 0), mg_ai K qtb 256 (fi_all tb (fi_fit wt ol tl (va_up fa (nf + nc) 4294967295) (va_up mo (nf + nc) 4294967295) (va_up rk (nf + nc) nf) (nf + 1) nc) (2 ^ (2 * nc)) nm)]) := by
  intro sz
  refine mg_entry (Qc := fun A => va_Qi (fun (r : Int32) (_ : Unit) => r = nI (nf + nc)) (mg_B D A (fun (_ : Unit) => [mg_ob aL 5 [.ref (h), .ref (hM), .ref (hF), .ref (aS), .ref (qp), .int (nI (pl))], mg_ob h 1 [.ref (qf), .ref (qm), .ref (qr), .int (nI (nf + 1)), .int (nI (nc))], mg_ai K qf 6 (va_up fa (nf + nc) 4294967295), mg_ai K qm 6 (va_up mo (nf + nc) 4294967295), mg_ai K qr 6 (va_up rk (nf + nc) nf), mg_ob hM 2 [.ref (qw), .ref (qra), .ref (qo), .ref (qt), .int (nI (nm)), .int (nI (sg))], mg_ai K qw 12 wt, mg_ai K qo 24 ol, mg_ai K qt 24 tl, mg_ob hF 3 [.ref (h), .ref (hM), .ref (qtb), .ref (ql)], mg_ai K ql 6 (fun _ => 0), mg_ai K qtb 256 (fi_all tb (fi_fit wt ol tl (va_up fa (nf + nc) 4294967295) (va_up mo (nf + nc) 4294967295) (va_up rk (nf + nc) nf) (nf + 1) nc) (2 ^ (2 * nc)) nm)])) A) (by decide) (Nat.le_of_ble_eq_true rfl) ?_
  intro p e s m args below meth c A ls X hr hlk hnm hA hK hw hl
  have hl : lv_has ls 2 [(0, .ref (aL))] := hl
  have hf1 := hF0.1
  have hf2 := hF0.2.1
  have hw6 := mg_ways hf2
  refine mg_aload_n X 1 d_LM_founder_0 (lv_at hl 0 rfl) rfl ?_
  refine mg_get X hK hw 4 0 0 f_LM_12 rfl rfl d_LM_founder_1 rfl ?_
  refine mg_get X hK hw 7 1 3 f_LM_51 rfl rfl d_LM_founder_4 rfl ?_
  refine mg_iconst X 8 3 d_LM_founder_7 mg_ci_3 rfl ?_
  refine mg_icmp_eq X 21 11 (by omega) (by omega) d_LM_founder_8 (by decide) rfl (fun b1 => absurd b1 (by omega)) (fun b1 => ?_)
  refine mg_aload_n X 12 d_LM_founder_11 (lv_at hl 0 rfl) rfl ?_
  refine mg_get X hK hw 15 0 1 f_LM_19 rfl rfl d_LM_founder_12 rfl ?_
  refine mg_get X hK hw 18 5 5 f_LM_54 rfl rfl d_LM_founder_15 rfl ?_
  refine mg_if_le X 29 21 (by omega) d_LM_founder_18 (by decide) rfl (fun b2 => ?_) (fun b2 => absurd b2 (by omega))
  refine mg_aload_n X 30 d_LM_founder_29 (lv_at hl 0 rfl) rfl ?_
  refine mg_get X hK hw 33 0 0 f_LM_12 rfl rfl d_LM_founder_30 rfl ?_
  refine mg_callVi X hK hw hA 36 [1, 2, 3, 4] 1 (fun _ => [mg_ob aL 5 [.ref (h), .ref (hM), .ref (hF), .ref (aS), .ref (qp), .int (nI (pl))], mg_ob h 1 [.ref (qf), .ref (qm), .ref (qr), .int (nI (nf + 1)), .int (nI (nc))], mg_ai K qf 6 (va_up fa (nf + nc) 4294967295), mg_ai K qm 6 (va_up mo (nf + nc) 4294967295), mg_ai K qr 6 (va_up rk (nf + nc) nf), mg_ob hM 2 [.ref (qw), .ref (qra), .ref (qo), .ref (qt), .int (nI (nm)), .int (nI (sg))], mg_ai K qw 12 wt, mg_ai K qo 24 ol, mg_ai K qt 24 tl, mg_ob hF 3 [.ref (h), .ref (hM), .ref (qtb), .ref (ql)], mg_ai K ql 6 (fun _ => 0), mg_ai K qtb 256 tb]) rfl rfl (k_Fa_addFounder l D K h qf qm qr nf nc fa mo rk (by omega)) g_LM_60 ⟨by decide, by decide⟩ ⟨rfl, rfl⟩ rfl rfl rfl hl.1 (rest := []) (As := []) rfl (Nat.le_of_ble_eq_true rfl) d_LM_founder_33 ⟨Nat.zero_le _, Nat.zero_le _⟩ (fun _ => rfl) (fun _ => rfl) rfl ?_
  intro r _ H locs hp4 hw
  subst hp4
  refine mg_istore_n X 37 [(1, .int (nI (nf + nc))), (0, .ref (aL))] d_LM_founder_36 hl (by decide) rfl rfl (fun ls hl => ?_)
  refine mg_aload_n X 38 d_LM_founder_37 (lv_at hl 1 rfl) rfl ?_
  refine mg_get X hK hw 41 0 2 f_LM_28 rfl rfl d_LM_founder_38 rfl ?_
  refine mg_callVv X hK hw hA 44 [9, 10, 11, 1, 2, 3, 4, 5, 6, 7, 8] 9 (fun _ => [mg_ob aL 5 [.ref (h), .ref (hM), .ref (hF), .ref (aS), .ref (qp), .int (nI (pl))], mg_ob h 1 [.ref (qf), .ref (qm), .ref (qr), .int (nI (nf + 1)), .int (nI (nc))], mg_ai K qf 6 (va_up fa (nf + nc) 4294967295), mg_ai K qm 6 (va_up mo (nf + nc) 4294967295), mg_ai K qr 6 (va_up rk (nf + nc) nf), mg_ob hM 2 [.ref (qw), .ref (qra), .ref (qo), .ref (qt), .int (nI (nm)), .int (nI (sg))], mg_ai K qw 12 wt, mg_ai K qo 24 ol, mg_ai K qt 24 tl, mg_ob hF 3 [.ref (h), .ref (hM), .ref (qtb), .ref (ql)], mg_ai K ql 6 (fun _ => 0), mg_ai K qtb 256 (fi_all tb (fi_fit wt ol tl (va_up fa (nf + nc) 4294967295) (va_up mo (nf + nc) 4294967295) (va_up rk (nf + nc) nf) (nf + 1) nc) (2 ^ (2 * nc)) nm)]) rfl rfl (k_Fi_renewAll l D K hF qtb ql h qf qm qr (nf + 1) nc hM qw qra qo qt nm sg (va_up fa (nf + nc) 4294967295) (va_up mo (nf + nc) 4294967295) (va_up rk (nf + nc) nf) wt ol tl tb (fm_founder hF0 hx _) (by first | exact hS | omega) (hm4) (by first | exact hW8 | omega)) g_LM_64 ⟨by decide, by decide⟩ ⟨rfl, rfl⟩ rfl rfl rfl hl.1 (rest := []) (As := []) rfl (Nat.le_of_ble_eq_true rfl) d_LM_founder_41 ⟨Nat.zero_le _, Nat.zero_le _⟩ (fun _ => rfl) (fun _ => rfl) rfl ?_
  intro _ H locs hp6 hw
  refine mg_iload_n X 45 d_LM_founder_44 (lv_at hl 0 rfl) rfl ?_
  exact mg_iret X hr hlk (rfl) (()) (rfl) hw d_LM_founder_45

set_option maxRecDepth 100000 in
set_option maxHeartbeats 4000000 in
theorem k_LM_child (l : Launch) (D : va_G) (K : Nat → ClassId) (aL : Nat) (h : Nat) (hM : Nat) (hF : Nat) (aS : Nat) (qp : Nat) (pl : Nat) (qf : Nat) (qm : Nat) (qr : Nat) (nf : Nat) (nc : Nat) (qtb : Nat) (ql : Nat) (qw : Nat) (qra : Nat) (qo : Nat) (qt : Nat) (nm : Nat) (sg : Nat) (fa : Nat → Nat) (mo : Nat → Nat) (rk : Nat → Nat) (wt : Nat → Nat) (ol : Nat → Nat) (tl : Nat → Nat) (tb : Nat → Nat) (f1 : Nat) (m1 : Nat) (hF0 : fm_ok nf nc fa mo rk) (hS : sn_ok ol tl) (hm4 : nm ≤ 4) (hW8 : ∀ k, k < nm → ma_wt wt k 1 + ma_wt wt k 2 + ma_wt wt k 3 = 8) (hf1 : f1 < nf + nc) (hm1 : m1 < nf + nc) (hx : nc < 3) (hsg : sg = 0) : mg_Mi l D K y_LM_child b_LM_child 4 (.int) ({ frames := 22, cells := 0, slots := 0, locals := 523 }) [.ref (aL), .int (nI (f1)), .int (nI (m1))] [mg_ob aL 5 [.ref (h), .ref (hM), .ref (hF), .ref (aS), .ref (qp), .int (nI (pl))], mg_ob h 1 [.ref (qf), .ref (qm), .ref (qr), .int (nI (nf)), .int (nI (nc))], mg_ai K qf 6 fa, mg_ai K qm 6 mo, mg_ai K qr 6 rk, mg_ob hM 2 [.ref (qw), .ref (qra), .ref (qo), .ref (qt), .int (nI (nm)), .int (nI (sg))], mg_ai K qw 12 wt, mg_ai K qo 24 ol, mg_ai K qt 24 tl, mg_ob hF 3 [.ref (h), .ref (hM), .ref (qtb), .ref (ql)], mg_ai K ql 6 (fun _ => 0), mg_ai K qtb 256 tb] (fun (r : Int32) (_ : Unit) => r = nI (nf + nc)) (fun (_ : Unit) => [mg_ob aL 5 [.ref (h), .ref (hM), .ref (hF), .ref (aS), .ref (qp), .int (nI (pl))], mg_ob h 1 [.ref (qf), .ref (qm), .ref (qr), .int (nI (nf)), .int (nI (nc + 1))], mg_ai K qf 6 (va_up fa (nf + nc) f1), mg_ai K qm 6 (va_up mo (nf + nc) m1), mg_ai K qr 6 (va_up rk (nf + nc) nc), mg_ob hM 2 [.ref (qw), .ref (qra), .ref (qo), .ref (qt), .int (nI (nm)), .int (nI (sg))], mg_ai K qw 12 wt, mg_ai K qo 24 ol, mg_ai K qt 24 tl, mg_ob hF 3 [.ref (h), .ref (hM), .ref (qtb), .ref (ql)], mg_ai K ql 6 (fun _ => 0), mg_ai K qtb 256 (fi_all tb (fi_fit wt ol tl (va_up fa (nf + nc) f1) (va_up mo (nf + nc) m1) (va_up rk (nf + nc) nc) nf (nc + 1)) (2 ^ (2 * (nc + 1))) nm)]) := by
  intro sz
  refine mg_entry (Qc := fun A => va_Qi (fun (r : Int32) (_ : Unit) => r = nI (nf + nc)) (mg_B D A (fun (_ : Unit) => [mg_ob aL 5 [.ref (h), .ref (hM), .ref (hF), .ref (aS), .ref (qp), .int (nI (pl))], mg_ob h 1 [.ref (qf), .ref (qm), .ref (qr), .int (nI (nf)), .int (nI (nc + 1))], mg_ai K qf 6 (va_up fa (nf + nc) f1), mg_ai K qm 6 (va_up mo (nf + nc) m1), mg_ai K qr 6 (va_up rk (nf + nc) nc), mg_ob hM 2 [.ref (qw), .ref (qra), .ref (qo), .ref (qt), .int (nI (nm)), .int (nI (sg))], mg_ai K qw 12 wt, mg_ai K qo 24 ol, mg_ai K qt 24 tl, mg_ob hF 3 [.ref (h), .ref (hM), .ref (qtb), .ref (ql)], mg_ai K ql 6 (fun _ => 0), mg_ai K qtb 256 (fi_all tb (fi_fit wt ol tl (va_up fa (nf + nc) f1) (va_up mo (nf + nc) m1) (va_up rk (nf + nc) nc) nf (nc + 1)) (2 ^ (2 * (nc + 1))) nm)])) A) (by decide) (Nat.le_of_ble_eq_true rfl) ?_
  intro p e s m args below meth c A ls X hr hlk hnm hA hK hw hl
  have hl : lv_has ls 4 [(0, .ref (aL)), (1, .int (nI (f1))), (2, .int (nI (m1)))] := hl
  have hg1 := hF0.1
  have hg2 := hF0.2.1
  refine mg_aload_n X 1 d_LM_child_0 (lv_at hl 0 rfl) rfl ?_
  refine mg_get X hK hw 4 0 0 f_LM_12 rfl rfl d_LM_child_1 rfl ?_
  refine mg_iload_n X 5 d_LM_child_4 (lv_at hl 1 rfl) rfl ?_
  refine mg_callVi X hK hw hA 8 [1] 1 (fun _ => [mg_ob aL 5 [.ref (h), .ref (hM), .ref (hF), .ref (aS), .ref (qp), .int (nI (pl))], mg_ob h 1 [.ref (qf), .ref (qm), .ref (qr), .int (nI (nf)), .int (nI (nc))], mg_ai K qf 6 fa, mg_ai K qm 6 mo, mg_ai K qr 6 rk, mg_ob hM 2 [.ref (qw), .ref (qra), .ref (qo), .ref (qt), .int (nI (nm)), .int (nI (sg))], mg_ai K qw 12 wt, mg_ai K qo 24 ol, mg_ai K qt 24 tl, mg_ob hF 3 [.ref (h), .ref (hM), .ref (qtb), .ref (ql)], mg_ai K ql 6 (fun _ => 0), mg_ai K qtb 256 tb]) rfl rfl (k_Fa_hasPerson l D K h qf qm qr nf nc (nI f1) (hg1) (hg2)) g_LM_67 ⟨by decide, by decide⟩ ⟨rfl, rfl⟩ rfl rfl rfl hl.1 (rest := []) (As := [.int (nI (f1))]) rfl (Nat.le_of_ble_eq_true rfl) d_LM_child_5 ⟨Nat.zero_le _, Nat.zero_le _⟩ (fun _ => rfl) (fun _ => rfl) rfl ?_
  intro r _ H locs hp2 hw
  subst hp2
  refine mg_bif_eq X 22 11 d_LM_child_8 (by decide) rfl (fun b3 => absurd (mg_lt_in hf1) b3) (fun _ => ?_)
  refine mg_aload_n X 12 d_LM_child_11 (lv_at hl 0 rfl) rfl ?_
  refine mg_get X hK hw 15 0 0 f_LM_12 rfl rfl d_LM_child_12 rfl ?_
  refine mg_iload_n X 16 d_LM_child_15 (lv_at hl 2 rfl) rfl ?_
  refine mg_callVi X hK hw hA 19 [1] 1 (fun _ => [mg_ob aL 5 [.ref (h), .ref (hM), .ref (hF), .ref (aS), .ref (qp), .int (nI (pl))], mg_ob h 1 [.ref (qf), .ref (qm), .ref (qr), .int (nI (nf)), .int (nI (nc))], mg_ai K qf 6 fa, mg_ai K qm 6 mo, mg_ai K qr 6 rk, mg_ob hM 2 [.ref (qw), .ref (qra), .ref (qo), .ref (qt), .int (nI (nm)), .int (nI (sg))], mg_ai K qw 12 wt, mg_ai K qo 24 ol, mg_ai K qt 24 tl, mg_ob hF 3 [.ref (h), .ref (hM), .ref (qtb), .ref (ql)], mg_ai K ql 6 (fun _ => 0), mg_ai K qtb 256 tb]) rfl rfl (k_Fa_hasPerson l D K h qf qm qr nf nc (nI m1) (hg1) (hg2)) g_LM_67 ⟨by decide, by decide⟩ ⟨rfl, rfl⟩ rfl rfl rfl hl.1 (rest := []) (As := [.int (nI (m1))]) rfl (Nat.le_of_ble_eq_true rfl) d_LM_child_16 ⟨Nat.zero_le _, Nat.zero_le _⟩ (fun _ => rfl) (fun _ => rfl) rfl ?_
  intro r _ H locs hp5 hw
  subst hp5
  refine mg_bif_ne X 30 22 d_LM_child_19 (by decide) rfl (fun _ => ?_) (fun b6 => absurd (mg_lt_in hm1) b6)
  refine mg_aload_n X 31 d_LM_child_30 (lv_at hl 0 rfl) rfl ?_
  refine mg_get X hK hw 34 0 0 f_LM_12 rfl rfl d_LM_child_31 rfl ?_
  refine mg_get X hK hw 37 1 4 f_LM_74 rfl rfl d_LM_child_34 rfl ?_
  refine mg_iconst X 38 3 d_LM_child_37 mg_ci_3 rfl ?_
  refine mg_icmp_eq X 51 41 (by omega) (by omega) d_LM_child_38 (by decide) rfl (fun b7 => absurd b7 (by omega)) (fun b7 => ?_)
  refine mg_aload_n X 42 d_LM_child_41 (lv_at hl 0 rfl) rfl ?_
  refine mg_get X hK hw 45 0 1 f_LM_19 rfl rfl d_LM_child_42 rfl ?_
  refine mg_get X hK hw 48 5 5 f_LM_54 rfl rfl d_LM_child_45 rfl ?_
  refine mg_if_le X 59 51 (by omega) d_LM_child_48 (by decide) rfl (fun b8 => ?_) (fun b8 => absurd b8 (by omega))
  refine mg_aload_n X 60 d_LM_child_59 (lv_at hl 0 rfl) rfl ?_
  refine mg_get X hK hw 63 0 0 f_LM_12 rfl rfl d_LM_child_60 rfl ?_
  refine mg_iload_n X 64 d_LM_child_63 (lv_at hl 1 rfl) rfl ?_
  refine mg_iload_n X 65 d_LM_child_64 (lv_at hl 2 rfl) rfl ?_
  refine mg_callVi X hK hw hA 68 [1, 2, 3, 4] 1 (fun _ => [mg_ob aL 5 [.ref (h), .ref (hM), .ref (hF), .ref (aS), .ref (qp), .int (nI (pl))], mg_ob h 1 [.ref (qf), .ref (qm), .ref (qr), .int (nI (nf)), .int (nI (nc + 1))], mg_ai K qf 6 (va_up fa (nf + nc) f1), mg_ai K qm 6 (va_up mo (nf + nc) m1), mg_ai K qr 6 (va_up rk (nf + nc) nc), mg_ob hM 2 [.ref (qw), .ref (qra), .ref (qo), .ref (qt), .int (nI (nm)), .int (nI (sg))], mg_ai K qw 12 wt, mg_ai K qo 24 ol, mg_ai K qt 24 tl, mg_ob hF 3 [.ref (h), .ref (hM), .ref (qtb), .ref (ql)], mg_ai K ql 6 (fun _ => 0), mg_ai K qtb 256 tb]) rfl rfl (k_Fa_addChild l D K h qf qm qr nf nc fa mo rk f1 m1 (by omega)) g_LM_77 ⟨by decide, by decide⟩ ⟨rfl, rfl⟩ rfl rfl rfl hl.1 (rest := []) (As := [.int (nI (f1)), .int (nI (m1))]) rfl (Nat.le_of_ble_eq_true rfl) d_LM_child_65 ⟨Nat.zero_le _, Nat.zero_le _⟩ (fun _ => rfl) (fun _ => rfl) rfl ?_
  intro r _ H locs hp10 hw
  subst hp10
  refine mg_istore_n X 69 [(3, .int (nI (nf + nc))), (0, .ref (aL)), (1, .int (nI (f1))), (2, .int (nI (m1)))] d_LM_child_68 hl (by decide) rfl rfl (fun ls hl => ?_)
  refine mg_aload_n X 70 d_LM_child_69 (lv_at hl 1 rfl) rfl ?_
  refine mg_get X hK hw 73 0 2 f_LM_28 rfl rfl d_LM_child_70 rfl ?_
  refine mg_callVv X hK hw hA 76 [9, 10, 11, 1, 2, 3, 4, 5, 6, 7, 8] 9 (fun _ => [mg_ob aL 5 [.ref (h), .ref (hM), .ref (hF), .ref (aS), .ref (qp), .int (nI (pl))], mg_ob h 1 [.ref (qf), .ref (qm), .ref (qr), .int (nI (nf)), .int (nI (nc + 1))], mg_ai K qf 6 (va_up fa (nf + nc) f1), mg_ai K qm 6 (va_up mo (nf + nc) m1), mg_ai K qr 6 (va_up rk (nf + nc) nc), mg_ob hM 2 [.ref (qw), .ref (qra), .ref (qo), .ref (qt), .int (nI (nm)), .int (nI (sg))], mg_ai K qw 12 wt, mg_ai K qo 24 ol, mg_ai K qt 24 tl, mg_ob hF 3 [.ref (h), .ref (hM), .ref (qtb), .ref (ql)], mg_ai K ql 6 (fun _ => 0), mg_ai K qtb 256 (fi_all tb (fi_fit wt ol tl (va_up fa (nf + nc) f1) (va_up mo (nf + nc) m1) (va_up rk (nf + nc) nc) nf (nc + 1)) (2 ^ (2 * (nc + 1))) nm)]) rfl rfl (k_Fi_renewAll l D K hF qtb ql h qf qm qr nf (nc + 1) hM qw qra qo qt nm sg (va_up fa (nf + nc) f1) (va_up mo (nf + nc) m1) (va_up rk (nf + nc) nc) wt ol tl tb (fm_child hF0 hx hf1 hm1) (by first | exact hS | omega) (hm4) (by first | exact hW8 | omega)) g_LM_64 ⟨by decide, by decide⟩ ⟨rfl, rfl⟩ rfl rfl rfl hl.1 (rest := []) (As := []) rfl (Nat.le_of_ble_eq_true rfl) d_LM_child_73 ⟨Nat.zero_le _, Nat.zero_le _⟩ (fun _ => rfl) (fun _ => rfl) rfl ?_
  intro _ H locs hp12 hw
  refine mg_iload_n X 77 d_LM_child_76 (lv_at hl 0 rfl) rfl ?_
  exact mg_iret X hr hlk (rfl) (()) (rfl) hw d_LM_child_77

set_option maxRecDepth 100000 in
set_option maxHeartbeats 4000000 in
theorem k_LM_marker (l : Launch) (D : va_G) (K : Nat → ClassId) (aL : Nat) (h : Nat) (hM : Nat) (hF : Nat) (aS : Nat) (qp : Nat) (pl : Nat) (qf : Nat) (qm : Nat) (qr : Nat) (nf : Nat) (nc : Nat) (qtb : Nat) (ql : Nat) (qw : Nat) (qra : Nat) (qo : Nat) (qt : Nat) (nm : Nat) (sg : Nat) (fa : Nat → Nat) (mo : Nat → Nat) (rk : Nat → Nat) (wt : Nat → Nat) (ol : Nat → Nat) (tl : Nat → Nat) (tb : Nat → Nat) (rt : Nat → Nat) (a1 : Nat) (a2 : Nat) (a3 : Nat) (hF0 : fm_ok nf nc fa mo rk) (hS : sn_ok ol tl) (h8 : a1 + a2 + a3 = 8) (hx : nm < 4) : mg_Mi l D K y_LM_marker b_LM_marker 5 (.int) ({ frames := 21, cells := 0, slots := 0, locals := 502 }) [.ref (aL), .int (nI (a1)), .int (nI (a2)), .int (nI (a3))] [mg_ob aL 5 [.ref (h), .ref (hM), .ref (hF), .ref (aS), .ref (qp), .int (nI (pl))], mg_ob h 1 [.ref (qf), .ref (qm), .ref (qr), .int (nI (nf)), .int (nI (nc))], mg_ai K qf 6 fa, mg_ai K qm 6 mo, mg_ai K qr 6 rk, mg_ob hM 2 [.ref (qw), .ref (qra), .ref (qo), .ref (qt), .int (nI (nm)), .int (nI (sg))], mg_ai K qw 12 wt, mg_ai K qra 3 rt, mg_ai K qo 24 ol, mg_ai K qt 24 tl, mg_ob hF 3 [.ref (h), .ref (hM), .ref (qtb), .ref (ql)], mg_ai K ql 6 (fun _ => 0), mg_ai K qtb 256 tb] (fun (r : Int32) (_ : Unit) => r = nI (nm)) (fun (_ : Unit) => [mg_ob aL 5 [.ref (h), .ref (hM), .ref (hF), .ref (aS), .ref (qp), .int (nI (pl))], mg_ob h 1 [.ref (qf), .ref (qm), .ref (qr), .int (nI (nf)), .int (nI (nc))], mg_ai K qf 6 fa, mg_ai K qm 6 mo, mg_ai K qr 6 rk, mg_ob hM 2 [.ref (qw), .ref (qra), .ref (qo), .ref (qt), .int (nI (nm + 1)), .int (nI (sg))], mg_ai K qw 12 (va_up (va_up (va_up wt (nm * 3) a1) (nm * 3 + 1) a2) (nm * 3 + 2) a3), mg_ai K qra 3 (ma_rt nm rt), mg_ai K qo 24 ol, mg_ai K qt 24 tl, mg_ob hF 3 [.ref (h), .ref (hM), .ref (qtb), .ref (ql)], mg_ai K ql 6 (fun _ => 0), mg_ai K qtb 256 (fi_tb tb (fi_fit (va_up (va_up (va_up wt (nm * 3) a1) (nm * 3 + 1) a2) (nm * 3 + 2) a3) ol tl fa mo rk nf nc nm) nm (2 ^ (2 * nc)))]) := by
  intro sz
  refine mg_entry (Qc := fun A => va_Qi (fun (r : Int32) (_ : Unit) => r = nI (nm)) (mg_B D A (fun (_ : Unit) => [mg_ob aL 5 [.ref (h), .ref (hM), .ref (hF), .ref (aS), .ref (qp), .int (nI (pl))], mg_ob h 1 [.ref (qf), .ref (qm), .ref (qr), .int (nI (nf)), .int (nI (nc))], mg_ai K qf 6 fa, mg_ai K qm 6 mo, mg_ai K qr 6 rk, mg_ob hM 2 [.ref (qw), .ref (qra), .ref (qo), .ref (qt), .int (nI (nm + 1)), .int (nI (sg))], mg_ai K qw 12 (va_up (va_up (va_up wt (nm * 3) a1) (nm * 3 + 1) a2) (nm * 3 + 2) a3), mg_ai K qra 3 (ma_rt nm rt), mg_ai K qo 24 ol, mg_ai K qt 24 tl, mg_ob hF 3 [.ref (h), .ref (hM), .ref (qtb), .ref (ql)], mg_ai K ql 6 (fun _ => 0), mg_ai K qtb 256 (fi_tb tb (fi_fit (va_up (va_up (va_up wt (nm * 3) a1) (nm * 3 + 1) a2) (nm * 3 + 2) a3) ol tl fa mo rk nf nc nm) nm (2 ^ (2 * nc)))])) A) (by decide) (Nat.le_of_ble_eq_true rfl) ?_
  intro p e s m args below meth c A ls X hr hlk hnm hA hK hw hl
  have hl : lv_has ls 5 [(0, .ref (aL)), (1, .int (nI (a1))), (2, .int (nI (a2))), (3, .int (nI (a3)))] := hl
  have hf1 := hF0.1
  have hf2 := hF0.2.1
  have hw6 := mg_ways hf2
  refine mg_iload_n X 1 d_LM_marker_0 (lv_at hl 1 rfl) rfl ?_
  refine mg_iload_n X 2 d_LM_marker_1 (lv_at hl 2 rfl) rfl ?_
  refine mg_iload_n X 3 d_LM_marker_2 (lv_at hl 3 rfl) rfl ?_
  refine mg_callSi X hK hw hA 6 [] (fun _ => [mg_ob aL 5 [.ref (h), .ref (hM), .ref (hF), .ref (aS), .ref (qp), .int (nI (pl))], mg_ob h 1 [.ref (qf), .ref (qm), .ref (qr), .int (nI (nf)), .int (nI (nc))], mg_ai K qf 6 fa, mg_ai K qm 6 mo, mg_ai K qr 6 rk, mg_ob hM 2 [.ref (qw), .ref (qra), .ref (qo), .ref (qt), .int (nI (nm)), .int (nI (sg))], mg_ai K qw 12 wt, mg_ai K qra 3 rt, mg_ai K qo 24 ol, mg_ai K qt 24 tl, mg_ob hF 3 [.ref (h), .ref (hM), .ref (qtb), .ref (ql)], mg_ai K ql 6 (fun _ => 0), mg_ai K qtb 256 tb]) (k_LM_areWeights l D K (nI a1) (nI a2) (nI a3) ) g_LM_81 ⟨by decide, by decide⟩ ⟨rfl, rfl⟩ rfl rfl rfl hl.1 (rest := []) (As := [.int (nI (a1)), .int (nI (a2)), .int (nI (a3))]) rfl (Nat.le_of_ble_eq_true rfl) d_LM_marker_3 ⟨Nat.zero_le _, Nat.zero_le _⟩ (fun _ => rfl) (fun _ => rfl) rfl ?_
  intro r _ H locs hp2 hw
  subst hp2
  refine mg_bif_ne X 17 9 d_LM_marker_6 (by decide) rfl (fun _ => ?_) (fun b3 => absurd (⟨a1, a2, a3, rfl, rfl, rfl, h8⟩) b3)
  refine mg_aload_n X 18 d_LM_marker_17 (lv_at hl 0 rfl) rfl ?_
  refine mg_get X hK hw 21 0 1 f_LM_19 rfl rfl d_LM_marker_18 rfl ?_
  refine mg_get X hK hw 24 5 4 f_LM_88 rfl rfl d_LM_marker_21 rfl ?_
  refine mg_iconst X 25 4 d_LM_marker_24 mg_ci_4 rfl ?_
  refine mg_icmp_ne X 36 28 (by omega) (by omega) d_LM_marker_25 (by decide) rfl (fun b4 => ?_) (fun b4 => absurd b4 (by omega))
  refine mg_aload_n X 37 d_LM_marker_36 (lv_at hl 0 rfl) rfl ?_
  refine mg_get X hK hw 40 0 1 f_LM_19 rfl rfl d_LM_marker_37 rfl ?_
  refine mg_iload_n X 41 d_LM_marker_40 (lv_at hl 1 rfl) rfl ?_
  refine mg_iload_n X 42 d_LM_marker_41 (lv_at hl 2 rfl) rfl ?_
  refine mg_iload_n X 43 d_LM_marker_42 (lv_at hl 3 rfl) rfl ?_
  refine mg_callVi X hK hw hA 46 [5, 6, 7] 5 (fun u5 => [mg_ob aL 5 [.ref (h), .ref (hM), .ref (hF), .ref (aS), .ref (qp), .int (nI (pl))], mg_ob h 1 [.ref (qf), .ref (qm), .ref (qr), .int (nI (nf)), .int (nI (nc))], mg_ai K qf 6 fa, mg_ai K qm 6 mo, mg_ai K qr 6 rk, mg_ob hM 2 [.ref (qw), .ref (qra), .ref (qo), .ref (qt), .int (nI (nm + 1)), .int (nI (sg))], mg_ai K qw 12 (va_up (va_up (va_up wt (nm * 3) a1) (nm * 3 + 1) a2) (nm * 3 + 2) a3), mg_ai K qra 3 u5, mg_ai K qo 24 ol, mg_ai K qt 24 tl, mg_ob hF 3 [.ref (h), .ref (hM), .ref (qtb), .ref (ql)], mg_ai K ql 6 (fun _ => 0), mg_ai K qtb 256 tb]) rfl rfl (k_Ma_add l D K hM qw qra qo qt nm sg wt rt a1 a2 a3 (hx)) g_LM_91 ⟨by decide, by decide⟩ ⟨rfl, rfl⟩ rfl rfl rfl hl.1 (rest := []) (As := [.int (nI (a1)), .int (nI (a2)), .int (nI (a3))]) rfl (Nat.le_of_ble_eq_true rfl) d_LM_marker_43 ⟨Nat.zero_le _, Nat.zero_le _⟩ (fun _ => rfl) (fun _ => rfl) rfl ?_
  intro r u5 H locs hu9 hw
  obtain ⟨rfl, hu9⟩ := hu9
  subst hu9
  refine mg_istore X 48 [(4, .int (nI (nm))), (0, .ref (aL)), (1, .int (nI (a1))), (2, .int (nI (a2))), (3, .int (nI (a3)))] d_LM_marker_46 hl (by decide) rfl rfl (fun ls hl => ?_)
  refine mg_aload_n X 49 d_LM_marker_48 (lv_at hl 1 rfl) rfl ?_
  refine mg_get X hK hw 52 0 2 f_LM_28 rfl rfl d_LM_marker_49 rfl ?_
  refine mg_iload X 54 d_LM_marker_52 (lv_at hl 0 rfl) rfl ?_
  refine mg_callVv X hK hw hA 57 [10, 11, 12, 1, 2, 3, 4, 5, 6, 8, 9] 10 (fun _ => [mg_ob aL 5 [.ref (h), .ref (hM), .ref (hF), .ref (aS), .ref (qp), .int (nI (pl))], mg_ob h 1 [.ref (qf), .ref (qm), .ref (qr), .int (nI (nf)), .int (nI (nc))], mg_ai K qf 6 fa, mg_ai K qm 6 mo, mg_ai K qr 6 rk, mg_ob hM 2 [.ref (qw), .ref (qra), .ref (qo), .ref (qt), .int (nI (nm + 1)), .int (nI (sg))], mg_ai K qw 12 (va_up (va_up (va_up wt (nm * 3) a1) (nm * 3 + 1) a2) (nm * 3 + 2) a3), mg_ai K qra 3 (ma_rt nm rt), mg_ai K qo 24 ol, mg_ai K qt 24 tl, mg_ob hF 3 [.ref (h), .ref (hM), .ref (qtb), .ref (ql)], mg_ai K ql 6 (fun _ => 0), mg_ai K qtb 256 (fi_tb tb (fi_fit (va_up (va_up (va_up wt (nm * 3) a1) (nm * 3 + 1) a2) (nm * 3 + 2) a3) ol tl fa mo rk nf nc nm) nm (2 ^ (2 * nc)))]) rfl rfl (k_Fi_renew l D K hF qtb ql h qf qm qr nf nc hM qw qra qo qt (nm + 1) sg fa mo rk (va_up (va_up (va_up wt (nm * 3) a1) (nm * 3 + 1) a2) (nm * 3 + 2) a3) ol tl tb nm (by first | exact hF0 | omega) (by first | exact hS | omega) (hx) (by rw [ma_new1, ma_new2, ma_new3]; exact h8)) g_LM_95 ⟨by decide, by decide⟩ ⟨rfl, rfl⟩ rfl rfl rfl hl.1 (rest := []) (As := [.int (nI (nm))]) rfl (Nat.le_of_ble_eq_true rfl) d_LM_marker_54 ⟨Nat.zero_le _, Nat.zero_le _⟩ (fun _ => rfl) (fun _ => rfl) rfl ?_
  intro _ H locs hp7 hw
  refine mg_iload X 59 d_LM_marker_57 (lv_at hl 0 rfl) rfl ?_
  exact mg_iret X hr hlk (rfl) (()) (rfl) hw d_LM_marker_59

set_option maxRecDepth 100000 in
set_option maxHeartbeats 4000000 in
theorem k_LM_rate (l : Launch) (D : va_G) (K : Nat → ClassId) (aL : Nat) (h : Nat) (hM : Nat) (hF : Nat) (aS : Nat) (qp : Nat) (pl : Nat) (qw : Nat) (qra : Nat) (qo : Nat) (qt : Nat) (nm : Nat) (sg : Nat) (rt : Nat → Nat) (g1 : Nat) (k1 : Nat) (hn : nm ≤ 4) (hg : g1 + 1 < nm) (hk : k1 ≤ 8) : mg_Mi l D K y_LM_rate b_LM_rate 4 (.int) ({ frames := 2, cells := 0, slots := 0, locals := 41 }) [.ref (aL), .int (nI (g1)), .int (nI (k1))] [mg_ob aL 5 [.ref (h), .ref (hM), .ref (hF), .ref (aS), .ref (qp), .int (nI (pl))], mg_ob hM 2 [.ref (qw), .ref (qra), .ref (qo), .ref (qt), .int (nI (nm)), .int (nI (sg))], mg_ai K qra 3 rt] (fun (r : Int32) (_ : Unit) => r = nI (rt g1)) (fun (_ : Unit) => [mg_ob aL 5 [.ref (h), .ref (hM), .ref (hF), .ref (aS), .ref (qp), .int (nI (pl))], mg_ob hM 2 [.ref (qw), .ref (qra), .ref (qo), .ref (qt), .int (nI (nm)), .int (nI (sg))], mg_ai K qra 3 (va_up rt g1 k1)]) := by
  intro sz
  refine mg_entry (Qc := fun A => va_Qi (fun (r : Int32) (_ : Unit) => r = nI (rt g1)) (mg_B D A (fun (_ : Unit) => [mg_ob aL 5 [.ref (h), .ref (hM), .ref (hF), .ref (aS), .ref (qp), .int (nI (pl))], mg_ob hM 2 [.ref (qw), .ref (qra), .ref (qo), .ref (qt), .int (nI (nm)), .int (nI (sg))], mg_ai K qra 3 (va_up rt g1 k1)])) A) (by decide) (Nat.le_of_ble_eq_true rfl) ?_
  intro p e s m args below meth c A ls X hr hlk hnm hA hK hw hl
  have hl : lv_has ls 4 [(0, .ref (aL)), (1, .int (nI (g1))), (2, .int (nI (k1)))] := hl
  refine mg_aload_n X 1 d_LM_rate_0 (lv_at hl 0 rfl) rfl ?_
  refine mg_get X hK hw 4 0 1 f_LM_19 rfl rfl d_LM_rate_1 rfl ?_
  refine mg_iload_n X 5 d_LM_rate_4 (lv_at hl 1 rfl) rfl ?_
  refine mg_callVi X hK hw hA 8 [1] 1 (fun _ => [mg_ob aL 5 [.ref (h), .ref (hM), .ref (hF), .ref (aS), .ref (qp), .int (nI (pl))], mg_ob hM 2 [.ref (qw), .ref (qra), .ref (qo), .ref (qt), .int (nI (nm)), .int (nI (sg))], mg_ai K qra 3 rt]) rfl rfl (k_Ma_hasGap l D K hM qw qra qo qt nm sg (nI g1) (by first | exact hn | omega)) g_LM_99 ⟨by decide, by decide⟩ ⟨rfl, rfl⟩ rfl rfl rfl hl.1 (rest := []) (As := [.int (nI (g1))]) rfl (Nat.le_of_ble_eq_true rfl) d_LM_rate_5 ⟨Nat.zero_le _, Nat.zero_le _⟩ (fun _ => rfl) (fun _ => rfl) rfl ?_
  intro r _ H locs hp2 hw
  subst hp2
  refine mg_bif_ne X 19 11 d_LM_rate_8 (by decide) rfl (fun _ => ?_) (fun b3 => absurd (mg_lt_in (by omega)) b3)
  refine mg_iload_n X 20 d_LM_rate_19 (lv_at hl 2 rfl) rfl ?_
  refine mg_callSi X hK hw hA 23 [] (fun _ => [mg_ob aL 5 [.ref (h), .ref (hM), .ref (hF), .ref (aS), .ref (qp), .int (nI (pl))], mg_ob hM 2 [.ref (qw), .ref (qra), .ref (qo), .ref (qt), .int (nI (nm)), .int (nI (sg))], mg_ai K qra 3 rt]) (k_LM_isRate l D K (nI k1) ) g_LM_102 ⟨by decide, by decide⟩ ⟨rfl, rfl⟩ rfl rfl rfl hl.1 (rest := []) (As := [.int (nI (k1))]) rfl (Nat.le_of_ble_eq_true rfl) d_LM_rate_20 ⟨Nat.zero_le _, Nat.zero_le _⟩ (fun _ => rfl) (fun _ => rfl) rfl ?_
  intro r _ H locs hp5 hw
  subst hp5
  refine mg_bif_ne X 34 26 d_LM_rate_23 (by decide) rfl (fun _ => ?_) (fun b6 => absurd (mg_lt_in (by omega)) b6)
  refine mg_aload_n X 35 d_LM_rate_34 (lv_at hl 0 rfl) rfl ?_
  refine mg_get X hK hw 38 0 1 f_LM_19 rfl rfl d_LM_rate_35 rfl ?_
  refine mg_get X hK hw 41 1 1 f_LM_105 rfl rfl d_LM_rate_38 rfl ?_
  refine mg_iload_n X 42 d_LM_rate_41 (lv_at hl 1 rfl) rfl ?_
  refine mg_iald X hK hw 43 2 rfl (by omega) (by omega) d_LM_rate_42 rfl ?_
  refine mg_istore_n X 44 [(3, .int (nI (rt g1))), (0, .ref (aL)), (1, .int (nI (g1))), (2, .int (nI (k1)))] d_LM_rate_43 hl (by decide) rfl rfl (fun ls hl => ?_)
  refine mg_aload_n X 45 d_LM_rate_44 (lv_at hl 1 rfl) rfl ?_
  refine mg_get X hK hw 48 0 1 f_LM_19 rfl rfl d_LM_rate_45 rfl ?_
  refine mg_get X hK hw 51 1 1 f_LM_105 rfl rfl d_LM_rate_48 rfl ?_
  refine mg_iload_n X 52 d_LM_rate_51 (lv_at hl 2 rfl) rfl ?_
  refine mg_iload_n X 53 d_LM_rate_52 (lv_at hl 3 rfl) rfl ?_
  refine mg_iast X hK hw 54 2 [mg_ob aL 5 [.ref (h), .ref (hM), .ref (hF), .ref (aS), .ref (qp), .int (nI (pl))], mg_ob hM 2 [.ref (qw), .ref (qra), .ref (qo), .ref (qt), .int (nI (nm)), .int (nI (sg))], mg_ai K qra 3 (va_up rt g1 k1)] rfl (by omega) (by omega) d_LM_rate_53 rfl rfl (fun H locs hw => ?_)
  refine mg_iload_n X 55 d_LM_rate_54 (lv_at hl 0 rfl) rfl ?_
  exact mg_iret X hr hlk (rfl) (()) (rfl) hw d_LM_rate_55

set_option maxRecDepth 100000 in
set_option maxHeartbeats 4000000 in
theorem k_LM_see (l : Launch) (D : va_G) (K : Nat → ClassId) (aL : Nat) (h : Nat) (hM : Nat) (hF : Nat) (aS : Nat) (qp : Nat) (pl : Nat) (qf : Nat) (qm : Nat) (qr : Nat) (nf : Nat) (nc : Nat) (qtb : Nat) (ql : Nat) (qw : Nat) (qra : Nat) (qo : Nat) (qt : Nat) (nm : Nat) (sg : Nat) (fa : Nat → Nat) (mo : Nat → Nat) (rk : Nat → Nat) (wt : Nat → Nat) (ol : Nat → Nat) (tl : Nat → Nat) (tb : Nat → Nat) (p1 : Nat) (m1 : Nat) (o1 : Nat) (t1 : Nat) (hF0 : fm_ok nf nc fa mo rk) (hS : sn_ok ol tl) (hm4 : nm ≤ 4) (hW8 : ∀ k, k < nm → ma_wt wt k 1 + ma_wt wt k 2 + ma_wt wt k 3 = 8) (hp1 : p1 < nf + nc) (hm1 : m1 < nm) (hg : sg ≤ 24) (hg1 : ∀ k, k < 24 → ol k ≠ 0 → 1 ≤ sg) (ho1 : 1 ≤ o1 ∧ o1 ≤ 3) (ht1 : 1 ≤ t1 ∧ t1 ≤ 3) : mg_Mv l D K y_LM_see b_LM_see 5 ({ frames := 21, cells := 0, slots := 0, locals := 502 }) [.ref (aL), .int (nI (p1)), .int (nI (m1)), .int (nI (o1)), .int (nI (t1))] [mg_ob aL 5 [.ref (h), .ref (hM), .ref (hF), .ref (aS), .ref (qp), .int (nI (pl))], mg_ob h 1 [.ref (qf), .ref (qm), .ref (qr), .int (nI (nf)), .int (nI (nc))], mg_ai K qf 6 fa, mg_ai K qm 6 mo, mg_ai K qr 6 rk, mg_ob hM 2 [.ref (qw), .ref (qra), .ref (qo), .ref (qt), .int (nI (nm)), .int (nI (sg))], mg_ai K qw 12 wt, mg_ai K qo 24 ol, mg_ai K qt 24 tl, mg_ob hF 3 [.ref (h), .ref (hM), .ref (qtb), .ref (ql)], mg_ai K ql 6 (fun _ => 0), mg_ai K qtb 256 tb] (fun (_ : Unit) => True) (fun (_ : Unit) => [mg_ob aL 5 [.ref (h), .ref (hM), .ref (hF), .ref (aS), .ref (qp), .int (nI (pl))], mg_ob h 1 [.ref (qf), .ref (qm), .ref (qr), .int (nI (nf)), .int (nI (nc))], mg_ai K qf 6 fa, mg_ai K qm 6 mo, mg_ai K qr 6 rk, mg_ob hM 2 [.ref (qw), .ref (qra), .ref (qo), .ref (qt), .int (nI (nm)), .int (nI (if ol (m1 * 6 + p1) = 0 then sg + 1 else sg))], mg_ai K qw 12 wt, mg_ai K qo 24 (va_up ol (m1 * 6 + p1) o1), mg_ai K qt 24 (va_up tl (m1 * 6 + p1) t1), mg_ob hF 3 [.ref (h), .ref (hM), .ref (qtb), .ref (ql)], mg_ai K ql 6 (fun _ => 0), mg_ai K qtb 256 (fi_tb tb (fi_fit wt (va_up ol (m1 * 6 + p1) o1) (va_up tl (m1 * 6 + p1) t1) fa mo rk nf nc m1) m1 (2 ^ (2 * nc)))]) := by
  intro sz
  refine mg_entry (Qc := fun A => va_Qv (fun (_ : Unit) => True) (mg_B D A (fun (_ : Unit) => [mg_ob aL 5 [.ref (h), .ref (hM), .ref (hF), .ref (aS), .ref (qp), .int (nI (pl))], mg_ob h 1 [.ref (qf), .ref (qm), .ref (qr), .int (nI (nf)), .int (nI (nc))], mg_ai K qf 6 fa, mg_ai K qm 6 mo, mg_ai K qr 6 rk, mg_ob hM 2 [.ref (qw), .ref (qra), .ref (qo), .ref (qt), .int (nI (nm)), .int (nI (if ol (m1 * 6 + p1) = 0 then sg + 1 else sg))], mg_ai K qw 12 wt, mg_ai K qo 24 (va_up ol (m1 * 6 + p1) o1), mg_ai K qt 24 (va_up tl (m1 * 6 + p1) t1), mg_ob hF 3 [.ref (h), .ref (hM), .ref (qtb), .ref (ql)], mg_ai K ql 6 (fun _ => 0), mg_ai K qtb 256 (fi_tb tb (fi_fit wt (va_up ol (m1 * 6 + p1) o1) (va_up tl (m1 * 6 + p1) t1) fa mo rk nf nc m1) m1 (2 ^ (2 * nc)))])) A) (by decide) (Nat.le_of_ble_eq_true rfl) ?_
  intro p e s m args below meth c A ls X hr hlk hnm hA hK hw hl
  have hl : lv_has ls 5 [(0, .ref (aL)), (1, .int (nI (p1))), (2, .int (nI (m1))), (3, .int (nI (o1))), (4, .int (nI (t1)))] := hl
  have hf1 := hF0.1
  have hf2 := hF0.2.1
  have hw6 := mg_ways hf2
  refine mg_aload_n X 1 d_LM_see_0 (lv_at hl 0 rfl) rfl ?_
  refine mg_get X hK hw 4 0 0 f_LM_12 rfl rfl d_LM_see_1 rfl ?_
  refine mg_iload_n X 5 d_LM_see_4 (lv_at hl 1 rfl) rfl ?_
  refine mg_callVi X hK hw hA 8 [1] 1 (fun _ => [mg_ob aL 5 [.ref (h), .ref (hM), .ref (hF), .ref (aS), .ref (qp), .int (nI (pl))], mg_ob h 1 [.ref (qf), .ref (qm), .ref (qr), .int (nI (nf)), .int (nI (nc))], mg_ai K qf 6 fa, mg_ai K qm 6 mo, mg_ai K qr 6 rk, mg_ob hM 2 [.ref (qw), .ref (qra), .ref (qo), .ref (qt), .int (nI (nm)), .int (nI (sg))], mg_ai K qw 12 wt, mg_ai K qo 24 ol, mg_ai K qt 24 tl, mg_ob hF 3 [.ref (h), .ref (hM), .ref (qtb), .ref (ql)], mg_ai K ql 6 (fun _ => 0), mg_ai K qtb 256 tb]) rfl rfl (k_Fa_hasPerson l D K h qf qm qr nf nc (nI p1) (hf1) (hf2)) g_LM_67 ⟨by decide, by decide⟩ ⟨rfl, rfl⟩ rfl rfl rfl hl.1 (rest := []) (As := [.int (nI (p1))]) rfl (Nat.le_of_ble_eq_true rfl) d_LM_see_5 ⟨Nat.zero_le _, Nat.zero_le _⟩ (fun _ => rfl) (fun _ => rfl) rfl ?_
  intro r _ H locs hp2 hw
  subst hp2
  refine mg_bif_eq X 22 11 d_LM_see_8 (by decide) rfl (fun b3 => absurd (mg_lt_in hp1) b3) (fun _ => ?_)
  refine mg_aload_n X 12 d_LM_see_11 (lv_at hl 0 rfl) rfl ?_
  refine mg_get X hK hw 15 0 1 f_LM_19 rfl rfl d_LM_see_12 rfl ?_
  refine mg_iload_n X 16 d_LM_see_15 (lv_at hl 2 rfl) rfl ?_
  refine mg_callVi X hK hw hA 19 [5] 5 (fun _ => [mg_ob aL 5 [.ref (h), .ref (hM), .ref (hF), .ref (aS), .ref (qp), .int (nI (pl))], mg_ob h 1 [.ref (qf), .ref (qm), .ref (qr), .int (nI (nf)), .int (nI (nc))], mg_ai K qf 6 fa, mg_ai K qm 6 mo, mg_ai K qr 6 rk, mg_ob hM 2 [.ref (qw), .ref (qra), .ref (qo), .ref (qt), .int (nI (nm)), .int (nI (sg))], mg_ai K qw 12 wt, mg_ai K qo 24 ol, mg_ai K qt 24 tl, mg_ob hF 3 [.ref (h), .ref (hM), .ref (qtb), .ref (ql)], mg_ai K ql 6 (fun _ => 0), mg_ai K qtb 256 tb]) rfl rfl (k_Ma_hasMarker l D K hM qw qra qo qt nm sg (nI m1) (hm4)) g_LM_109 ⟨by decide, by decide⟩ ⟨rfl, rfl⟩ rfl rfl rfl hl.1 (rest := []) (As := [.int (nI (m1))]) rfl (Nat.le_of_ble_eq_true rfl) d_LM_see_16 ⟨Nat.zero_le _, Nat.zero_le _⟩ (fun _ => rfl) (fun _ => rfl) rfl ?_
  intro r _ H locs hp5 hw
  subst hp5
  refine mg_bif_ne X 30 22 d_LM_see_19 (by decide) rfl (fun _ => ?_) (fun b6 => absurd (mg_lt_in hm1) b6)
  refine mg_iload_n X 31 d_LM_see_30 (lv_at hl 3 rfl) rfl ?_
  refine mg_callSi X hK hw hA 34 [] (fun _ => [mg_ob aL 5 [.ref (h), .ref (hM), .ref (hF), .ref (aS), .ref (qp), .int (nI (pl))], mg_ob h 1 [.ref (qf), .ref (qm), .ref (qr), .int (nI (nf)), .int (nI (nc))], mg_ai K qf 6 fa, mg_ai K qm 6 mo, mg_ai K qr 6 rk, mg_ob hM 2 [.ref (qw), .ref (qra), .ref (qo), .ref (qt), .int (nI (nm)), .int (nI (sg))], mg_ai K qw 12 wt, mg_ai K qo 24 ol, mg_ai K qt 24 tl, mg_ob hF 3 [.ref (h), .ref (hM), .ref (qtb), .ref (ql)], mg_ai K ql 6 (fun _ => 0), mg_ai K qtb 256 tb]) (k_LM_isLetter l D K (nI o1) ) g_LM_112 ⟨by decide, by decide⟩ ⟨rfl, rfl⟩ rfl rfl rfl hl.1 (rest := []) (As := [.int (nI (o1))]) rfl (Nat.le_of_ble_eq_true rfl) d_LM_see_31 ⟨Nat.zero_le _, Nat.zero_le _⟩ (fun _ => rfl) (fun _ => rfl) rfl ?_
  intro r _ H locs hp8 hw
  subst hp8
  refine mg_bif_eq X 45 37 d_LM_see_34 (by decide) rfl (fun b9 => absurd (mg_bt_in ho1.1 ho1.2) b9) (fun _ => ?_)
  refine mg_iload X 39 d_LM_see_37 (lv_at hl 4 rfl) rfl ?_
  refine mg_callSi X hK hw hA 42 [] (fun _ => [mg_ob aL 5 [.ref (h), .ref (hM), .ref (hF), .ref (aS), .ref (qp), .int (nI (pl))], mg_ob h 1 [.ref (qf), .ref (qm), .ref (qr), .int (nI (nf)), .int (nI (nc))], mg_ai K qf 6 fa, mg_ai K qm 6 mo, mg_ai K qr 6 rk, mg_ob hM 2 [.ref (qw), .ref (qra), .ref (qo), .ref (qt), .int (nI (nm)), .int (nI (sg))], mg_ai K qw 12 wt, mg_ai K qo 24 ol, mg_ai K qt 24 tl, mg_ob hF 3 [.ref (h), .ref (hM), .ref (qtb), .ref (ql)], mg_ai K ql 6 (fun _ => 0), mg_ai K qtb 256 tb]) (k_LM_isLetter l D K (nI t1) ) g_LM_112 ⟨by decide, by decide⟩ ⟨rfl, rfl⟩ rfl rfl rfl hl.1 (rest := []) (As := [.int (nI (t1))]) rfl (Nat.le_of_ble_eq_true rfl) d_LM_see_39 ⟨Nat.zero_le _, Nat.zero_le _⟩ (fun _ => rfl) (fun _ => rfl) rfl ?_
  intro r _ H locs hp11 hw
  subst hp11
  refine mg_bif_ne X 53 45 d_LM_see_42 (by decide) rfl (fun _ => ?_) (fun b12 => absurd (mg_bt_in ht1.1 ht1.2) b12)
  refine mg_aload_n X 54 d_LM_see_53 (lv_at hl 0 rfl) rfl ?_
  refine mg_get X hK hw 57 0 1 f_LM_19 rfl rfl d_LM_see_54 rfl ?_
  refine mg_iload_n X 58 d_LM_see_57 (lv_at hl 1 rfl) rfl ?_
  refine mg_iload_n X 59 d_LM_see_58 (lv_at hl 2 rfl) rfl ?_
  refine mg_iload_n X 60 d_LM_see_59 (lv_at hl 3 rfl) rfl ?_
  refine mg_iload X 62 d_LM_see_60 (lv_at hl 4 rfl) rfl ?_
  refine mg_callVv X hK hw hA 65 [5, 7, 8] 5 (fun g213 => [mg_ob aL 5 [.ref (h), .ref (hM), .ref (hF), .ref (aS), .ref (qp), .int (nI (pl))], mg_ob h 1 [.ref (qf), .ref (qm), .ref (qr), .int (nI (nf)), .int (nI (nc))], mg_ai K qf 6 fa, mg_ai K qm 6 mo, mg_ai K qr 6 rk, mg_ob hM 2 [.ref (qw), .ref (qra), .ref (qo), .ref (qt), .int (nI (nm)), .int (nI (g213))], mg_ai K qw 12 wt, mg_ai K qo 24 (va_up ol (m1 * 6 + p1) o1), mg_ai K qt 24 (va_up tl (m1 * 6 + p1) t1), mg_ob hF 3 [.ref (h), .ref (hM), .ref (qtb), .ref (ql)], mg_ai K ql 6 (fun _ => 0), mg_ai K qtb 256 tb]) rfl rfl (k_Ma_putSighting l D K hM qw qra qo qt nm sg ol tl p1 m1 o1 t1 (by omega) (by omega) (hS.1) (by first | exact hg | omega) (fun h9 => hg1 _ (by omega) h9)) g_LM_115 ⟨by decide, by decide⟩ ⟨rfl, rfl⟩ rfl rfl rfl hl.1 (rest := []) (As := [.int (nI (p1)), .int (nI (m1)), .int (nI (o1)), .int (nI (t1))]) rfl (Nat.le_of_ble_eq_true rfl) d_LM_see_62 ⟨Nat.zero_le _, Nat.zero_le _⟩ (fun _ => rfl) (fun _ => rfl) rfl ?_
  intro g213 H locs hu9 hw
  subst hu9
  refine mg_aload_n X 66 d_LM_see_65 (lv_at hl 0 rfl) rfl ?_
  refine mg_get X hK hw 69 0 2 f_LM_28 rfl rfl d_LM_see_66 rfl ?_
  refine mg_iload_n X 70 d_LM_see_69 (lv_at hl 2 rfl) rfl ?_
  refine mg_callVv X hK hw hA 73 [9, 10, 11, 1, 2, 3, 4, 5, 6, 7, 8] 9 (fun _ => [mg_ob aL 5 [.ref (h), .ref (hM), .ref (hF), .ref (aS), .ref (qp), .int (nI (pl))], mg_ob h 1 [.ref (qf), .ref (qm), .ref (qr), .int (nI (nf)), .int (nI (nc))], mg_ai K qf 6 fa, mg_ai K qm 6 mo, mg_ai K qr 6 rk, mg_ob hM 2 [.ref (qw), .ref (qra), .ref (qo), .ref (qt), .int (nI (nm)), .int (nI (if ol (m1 * 6 + p1) = 0 then sg + 1 else sg))], mg_ai K qw 12 wt, mg_ai K qo 24 (va_up ol (m1 * 6 + p1) o1), mg_ai K qt 24 (va_up tl (m1 * 6 + p1) t1), mg_ob hF 3 [.ref (h), .ref (hM), .ref (qtb), .ref (ql)], mg_ai K ql 6 (fun _ => 0), mg_ai K qtb 256 (fi_tb tb (fi_fit wt (va_up ol (m1 * 6 + p1) o1) (va_up tl (m1 * 6 + p1) t1) fa mo rk nf nc m1) m1 (2 ^ (2 * nc)))]) rfl rfl (k_Fi_renew l D K hF qtb ql h qf qm qr nf nc hM qw qra qo qt nm (if ol (m1 * 6 + p1) = 0 then sg + 1 else sg) fa mo rk wt (va_up ol (m1 * 6 + p1) o1) (va_up tl (m1 * 6 + p1) t1) tb m1 (by first | exact hF0 | omega) (sn_put hS ho1 ht1) (by omega) (hW8 m1 hm1)) g_LM_95 ⟨by decide, by decide⟩ ⟨rfl, rfl⟩ rfl rfl rfl hl.1 (rest := []) (As := [.int (nI (m1))]) rfl (Nat.le_of_ble_eq_true rfl) d_LM_see_70 ⟨Nat.zero_le _, Nat.zero_le _⟩ (fun _ => rfl) (fun _ => rfl) rfl ?_
  intro _ H locs hp15 hw
  exact mg_vret X hr hlk (()) (trivial) hw d_LM_see_73

set_option maxRecDepth 100000 in
set_option maxHeartbeats 4000000 in
theorem k_LM_unsee0 (l : Launch) (D : va_G) (K : Nat → ClassId) (aL : Nat) (h : Nat) (hM : Nat) (hF : Nat) (aS : Nat) (qp : Nat) (pl : Nat) (qf : Nat) (qm : Nat) (qr : Nat) (nf : Nat) (nc : Nat) (qw : Nat) (qra : Nat) (qo : Nat) (qt : Nat) (nm : Nat) (sg : Nat) (ol : Nat → Nat) (p1 : Nat) (m1 : Nat) (hnf : nf ≤ 3) (hnc : nc ≤ 3) (hn : nm ≤ 4) (hp1 : p1 < nf + nc) (hm1 : m1 < nm) (hol : ∀ k, k < 24 → ol k ≤ 3) (h0 : ol (m1 * 6 + p1) = 0) : mg_Mi l D K y_LM_unsee b_LM_unsee 3 (.boolean) ({ frames := 21, cells := 0, slots := 0, locals := 502 }) [.ref (aL), .int (nI (p1)), .int (nI (m1))] [mg_ob aL 5 [.ref (h), .ref (hM), .ref (hF), .ref (aS), .ref (qp), .int (nI (pl))], mg_ob h 1 [.ref (qf), .ref (qm), .ref (qr), .int (nI (nf)), .int (nI (nc))], mg_ob hM 2 [.ref (qw), .ref (qra), .ref (qo), .ref (qt), .int (nI (nm)), .int (nI (sg))], mg_ai K qo 24 ol] (fun (r : Int32) (_ : Unit) => r = nI (0)) (fun (_ : Unit) => [mg_ob aL 5 [.ref (h), .ref (hM), .ref (hF), .ref (aS), .ref (qp), .int (nI (pl))], mg_ob h 1 [.ref (qf), .ref (qm), .ref (qr), .int (nI (nf)), .int (nI (nc))], mg_ob hM 2 [.ref (qw), .ref (qra), .ref (qo), .ref (qt), .int (nI (nm)), .int (nI (sg))], mg_ai K qo 24 ol]) := by
  intro sz
  refine mg_entry (Qc := fun A => va_Qi (fun (r : Int32) (_ : Unit) => r = nI (0)) (mg_B D A (fun (_ : Unit) => [mg_ob aL 5 [.ref (h), .ref (hM), .ref (hF), .ref (aS), .ref (qp), .int (nI (pl))], mg_ob h 1 [.ref (qf), .ref (qm), .ref (qr), .int (nI (nf)), .int (nI (nc))], mg_ob hM 2 [.ref (qw), .ref (qra), .ref (qo), .ref (qt), .int (nI (nm)), .int (nI (sg))], mg_ai K qo 24 ol])) A) (by decide) (Nat.le_of_ble_eq_true rfl) ?_
  intro p e s m args below meth c A ls X hr hlk hnm hA hK hw hl
  have hl : lv_has ls 3 [(0, .ref (aL)), (1, .int (nI (p1))), (2, .int (nI (m1)))] := hl
  refine mg_aload_n X 1 d_LM_unsee_0 (lv_at hl 0 rfl) rfl ?_
  refine mg_get X hK hw 4 0 0 f_LM_12 rfl rfl d_LM_unsee_1 rfl ?_
  refine mg_iload_n X 5 d_LM_unsee_4 (lv_at hl 1 rfl) rfl ?_
  refine mg_callVi X hK hw hA 8 [1] 1 (fun _ => [mg_ob aL 5 [.ref (h), .ref (hM), .ref (hF), .ref (aS), .ref (qp), .int (nI (pl))], mg_ob h 1 [.ref (qf), .ref (qm), .ref (qr), .int (nI (nf)), .int (nI (nc))], mg_ob hM 2 [.ref (qw), .ref (qra), .ref (qo), .ref (qt), .int (nI (nm)), .int (nI (sg))], mg_ai K qo 24 ol]) rfl rfl (k_Fa_hasPerson l D K h qf qm qr nf nc (nI p1) (by first | exact hnf | omega) (by first | exact hnc | omega)) g_LM_67 ⟨by decide, by decide⟩ ⟨rfl, rfl⟩ rfl rfl rfl hl.1 (rest := []) (As := [.int (nI (p1))]) rfl (Nat.le_of_ble_eq_true rfl) d_LM_unsee_5 ⟨Nat.zero_le _, Nat.zero_le _⟩ (fun _ => rfl) (fun _ => rfl) rfl ?_
  intro r _ H locs hp2 hw
  subst hp2
  refine mg_bif_eq X 22 11 d_LM_unsee_8 (by decide) rfl (fun b3 => absurd (mg_lt_in hp1) b3) (fun _ => ?_)
  refine mg_aload_n X 12 d_LM_unsee_11 (lv_at hl 0 rfl) rfl ?_
  refine mg_get X hK hw 15 0 1 f_LM_19 rfl rfl d_LM_unsee_12 rfl ?_
  refine mg_iload_n X 16 d_LM_unsee_15 (lv_at hl 2 rfl) rfl ?_
  refine mg_callVi X hK hw hA 19 [2] 2 (fun _ => [mg_ob aL 5 [.ref (h), .ref (hM), .ref (hF), .ref (aS), .ref (qp), .int (nI (pl))], mg_ob h 1 [.ref (qf), .ref (qm), .ref (qr), .int (nI (nf)), .int (nI (nc))], mg_ob hM 2 [.ref (qw), .ref (qra), .ref (qo), .ref (qt), .int (nI (nm)), .int (nI (sg))], mg_ai K qo 24 ol]) rfl rfl (k_Ma_hasMarker l D K hM qw qra qo qt nm sg (nI m1) (by first | exact hn | omega)) g_LM_109 ⟨by decide, by decide⟩ ⟨rfl, rfl⟩ rfl rfl rfl hl.1 (rest := []) (As := [.int (nI (m1))]) rfl (Nat.le_of_ble_eq_true rfl) d_LM_unsee_16 ⟨Nat.zero_le _, Nat.zero_le _⟩ (fun _ => rfl) (fun _ => rfl) rfl ?_
  intro r _ H locs hp5 hw
  subst hp5
  refine mg_bif_ne X 30 22 d_LM_unsee_19 (by decide) rfl (fun _ => ?_) (fun b6 => absurd (mg_lt_in hm1) b6)
  refine mg_aload_n X 31 d_LM_unsee_30 (lv_at hl 0 rfl) rfl ?_
  refine mg_get X hK hw 34 0 1 f_LM_19 rfl rfl d_LM_unsee_31 rfl ?_
  refine mg_iload_n X 35 d_LM_unsee_34 (lv_at hl 1 rfl) rfl ?_
  refine mg_iload_n X 36 d_LM_unsee_35 (lv_at hl 2 rfl) rfl ?_
  refine mg_callVi X hK hw hA 39 [2, 3] 2 (fun _ => [mg_ob aL 5 [.ref (h), .ref (hM), .ref (hF), .ref (aS), .ref (qp), .int (nI (pl))], mg_ob h 1 [.ref (qf), .ref (qm), .ref (qr), .int (nI (nf)), .int (nI (nc))], mg_ob hM 2 [.ref (qw), .ref (qra), .ref (qo), .ref (qt), .int (nI (nm)), .int (nI (sg))], mg_ai K qo 24 ol]) rfl rfl (k_Ma_isSeen l D K hM qw qra qo qt nm sg ol p1 m1 (by omega) (by omega) (by first | exact hol | omega)) g_LM_119 ⟨by decide, by decide⟩ ⟨rfl, rfl⟩ rfl rfl rfl hl.1 (rest := []) (As := [.int (nI (p1)), .int (nI (m1))]) rfl (Nat.le_of_ble_eq_true rfl) d_LM_unsee_36 ⟨Nat.zero_le _, Nat.zero_le _⟩ (fun _ => rfl) (fun _ => rfl) rfl ?_
  intro r _ H locs hp8 hw
  subst hp8
  refine mg_bif_ne X 44 42 d_LM_unsee_39 (by decide) rfl (fun b9 => absurd b9 (fun q => q h0)) (fun _ => ?_)
  refine mg_iconst X 43 0 d_LM_unsee_42 mg_ci_0 rfl ?_
  exact mg_iret X hr hlk (mg_nz (by omega)) (()) (rfl) hw d_LM_unsee_43

set_option maxRecDepth 100000 in
set_option maxHeartbeats 4000000 in
theorem k_LM_unsee (l : Launch) (D : va_G) (K : Nat → ClassId) (aL : Nat) (h : Nat) (hM : Nat) (hF : Nat) (aS : Nat) (qp : Nat) (pl : Nat) (qf : Nat) (qm : Nat) (qr : Nat) (nf : Nat) (nc : Nat) (qtb : Nat) (ql : Nat) (qw : Nat) (qra : Nat) (qo : Nat) (qt : Nat) (nm : Nat) (sg : Nat) (fa : Nat → Nat) (mo : Nat → Nat) (rk : Nat → Nat) (wt : Nat → Nat) (ol : Nat → Nat) (tl : Nat → Nat) (tb : Nat → Nat) (p1 : Nat) (m1 : Nat) (hF0 : fm_ok nf nc fa mo rk) (hS : sn_ok ol tl) (hm4 : nm ≤ 4) (hW8 : ∀ k, k < nm → ma_wt wt k 1 + ma_wt wt k 2 + ma_wt wt k 3 = 8) (hp1 : p1 < nf + nc) (hm1 : m1 < nm) (hg : sg ≤ 24) (hg1 : ∀ k, k < 24 → ol k ≠ 0 → 1 ≤ sg) (h0 : ol (m1 * 6 + p1) ≠ 0) : mg_Mi l D K y_LM_unsee b_LM_unsee 3 (.boolean) ({ frames := 21, cells := 0, slots := 0, locals := 502 }) [.ref (aL), .int (nI (p1)), .int (nI (m1))] [mg_ob aL 5 [.ref (h), .ref (hM), .ref (hF), .ref (aS), .ref (qp), .int (nI (pl))], mg_ob h 1 [.ref (qf), .ref (qm), .ref (qr), .int (nI (nf)), .int (nI (nc))], mg_ai K qf 6 fa, mg_ai K qm 6 mo, mg_ai K qr 6 rk, mg_ob hM 2 [.ref (qw), .ref (qra), .ref (qo), .ref (qt), .int (nI (nm)), .int (nI (sg))], mg_ai K qw 12 wt, mg_ai K qo 24 ol, mg_ai K qt 24 tl, mg_ob hF 3 [.ref (h), .ref (hM), .ref (qtb), .ref (ql)], mg_ai K ql 6 (fun _ => 0), mg_ai K qtb 256 tb] (fun (r : Int32) (_ : Unit) => r = nI (1)) (fun (_ : Unit) => [mg_ob aL 5 [.ref (h), .ref (hM), .ref (hF), .ref (aS), .ref (qp), .int (nI (pl))], mg_ob h 1 [.ref (qf), .ref (qm), .ref (qr), .int (nI (nf)), .int (nI (nc))], mg_ai K qf 6 fa, mg_ai K qm 6 mo, mg_ai K qr 6 rk, mg_ob hM 2 [.ref (qw), .ref (qra), .ref (qo), .ref (qt), .int (nI (nm)), .int (nI (sg - 1))], mg_ai K qw 12 wt, mg_ai K qo 24 (va_up ol (m1 * 6 + p1) 0), mg_ai K qt 24 (va_up tl (m1 * 6 + p1) 0), mg_ob hF 3 [.ref (h), .ref (hM), .ref (qtb), .ref (ql)], mg_ai K ql 6 (fun _ => 0), mg_ai K qtb 256 (fi_tb tb (fi_fit wt (va_up ol (m1 * 6 + p1) 0) (va_up tl (m1 * 6 + p1) 0) fa mo rk nf nc m1) m1 (2 ^ (2 * nc)))]) := by
  intro sz
  refine mg_entry (Qc := fun A => va_Qi (fun (r : Int32) (_ : Unit) => r = nI (1)) (mg_B D A (fun (_ : Unit) => [mg_ob aL 5 [.ref (h), .ref (hM), .ref (hF), .ref (aS), .ref (qp), .int (nI (pl))], mg_ob h 1 [.ref (qf), .ref (qm), .ref (qr), .int (nI (nf)), .int (nI (nc))], mg_ai K qf 6 fa, mg_ai K qm 6 mo, mg_ai K qr 6 rk, mg_ob hM 2 [.ref (qw), .ref (qra), .ref (qo), .ref (qt), .int (nI (nm)), .int (nI (sg - 1))], mg_ai K qw 12 wt, mg_ai K qo 24 (va_up ol (m1 * 6 + p1) 0), mg_ai K qt 24 (va_up tl (m1 * 6 + p1) 0), mg_ob hF 3 [.ref (h), .ref (hM), .ref (qtb), .ref (ql)], mg_ai K ql 6 (fun _ => 0), mg_ai K qtb 256 (fi_tb tb (fi_fit wt (va_up ol (m1 * 6 + p1) 0) (va_up tl (m1 * 6 + p1) 0) fa mo rk nf nc m1) m1 (2 ^ (2 * nc)))])) A) (by decide) (Nat.le_of_ble_eq_true rfl) ?_
  intro p e s m args below meth c A ls X hr hlk hnm hA hK hw hl
  have hl : lv_has ls 3 [(0, .ref (aL)), (1, .int (nI (p1))), (2, .int (nI (m1)))] := hl
  have hf1 := hF0.1
  have hf2 := hF0.2.1
  have hw6 := mg_ways hf2
  refine mg_aload_n X 1 d_LM_unsee_0 (lv_at hl 0 rfl) rfl ?_
  refine mg_get X hK hw 4 0 0 f_LM_12 rfl rfl d_LM_unsee_1 rfl ?_
  refine mg_iload_n X 5 d_LM_unsee_4 (lv_at hl 1 rfl) rfl ?_
  refine mg_callVi X hK hw hA 8 [1] 1 (fun _ => [mg_ob aL 5 [.ref (h), .ref (hM), .ref (hF), .ref (aS), .ref (qp), .int (nI (pl))], mg_ob h 1 [.ref (qf), .ref (qm), .ref (qr), .int (nI (nf)), .int (nI (nc))], mg_ai K qf 6 fa, mg_ai K qm 6 mo, mg_ai K qr 6 rk, mg_ob hM 2 [.ref (qw), .ref (qra), .ref (qo), .ref (qt), .int (nI (nm)), .int (nI (sg))], mg_ai K qw 12 wt, mg_ai K qo 24 ol, mg_ai K qt 24 tl, mg_ob hF 3 [.ref (h), .ref (hM), .ref (qtb), .ref (ql)], mg_ai K ql 6 (fun _ => 0), mg_ai K qtb 256 tb]) rfl rfl (k_Fa_hasPerson l D K h qf qm qr nf nc (nI p1) (hf1) (hf2)) g_LM_67 ⟨by decide, by decide⟩ ⟨rfl, rfl⟩ rfl rfl rfl hl.1 (rest := []) (As := [.int (nI (p1))]) rfl (Nat.le_of_ble_eq_true rfl) d_LM_unsee_5 ⟨Nat.zero_le _, Nat.zero_le _⟩ (fun _ => rfl) (fun _ => rfl) rfl ?_
  intro r _ H locs hp2 hw
  subst hp2
  refine mg_bif_eq X 22 11 d_LM_unsee_8 (by decide) rfl (fun b3 => absurd (mg_lt_in hp1) b3) (fun _ => ?_)
  refine mg_aload_n X 12 d_LM_unsee_11 (lv_at hl 0 rfl) rfl ?_
  refine mg_get X hK hw 15 0 1 f_LM_19 rfl rfl d_LM_unsee_12 rfl ?_
  refine mg_iload_n X 16 d_LM_unsee_15 (lv_at hl 2 rfl) rfl ?_
  refine mg_callVi X hK hw hA 19 [5] 5 (fun _ => [mg_ob aL 5 [.ref (h), .ref (hM), .ref (hF), .ref (aS), .ref (qp), .int (nI (pl))], mg_ob h 1 [.ref (qf), .ref (qm), .ref (qr), .int (nI (nf)), .int (nI (nc))], mg_ai K qf 6 fa, mg_ai K qm 6 mo, mg_ai K qr 6 rk, mg_ob hM 2 [.ref (qw), .ref (qra), .ref (qo), .ref (qt), .int (nI (nm)), .int (nI (sg))], mg_ai K qw 12 wt, mg_ai K qo 24 ol, mg_ai K qt 24 tl, mg_ob hF 3 [.ref (h), .ref (hM), .ref (qtb), .ref (ql)], mg_ai K ql 6 (fun _ => 0), mg_ai K qtb 256 tb]) rfl rfl (k_Ma_hasMarker l D K hM qw qra qo qt nm sg (nI m1) (hm4)) g_LM_109 ⟨by decide, by decide⟩ ⟨rfl, rfl⟩ rfl rfl rfl hl.1 (rest := []) (As := [.int (nI (m1))]) rfl (Nat.le_of_ble_eq_true rfl) d_LM_unsee_16 ⟨Nat.zero_le _, Nat.zero_le _⟩ (fun _ => rfl) (fun _ => rfl) rfl ?_
  intro r _ H locs hp5 hw
  subst hp5
  refine mg_bif_ne X 30 22 d_LM_unsee_19 (by decide) rfl (fun _ => ?_) (fun b6 => absurd (mg_lt_in hm1) b6)
  refine mg_aload_n X 31 d_LM_unsee_30 (lv_at hl 0 rfl) rfl ?_
  refine mg_get X hK hw 34 0 1 f_LM_19 rfl rfl d_LM_unsee_31 rfl ?_
  refine mg_iload_n X 35 d_LM_unsee_34 (lv_at hl 1 rfl) rfl ?_
  refine mg_iload_n X 36 d_LM_unsee_35 (lv_at hl 2 rfl) rfl ?_
  refine mg_callVi X hK hw hA 39 [5, 7] 5 (fun _ => [mg_ob aL 5 [.ref (h), .ref (hM), .ref (hF), .ref (aS), .ref (qp), .int (nI (pl))], mg_ob h 1 [.ref (qf), .ref (qm), .ref (qr), .int (nI (nf)), .int (nI (nc))], mg_ai K qf 6 fa, mg_ai K qm 6 mo, mg_ai K qr 6 rk, mg_ob hM 2 [.ref (qw), .ref (qra), .ref (qo), .ref (qt), .int (nI (nm)), .int (nI (sg))], mg_ai K qw 12 wt, mg_ai K qo 24 ol, mg_ai K qt 24 tl, mg_ob hF 3 [.ref (h), .ref (hM), .ref (qtb), .ref (ql)], mg_ai K ql 6 (fun _ => 0), mg_ai K qtb 256 tb]) rfl rfl (k_Ma_isSeen l D K hM qw qra qo qt nm sg ol p1 m1 (by omega) (by omega) (hS.1)) g_LM_119 ⟨by decide, by decide⟩ ⟨rfl, rfl⟩ rfl rfl rfl hl.1 (rest := []) (As := [.int (nI (p1)), .int (nI (m1))]) rfl (Nat.le_of_ble_eq_true rfl) d_LM_unsee_36 ⟨Nat.zero_le _, Nat.zero_le _⟩ (fun _ => rfl) (fun _ => rfl) rfl ?_
  intro r _ H locs hp8 hw
  subst hp8
  refine mg_bif_ne X 44 42 d_LM_unsee_39 (by decide) rfl (fun _ => ?_) (fun b9 => absurd (h0) b9)
  refine mg_aload_n X 45 d_LM_unsee_44 (lv_at hl 0 rfl) rfl ?_
  refine mg_get X hK hw 48 0 1 f_LM_19 rfl rfl d_LM_unsee_45 rfl ?_
  refine mg_iload_n X 49 d_LM_unsee_48 (lv_at hl 1 rfl) rfl ?_
  refine mg_iload_n X 50 d_LM_unsee_49 (lv_at hl 2 rfl) rfl ?_
  refine mg_callVv X hK hw hA 53 [5, 7, 8] 5 (fun g210 => [mg_ob aL 5 [.ref (h), .ref (hM), .ref (hF), .ref (aS), .ref (qp), .int (nI (pl))], mg_ob h 1 [.ref (qf), .ref (qm), .ref (qr), .int (nI (nf)), .int (nI (nc))], mg_ai K qf 6 fa, mg_ai K qm 6 mo, mg_ai K qr 6 rk, mg_ob hM 2 [.ref (qw), .ref (qra), .ref (qo), .ref (qt), .int (nI (nm)), .int (nI (g210))], mg_ai K qw 12 wt, mg_ai K qo 24 (va_up ol (m1 * 6 + p1) 0), mg_ai K qt 24 (va_up tl (m1 * 6 + p1) 0), mg_ob hF 3 [.ref (h), .ref (hM), .ref (qtb), .ref (ql)], mg_ai K ql 6 (fun _ => 0), mg_ai K qtb 256 tb]) rfl rfl (k_Ma_dropSighting l D K hM qw qra qo qt nm sg ol tl p1 m1 (by omega) (by omega) (hS.1) (by first | exact hg | omega) (fun h9 => hg1 _ (by omega) h9)) g_LM_123 ⟨by decide, by decide⟩ ⟨rfl, rfl⟩ rfl rfl rfl hl.1 (rest := []) (As := [.int (nI (p1)), .int (nI (m1))]) rfl (Nat.le_of_ble_eq_true rfl) d_LM_unsee_50 ⟨Nat.zero_le _, Nat.zero_le _⟩ (fun _ => rfl) (fun _ => rfl) rfl ?_
  intro g210 H locs hu9 hw
  rw [if_neg h0] at hu9
  subst hu9
  refine mg_aload_n X 54 d_LM_unsee_53 (lv_at hl 0 rfl) rfl ?_
  refine mg_get X hK hw 57 0 2 f_LM_28 rfl rfl d_LM_unsee_54 rfl ?_
  refine mg_iload_n X 58 d_LM_unsee_57 (lv_at hl 2 rfl) rfl ?_
  refine mg_callVv X hK hw hA 61 [9, 10, 11, 1, 2, 3, 4, 5, 6, 7, 8] 9 (fun _ => [mg_ob aL 5 [.ref (h), .ref (hM), .ref (hF), .ref (aS), .ref (qp), .int (nI (pl))], mg_ob h 1 [.ref (qf), .ref (qm), .ref (qr), .int (nI (nf)), .int (nI (nc))], mg_ai K qf 6 fa, mg_ai K qm 6 mo, mg_ai K qr 6 rk, mg_ob hM 2 [.ref (qw), .ref (qra), .ref (qo), .ref (qt), .int (nI (nm)), .int (nI (sg - 1))], mg_ai K qw 12 wt, mg_ai K qo 24 (va_up ol (m1 * 6 + p1) 0), mg_ai K qt 24 (va_up tl (m1 * 6 + p1) 0), mg_ob hF 3 [.ref (h), .ref (hM), .ref (qtb), .ref (ql)], mg_ai K ql 6 (fun _ => 0), mg_ai K qtb 256 (fi_tb tb (fi_fit wt (va_up ol (m1 * 6 + p1) 0) (va_up tl (m1 * 6 + p1) 0) fa mo rk nf nc m1) m1 (2 ^ (2 * nc)))]) rfl rfl (k_Fi_renew l D K hF qtb ql h qf qm qr nf nc hM qw qra qo qt nm (sg - 1) fa mo rk wt (va_up ol (m1 * 6 + p1) 0) (va_up tl (m1 * 6 + p1) 0) tb m1 (by first | exact hF0 | omega) (sn_drop hS) (by omega) (hW8 m1 hm1)) g_LM_95 ⟨by decide, by decide⟩ ⟨rfl, rfl⟩ rfl rfl rfl hl.1 (rest := []) (As := [.int (nI (m1))]) rfl (Nat.le_of_ble_eq_true rfl) d_LM_unsee_58 ⟨Nat.zero_le _, Nat.zero_le _⟩ (fun _ => rfl) (fun _ => rfl) rfl ?_
  intro _ H locs hp12 hw
  refine mg_iconst X 62 1 d_LM_unsee_61 mg_ci_1 rfl ?_
  exact mg_iret X hr hlk (mg_nz (by omega)) (()) (rfl) hw d_LM_unsee_62

set_option maxRecDepth 100000 in
set_option maxHeartbeats 4000000 in
theorem k_LM_exponent (l : Launch) (D : va_G) (K : Nat → ClassId) (aL : Nat) (h : Nat) (hM : Nat) (hF : Nat) (aS : Nat) (qp : Nat) (pl : Nat) (qf : Nat) (qm : Nat) (qr : Nat) (nf : Nat) (nc : Nat) (qw : Nat) (qra : Nat) (qo : Nat) (qt : Nat) (nm : Nat) (sg : Nat) (hnc : nc ≤ 3) (hn : nm ≤ 4) : mg_Mi l D K y_LM_exponent b_LM_exponent 1 (.int) ({ frames := 1, cells := 0, slots := 0, locals := 20 }) [.ref (aL)] [mg_ob aL 5 [.ref (h), .ref (hM), .ref (hF), .ref (aS), .ref (qp), .int (nI (pl))], mg_ob h 1 [.ref (qf), .ref (qm), .ref (qr), .int (nI (nf)), .int (nI (nc))], mg_ob hM 2 [.ref (qw), .ref (qra), .ref (qo), .ref (qt), .int (nI (nm)), .int (nI (sg))]] (fun (r : Int32) (_ : Unit) => r = nI (2 * nc + 6 * nf * nm + 8 * nc * (nm - 1))) (fun (_ : Unit) => [mg_ob aL 5 [.ref (h), .ref (hM), .ref (hF), .ref (aS), .ref (qp), .int (nI (pl))], mg_ob h 1 [.ref (qf), .ref (qm), .ref (qr), .int (nI (nf)), .int (nI (nc))], mg_ob hM 2 [.ref (qw), .ref (qra), .ref (qo), .ref (qt), .int (nI (nm)), .int (nI (sg))]]) := by
  intro sz
  refine mg_entry (Qc := fun A => va_Qi (fun (r : Int32) (_ : Unit) => r = nI (2 * nc + 6 * nf * nm + 8 * nc * (nm - 1))) (mg_B D A (fun (_ : Unit) => [mg_ob aL 5 [.ref (h), .ref (hM), .ref (hF), .ref (aS), .ref (qp), .int (nI (pl))], mg_ob h 1 [.ref (qf), .ref (qm), .ref (qr), .int (nI (nf)), .int (nI (nc))], mg_ob hM 2 [.ref (qw), .ref (qra), .ref (qo), .ref (qt), .int (nI (nm)), .int (nI (sg))]])) A) (by decide) (Nat.le_of_ble_eq_true rfl) ?_
  intro p e s m args below meth c A ls X hr hlk hnm hA hK hw hl
  have hl : lv_has ls 1 [(0, .ref (aL))] := hl
  refine mg_iconst X 1 2 d_LM_exponent_0 mg_ci_2 rfl ?_
  refine mg_aload_n X 2 d_LM_exponent_1 (lv_at hl 0 rfl) rfl ?_
  refine mg_get X hK hw 5 0 0 f_LM_12 rfl rfl d_LM_exponent_2 rfl ?_
  refine mg_get X hK hw 8 1 4 f_LM_74 rfl rfl d_LM_exponent_5 rfl ?_
  refine mg_imul X 9 (nI (2 * nc)) d_LM_exponent_8 (pk_mul _ _) rfl ?_
  refine mg_bipush X 11 6 d_LM_exponent_9 mg_cb_6 rfl ?_
  refine mg_aload_n X 12 d_LM_exponent_11 (lv_at hl 0 rfl) rfl ?_
  refine mg_get X hK hw 15 0 0 f_LM_12 rfl rfl d_LM_exponent_12 rfl ?_
  refine mg_get X hK hw 18 1 3 f_LM_51 rfl rfl d_LM_exponent_15 rfl ?_
  refine mg_imul X 19 (nI (6 * nf)) d_LM_exponent_18 (pk_mul _ _) rfl ?_
  refine mg_aload_n X 20 d_LM_exponent_19 (lv_at hl 0 rfl) rfl ?_
  refine mg_get X hK hw 23 0 1 f_LM_19 rfl rfl d_LM_exponent_20 rfl ?_
  refine mg_get X hK hw 26 2 4 f_LM_88 rfl rfl d_LM_exponent_23 rfl ?_
  refine mg_imul X 27 (nI ((6 * nf) * nm)) d_LM_exponent_26 (pk_mul _ _) rfl ?_
  refine mg_iadd X 28 (nI ((2 * nc) + ((6 * nf) * nm))) d_LM_exponent_27 (nI_add _ _) rfl ?_
  refine mg_bipush X 30 8 d_LM_exponent_28 mg_cb_8 rfl ?_
  refine mg_aload_n X 31 d_LM_exponent_30 (lv_at hl 0 rfl) rfl ?_
  refine mg_get X hK hw 34 0 0 f_LM_12 rfl rfl d_LM_exponent_31 rfl ?_
  refine mg_get X hK hw 37 1 4 f_LM_74 rfl rfl d_LM_exponent_34 rfl ?_
  refine mg_imul X 38 (nI (8 * nc)) d_LM_exponent_37 (pk_mul _ _) rfl ?_
  refine mg_aload_n X 39 d_LM_exponent_38 (lv_at hl 0 rfl) rfl ?_
  refine mg_get X hK hw 42 0 1 f_LM_19 rfl rfl d_LM_exponent_39 rfl ?_
  refine mg_callVi X hK hw hA 45 [2] 2 (fun _ => [mg_ob aL 5 [.ref (h), .ref (hM), .ref (hF), .ref (aS), .ref (qp), .int (nI (pl))], mg_ob h 1 [.ref (qf), .ref (qm), .ref (qr), .int (nI (nf)), .int (nI (nc))], mg_ob hM 2 [.ref (qw), .ref (qra), .ref (qo), .ref (qt), .int (nI (nm)), .int (nI (sg))]]) rfl rfl (k_Ma_gaps l D K hM qw qra qo qt nm sg (by first | exact hn | omega)) g_LM_190 ⟨by decide, by decide⟩ ⟨rfl, rfl⟩ rfl rfl rfl hl.1 (rest := [.int (nI (8 * nc)), .int (nI ((2 * nc) + ((6 * nf) * nm)))]) (As := []) rfl (Nat.le_of_ble_eq_true rfl) d_LM_exponent_42 ⟨Nat.zero_le _, Nat.zero_le _⟩ (fun _ => rfl) (fun _ => rfl) rfl ?_
  intro r _ H locs hp2 hw
  subst hp2
  refine mg_imul X 46 (nI ((8 * nc) * (nm - 1))) d_LM_exponent_45 (pk_mul _ _) rfl ?_
  refine mg_iadd X 47 (nI (((2 * nc) + ((6 * nf) * nm)) + ((8 * nc) * (nm - 1)))) d_LM_exponent_46 (nI_add _ _) rfl ?_
  exact mg_iret X hr hlk (rfl) (()) (rfl) hw d_LM_exponent_47

set_option maxRecDepth 100000 in
set_option maxHeartbeats 4000000 in
theorem k_LM_count0 (l : Launch) (D : va_G) (K : Nat → ClassId) (aL : Nat) (h : Nat) (hM : Nat) (hF : Nat) (aS : Nat) (qp : Nat) (pl : Nat) (qf : Nat) (qm : Nat) (qr : Nat) (nf : Nat) (nc : Nat) (qw : Nat) (qra : Nat) (qo : Nat) (qt : Nat) (nm : Nat) (sg : Nat) (hnc : nc ≤ 3) (hn : nm ≤ 4) : mg_Mi l D K y_LM_count b_LM_count 2 (.int) ({ frames := 2, cells := 0, slots := 0, locals := 40 }) [.ref (aL), .int (nI (0))] [mg_ob aL 5 [.ref (h), .ref (hM), .ref (hF), .ref (aS), .ref (qp), .int (nI (pl))], mg_ob h 1 [.ref (qf), .ref (qm), .ref (qr), .int (nI (nf)), .int (nI (nc))], mg_ob hM 2 [.ref (qw), .ref (qra), .ref (qo), .ref (qt), .int (nI (nm)), .int (nI (sg))]] (fun (r : Int32) (_ : Unit) => r = nI (nf + nc)) (fun (_ : Unit) => [mg_ob aL 5 [.ref (h), .ref (hM), .ref (hF), .ref (aS), .ref (qp), .int (nI (pl))], mg_ob h 1 [.ref (qf), .ref (qm), .ref (qr), .int (nI (nf)), .int (nI (nc))], mg_ob hM 2 [.ref (qw), .ref (qra), .ref (qo), .ref (qt), .int (nI (nm)), .int (nI (sg))]]) := by
  intro sz
  refine mg_entry (Qc := fun A => va_Qi (fun (r : Int32) (_ : Unit) => r = nI (nf + nc)) (mg_B D A (fun (_ : Unit) => [mg_ob aL 5 [.ref (h), .ref (hM), .ref (hF), .ref (aS), .ref (qp), .int (nI (pl))], mg_ob h 1 [.ref (qf), .ref (qm), .ref (qr), .int (nI (nf)), .int (nI (nc))], mg_ob hM 2 [.ref (qw), .ref (qra), .ref (qo), .ref (qt), .int (nI (nm)), .int (nI (sg))]])) A) (by decide) (Nat.le_of_ble_eq_true rfl) ?_
  intro p e s m args below meth c A ls X hr hlk hnm hA hK hw hl
  have hl : lv_has ls 2 [(0, .ref (aL)), (1, .int (nI (0)))] := hl
  refine mg_iload_n X 1 d_LM_count_0 (lv_at hl 1 rfl) rfl ?_
  refine mg_tsin X 40 (off := 39) d_LM_count_1 (by decide +kernel) (by decide +kernel) (by decide +kernel) (by decide) ?_
  refine mg_aload_n X 41 d_LM_count_40 (lv_at hl 0 rfl) rfl ?_
  refine mg_get X hK hw 44 0 0 f_LM_12 rfl rfl d_LM_count_41 rfl ?_
  refine mg_callVi X hK hw hA 47 [1] 1 (fun _ => [mg_ob aL 5 [.ref (h), .ref (hM), .ref (hF), .ref (aS), .ref (qp), .int (nI (pl))], mg_ob h 1 [.ref (qf), .ref (qm), .ref (qr), .int (nI (nf)), .int (nI (nc))], mg_ob hM 2 [.ref (qw), .ref (qra), .ref (qo), .ref (qt), .int (nI (nm)), .int (nI (sg))]]) rfl rfl (k_Fa_persons l D K h qf qm qr nf nc ) g_LM_127 ⟨by decide, by decide⟩ ⟨rfl, rfl⟩ rfl rfl rfl hl.1 (rest := []) (As := []) rfl (Nat.le_of_ble_eq_true rfl) d_LM_count_44 ⟨Nat.zero_le _, Nat.zero_le _⟩ (fun _ => rfl) (fun _ => rfl) rfl ?_
  intro r _ H locs hp2 hw
  subst hp2
  exact mg_iret X hr hlk (rfl) (()) (rfl) hw d_LM_count_47

set_option maxRecDepth 100000 in
set_option maxHeartbeats 4000000 in
theorem k_LM_count1 (l : Launch) (D : va_G) (K : Nat → ClassId) (aL : Nat) (h : Nat) (hM : Nat) (hF : Nat) (aS : Nat) (qp : Nat) (pl : Nat) (qf : Nat) (qm : Nat) (qr : Nat) (nf : Nat) (nc : Nat) (qw : Nat) (qra : Nat) (qo : Nat) (qt : Nat) (nm : Nat) (sg : Nat) (hnc : nc ≤ 3) (hn : nm ≤ 4) : mg_Mi l D K y_LM_count b_LM_count 2 (.int) ({ frames := 2, cells := 0, slots := 0, locals := 40 }) [.ref (aL), .int (nI (1))] [mg_ob aL 5 [.ref (h), .ref (hM), .ref (hF), .ref (aS), .ref (qp), .int (nI (pl))], mg_ob h 1 [.ref (qf), .ref (qm), .ref (qr), .int (nI (nf)), .int (nI (nc))], mg_ob hM 2 [.ref (qw), .ref (qra), .ref (qo), .ref (qt), .int (nI (nm)), .int (nI (sg))]] (fun (r : Int32) (_ : Unit) => r = nI (nf)) (fun (_ : Unit) => [mg_ob aL 5 [.ref (h), .ref (hM), .ref (hF), .ref (aS), .ref (qp), .int (nI (pl))], mg_ob h 1 [.ref (qf), .ref (qm), .ref (qr), .int (nI (nf)), .int (nI (nc))], mg_ob hM 2 [.ref (qw), .ref (qra), .ref (qo), .ref (qt), .int (nI (nm)), .int (nI (sg))]]) := by
  intro sz
  refine mg_entry (Qc := fun A => va_Qi (fun (r : Int32) (_ : Unit) => r = nI (nf)) (mg_B D A (fun (_ : Unit) => [mg_ob aL 5 [.ref (h), .ref (hM), .ref (hF), .ref (aS), .ref (qp), .int (nI (pl))], mg_ob h 1 [.ref (qf), .ref (qm), .ref (qr), .int (nI (nf)), .int (nI (nc))], mg_ob hM 2 [.ref (qw), .ref (qra), .ref (qo), .ref (qt), .int (nI (nm)), .int (nI (sg))]])) A) (by decide) (Nat.le_of_ble_eq_true rfl) ?_
  intro p e s m args below meth c A ls X hr hlk hnm hA hK hw hl
  have hl : lv_has ls 2 [(0, .ref (aL)), (1, .int (nI (1)))] := hl
  refine mg_iload_n X 1 d_LM_count_0 (lv_at hl 1 rfl) rfl ?_
  refine mg_tsin X 48 (off := 47) d_LM_count_1 (by decide +kernel) (by decide +kernel) (by decide +kernel) (by decide) ?_
  refine mg_aload_n X 49 d_LM_count_48 (lv_at hl 0 rfl) rfl ?_
  refine mg_get X hK hw 52 0 0 f_LM_12 rfl rfl d_LM_count_49 rfl ?_
  refine mg_get X hK hw 55 1 3 f_LM_51 rfl rfl d_LM_count_52 rfl ?_
  exact mg_iret X hr hlk (rfl) (()) (rfl) hw d_LM_count_55

set_option maxRecDepth 100000 in
set_option maxHeartbeats 4000000 in
theorem k_LM_count2 (l : Launch) (D : va_G) (K : Nat → ClassId) (aL : Nat) (h : Nat) (hM : Nat) (hF : Nat) (aS : Nat) (qp : Nat) (pl : Nat) (qf : Nat) (qm : Nat) (qr : Nat) (nf : Nat) (nc : Nat) (qw : Nat) (qra : Nat) (qo : Nat) (qt : Nat) (nm : Nat) (sg : Nat) (hnc : nc ≤ 3) (hn : nm ≤ 4) : mg_Mi l D K y_LM_count b_LM_count 2 (.int) ({ frames := 2, cells := 0, slots := 0, locals := 40 }) [.ref (aL), .int (nI (2))] [mg_ob aL 5 [.ref (h), .ref (hM), .ref (hF), .ref (aS), .ref (qp), .int (nI (pl))], mg_ob h 1 [.ref (qf), .ref (qm), .ref (qr), .int (nI (nf)), .int (nI (nc))], mg_ob hM 2 [.ref (qw), .ref (qra), .ref (qo), .ref (qt), .int (nI (nm)), .int (nI (sg))]] (fun (r : Int32) (_ : Unit) => r = nI (nc)) (fun (_ : Unit) => [mg_ob aL 5 [.ref (h), .ref (hM), .ref (hF), .ref (aS), .ref (qp), .int (nI (pl))], mg_ob h 1 [.ref (qf), .ref (qm), .ref (qr), .int (nI (nf)), .int (nI (nc))], mg_ob hM 2 [.ref (qw), .ref (qra), .ref (qo), .ref (qt), .int (nI (nm)), .int (nI (sg))]]) := by
  intro sz
  refine mg_entry (Qc := fun A => va_Qi (fun (r : Int32) (_ : Unit) => r = nI (nc)) (mg_B D A (fun (_ : Unit) => [mg_ob aL 5 [.ref (h), .ref (hM), .ref (hF), .ref (aS), .ref (qp), .int (nI (pl))], mg_ob h 1 [.ref (qf), .ref (qm), .ref (qr), .int (nI (nf)), .int (nI (nc))], mg_ob hM 2 [.ref (qw), .ref (qra), .ref (qo), .ref (qt), .int (nI (nm)), .int (nI (sg))]])) A) (by decide) (Nat.le_of_ble_eq_true rfl) ?_
  intro p e s m args below meth c A ls X hr hlk hnm hA hK hw hl
  have hl : lv_has ls 2 [(0, .ref (aL)), (1, .int (nI (2)))] := hl
  refine mg_iload_n X 1 d_LM_count_0 (lv_at hl 1 rfl) rfl ?_
  refine mg_tsin X 56 (off := 55) d_LM_count_1 (by decide +kernel) (by decide +kernel) (by decide +kernel) (by decide) ?_
  refine mg_aload_n X 57 d_LM_count_56 (lv_at hl 0 rfl) rfl ?_
  refine mg_get X hK hw 60 0 0 f_LM_12 rfl rfl d_LM_count_57 rfl ?_
  refine mg_get X hK hw 63 1 4 f_LM_74 rfl rfl d_LM_count_60 rfl ?_
  exact mg_iret X hr hlk (rfl) (()) (rfl) hw d_LM_count_63

set_option maxRecDepth 100000 in
set_option maxHeartbeats 4000000 in
theorem k_LM_count3 (l : Launch) (D : va_G) (K : Nat → ClassId) (aL : Nat) (h : Nat) (hM : Nat) (hF : Nat) (aS : Nat) (qp : Nat) (pl : Nat) (qf : Nat) (qm : Nat) (qr : Nat) (nf : Nat) (nc : Nat) (qw : Nat) (qra : Nat) (qo : Nat) (qt : Nat) (nm : Nat) (sg : Nat) (hnc : nc ≤ 3) (hn : nm ≤ 4) : mg_Mi l D K y_LM_count b_LM_count 2 (.int) ({ frames := 2, cells := 0, slots := 0, locals := 40 }) [.ref (aL), .int (nI (3))] [mg_ob aL 5 [.ref (h), .ref (hM), .ref (hF), .ref (aS), .ref (qp), .int (nI (pl))], mg_ob h 1 [.ref (qf), .ref (qm), .ref (qr), .int (nI (nf)), .int (nI (nc))], mg_ob hM 2 [.ref (qw), .ref (qra), .ref (qo), .ref (qt), .int (nI (nm)), .int (nI (sg))]] (fun (r : Int32) (_ : Unit) => r = nI (nm)) (fun (_ : Unit) => [mg_ob aL 5 [.ref (h), .ref (hM), .ref (hF), .ref (aS), .ref (qp), .int (nI (pl))], mg_ob h 1 [.ref (qf), .ref (qm), .ref (qr), .int (nI (nf)), .int (nI (nc))], mg_ob hM 2 [.ref (qw), .ref (qra), .ref (qo), .ref (qt), .int (nI (nm)), .int (nI (sg))]]) := by
  intro sz
  refine mg_entry (Qc := fun A => va_Qi (fun (r : Int32) (_ : Unit) => r = nI (nm)) (mg_B D A (fun (_ : Unit) => [mg_ob aL 5 [.ref (h), .ref (hM), .ref (hF), .ref (aS), .ref (qp), .int (nI (pl))], mg_ob h 1 [.ref (qf), .ref (qm), .ref (qr), .int (nI (nf)), .int (nI (nc))], mg_ob hM 2 [.ref (qw), .ref (qra), .ref (qo), .ref (qt), .int (nI (nm)), .int (nI (sg))]])) A) (by decide) (Nat.le_of_ble_eq_true rfl) ?_
  intro p e s m args below meth c A ls X hr hlk hnm hA hK hw hl
  have hl : lv_has ls 2 [(0, .ref (aL)), (1, .int (nI (3)))] := hl
  refine mg_iload_n X 1 d_LM_count_0 (lv_at hl 1 rfl) rfl ?_
  refine mg_tsin X 64 (off := 63) d_LM_count_1 (by decide +kernel) (by decide +kernel) (by decide +kernel) (by decide) ?_
  refine mg_aload_n X 65 d_LM_count_64 (lv_at hl 0 rfl) rfl ?_
  refine mg_get X hK hw 68 0 1 f_LM_19 rfl rfl d_LM_count_65 rfl ?_
  refine mg_get X hK hw 71 2 4 f_LM_88 rfl rfl d_LM_count_68 rfl ?_
  exact mg_iret X hr hlk (rfl) (()) (rfl) hw d_LM_count_71

set_option maxRecDepth 100000 in
set_option maxHeartbeats 4000000 in
theorem k_LM_count4 (l : Launch) (D : va_G) (K : Nat → ClassId) (aL : Nat) (h : Nat) (hM : Nat) (hF : Nat) (aS : Nat) (qp : Nat) (pl : Nat) (qf : Nat) (qm : Nat) (qr : Nat) (nf : Nat) (nc : Nat) (qw : Nat) (qra : Nat) (qo : Nat) (qt : Nat) (nm : Nat) (sg : Nat) (hnc : nc ≤ 3) (hn : nm ≤ 4) : mg_Mi l D K y_LM_count b_LM_count 2 (.int) ({ frames := 2, cells := 0, slots := 0, locals := 40 }) [.ref (aL), .int (nI (4))] [mg_ob aL 5 [.ref (h), .ref (hM), .ref (hF), .ref (aS), .ref (qp), .int (nI (pl))], mg_ob h 1 [.ref (qf), .ref (qm), .ref (qr), .int (nI (nf)), .int (nI (nc))], mg_ob hM 2 [.ref (qw), .ref (qra), .ref (qo), .ref (qt), .int (nI (nm)), .int (nI (sg))]] (fun (r : Int32) (_ : Unit) => r = nI (2 ^ (2 * nc))) (fun (_ : Unit) => [mg_ob aL 5 [.ref (h), .ref (hM), .ref (hF), .ref (aS), .ref (qp), .int (nI (pl))], mg_ob h 1 [.ref (qf), .ref (qm), .ref (qr), .int (nI (nf)), .int (nI (nc))], mg_ob hM 2 [.ref (qw), .ref (qra), .ref (qo), .ref (qt), .int (nI (nm)), .int (nI (sg))]]) := by
  intro sz
  refine mg_entry (Qc := fun A => va_Qi (fun (r : Int32) (_ : Unit) => r = nI (2 ^ (2 * nc))) (mg_B D A (fun (_ : Unit) => [mg_ob aL 5 [.ref (h), .ref (hM), .ref (hF), .ref (aS), .ref (qp), .int (nI (pl))], mg_ob h 1 [.ref (qf), .ref (qm), .ref (qr), .int (nI (nf)), .int (nI (nc))], mg_ob hM 2 [.ref (qw), .ref (qra), .ref (qo), .ref (qt), .int (nI (nm)), .int (nI (sg))]])) A) (by decide) (Nat.le_of_ble_eq_true rfl) ?_
  intro p e s m args below meth c A ls X hr hlk hnm hA hK hw hl
  have hl : lv_has ls 2 [(0, .ref (aL)), (1, .int (nI (4)))] := hl
  refine mg_iload_n X 1 d_LM_count_0 (lv_at hl 1 rfl) rfl ?_
  refine mg_tsin X 72 (off := 71) d_LM_count_1 (by decide +kernel) (by decide +kernel) (by decide +kernel) (by decide) ?_
  refine mg_aload_n X 73 d_LM_count_72 (lv_at hl 0 rfl) rfl ?_
  refine mg_get X hK hw 76 0 0 f_LM_12 rfl rfl d_LM_count_73 rfl ?_
  refine mg_callVi X hK hw hA 79 [1] 1 (fun _ => [mg_ob aL 5 [.ref (h), .ref (hM), .ref (hF), .ref (aS), .ref (qp), .int (nI (pl))], mg_ob h 1 [.ref (qf), .ref (qm), .ref (qr), .int (nI (nf)), .int (nI (nc))], mg_ob hM 2 [.ref (qw), .ref (qra), .ref (qo), .ref (qt), .int (nI (nm)), .int (nI (sg))]]) rfl rfl (k_Fa_ways l D K h qf qm qr nf nc (by first | exact hnc | omega)) g_LM_130 ⟨by decide, by decide⟩ ⟨rfl, rfl⟩ rfl rfl rfl hl.1 (rest := []) (As := []) rfl (Nat.le_of_ble_eq_true rfl) d_LM_count_76 ⟨Nat.zero_le _, Nat.zero_le _⟩ (fun _ => rfl) (fun _ => rfl) rfl ?_
  intro r _ H locs hp2 hw
  subst hp2
  exact mg_iret X hr hlk (rfl) (()) (rfl) hw d_LM_count_79

set_option maxRecDepth 100000 in
set_option maxHeartbeats 4000000 in
theorem k_LM_count5 (l : Launch) (D : va_G) (K : Nat → ClassId) (aL : Nat) (h : Nat) (hM : Nat) (hF : Nat) (aS : Nat) (qp : Nat) (pl : Nat) (qf : Nat) (qm : Nat) (qr : Nat) (nf : Nat) (nc : Nat) (qw : Nat) (qra : Nat) (qo : Nat) (qt : Nat) (nm : Nat) (sg : Nat) (hnc : nc ≤ 3) (hn : nm ≤ 4) : mg_Mi l D K y_LM_count b_LM_count 2 (.int) ({ frames := 2, cells := 0, slots := 0, locals := 40 }) [.ref (aL), .int (nI (5))] [mg_ob aL 5 [.ref (h), .ref (hM), .ref (hF), .ref (aS), .ref (qp), .int (nI (pl))], mg_ob h 1 [.ref (qf), .ref (qm), .ref (qr), .int (nI (nf)), .int (nI (nc))], mg_ob hM 2 [.ref (qw), .ref (qra), .ref (qo), .ref (qt), .int (nI (nm)), .int (nI (sg))]] (fun (r : Int32) (_ : Unit) => r = nI (2 * nc + 6 * nf * nm + 8 * nc * (nm - 1))) (fun (_ : Unit) => [mg_ob aL 5 [.ref (h), .ref (hM), .ref (hF), .ref (aS), .ref (qp), .int (nI (pl))], mg_ob h 1 [.ref (qf), .ref (qm), .ref (qr), .int (nI (nf)), .int (nI (nc))], mg_ob hM 2 [.ref (qw), .ref (qra), .ref (qo), .ref (qt), .int (nI (nm)), .int (nI (sg))]]) := by
  intro sz
  refine mg_entry (Qc := fun A => va_Qi (fun (r : Int32) (_ : Unit) => r = nI (2 * nc + 6 * nf * nm + 8 * nc * (nm - 1))) (mg_B D A (fun (_ : Unit) => [mg_ob aL 5 [.ref (h), .ref (hM), .ref (hF), .ref (aS), .ref (qp), .int (nI (pl))], mg_ob h 1 [.ref (qf), .ref (qm), .ref (qr), .int (nI (nf)), .int (nI (nc))], mg_ob hM 2 [.ref (qw), .ref (qra), .ref (qo), .ref (qt), .int (nI (nm)), .int (nI (sg))]])) A) (by decide) (Nat.le_of_ble_eq_true rfl) ?_
  intro p e s m args below meth c A ls X hr hlk hnm hA hK hw hl
  have hl : lv_has ls 2 [(0, .ref (aL)), (1, .int (nI (5)))] := hl
  refine mg_iload_n X 1 d_LM_count_0 (lv_at hl 1 rfl) rfl ?_
  refine mg_tsin X 80 (off := 79) d_LM_count_1 (by decide +kernel) (by decide +kernel) (by decide +kernel) (by decide) ?_
  refine mg_aload_n X 81 d_LM_count_80 (lv_at hl 0 rfl) rfl ?_
  refine mg_callVi X hK hw hA 84 [0, 1, 2] 0 (fun _ => [mg_ob aL 5 [.ref (h), .ref (hM), .ref (hF), .ref (aS), .ref (qp), .int (nI (pl))], mg_ob h 1 [.ref (qf), .ref (qm), .ref (qr), .int (nI (nf)), .int (nI (nc))], mg_ob hM 2 [.ref (qw), .ref (qra), .ref (qo), .ref (qt), .int (nI (nm)), .int (nI (sg))]]) rfl rfl (k_LM_exponent l D K aL h hM hF aS qp pl qf qm qr nf nc qw qra qo qt nm sg (by first | exact hnc | omega) (by first | exact hn | omega)) g_LM_133 ⟨by decide, by decide⟩ ⟨rfl, rfl⟩ rfl rfl rfl hl.1 (rest := []) (As := []) rfl (Nat.le_of_ble_eq_true rfl) d_LM_count_81 ⟨Nat.zero_le _, Nat.zero_le _⟩ (fun _ => rfl) (fun _ => rfl) rfl ?_
  intro r _ H locs hp2 hw
  subst hp2
  exact mg_iret X hr hlk (rfl) (()) (rfl) hw d_LM_count_84

set_option maxRecDepth 100000 in
set_option maxHeartbeats 4000000 in
theorem k_LM_countN (l : Launch) (D : va_G) (K : Nat → ClassId) (aL : Nat) (h : Nat) (hM : Nat) (hF : Nat) (aS : Nat) (qp : Nat) (pl : Nat) (qf : Nat) (qm : Nat) (qr : Nat) (nf : Nat) (nc : Nat) (qw : Nat) (qra : Nat) (qo : Nat) (qt : Nat) (nm : Nat) (sg : Nat) (x : Int32) (hnc : nc ≤ 3) (hn : nm ≤ 4) (hx : ¬ mg_lt x 6) : mg_Mi l D K y_LM_count b_LM_count 2 (.int) ({ frames := 2, cells := 0, slots := 0, locals := 40 }) [.ref (aL), .int (x)] [mg_ob aL 5 [.ref (h), .ref (hM), .ref (hF), .ref (aS), .ref (qp), .int (nI (pl))], mg_ob h 1 [.ref (qf), .ref (qm), .ref (qr), .int (nI (nf)), .int (nI (nc))], mg_ob hM 2 [.ref (qw), .ref (qra), .ref (qo), .ref (qt), .int (nI (nm)), .int (nI (sg))]] (fun (r : Int32) (_ : Unit) => r = nI (4294967295)) (fun (_ : Unit) => [mg_ob aL 5 [.ref (h), .ref (hM), .ref (hF), .ref (aS), .ref (qp), .int (nI (pl))], mg_ob h 1 [.ref (qf), .ref (qm), .ref (qr), .int (nI (nf)), .int (nI (nc))], mg_ob hM 2 [.ref (qw), .ref (qra), .ref (qo), .ref (qt), .int (nI (nm)), .int (nI (sg))]]) := by
  intro sz
  refine mg_entry (Qc := fun A => va_Qi (fun (r : Int32) (_ : Unit) => r = nI (4294967295)) (mg_B D A (fun (_ : Unit) => [mg_ob aL 5 [.ref (h), .ref (hM), .ref (hF), .ref (aS), .ref (qp), .int (nI (pl))], mg_ob h 1 [.ref (qf), .ref (qm), .ref (qr), .int (nI (nf)), .int (nI (nc))], mg_ob hM 2 [.ref (qw), .ref (qra), .ref (qo), .ref (qt), .int (nI (nm)), .int (nI (sg))]])) A) (by decide) (Nat.le_of_ble_eq_true rfl) ?_
  intro p e s m args below meth c A ls X hr hlk hnm hA hK hw hl
  have hl : lv_has ls 2 [(0, .ref (aL)), (1, .int (x))] := hl
  refine mg_iload_n X 1 d_LM_count_0 (lv_at hl 1 rfl) rfl ?_
  refine mg_tsout X 85 d_LM_count_1 (mg_out (n := 5) (by decide) hx) (by decide) ?_
  refine mg_iconst X 86 4294967295 d_LM_count_85 mg_ci_m1 rfl ?_
  exact mg_iret X hr hlk (rfl) (()) (rfl) hw d_LM_count_86

set_option maxRecDepth 100000 in
set_option maxHeartbeats 4000000 in
theorem k_LM_count (l : Launch) (D : va_G) (K : Nat → ClassId) (aL : Nat) (h : Nat) (hM : Nat) (hF : Nat) (aS : Nat) (qp : Nat) (pl : Nat) (qf : Nat) (qm : Nat) (qr : Nat) (nf : Nat) (nc : Nat) (qw : Nat) (qra : Nat) (qo : Nat) (qt : Nat) (nm : Nat) (sg : Nat) (x : Int32) (hnc : nc ≤ 3) (hn : nm ≤ 4) : mg_Mi l D K y_LM_count b_LM_count 2 (.int) ({ frames := 2, cells := 0, slots := 0, locals := 40 }) [.ref (aL), .int (x)] [mg_ob aL 5 [.ref (h), .ref (hM), .ref (hF), .ref (aS), .ref (qp), .int (nI (pl))], mg_ob h 1 [.ref (qf), .ref (qm), .ref (qr), .int (nI (nf)), .int (nI (nc))], mg_ob hM 2 [.ref (qw), .ref (qra), .ref (qo), .ref (qt), .int (nI (nm)), .int (nI (sg))]] (fun (r : Int32) (_ : Unit) => r = nI (mg_cnt x (nf + nc) nf nc nm)) (fun (_ : Unit) => [mg_ob aL 5 [.ref (h), .ref (hM), .ref (hF), .ref (aS), .ref (qp), .int (nI (pl))], mg_ob h 1 [.ref (qf), .ref (qm), .ref (qr), .int (nI (nf)), .int (nI (nc))], mg_ob hM 2 [.ref (qw), .ref (qra), .ref (qo), .ref (qt), .int (nI (nm)), .int (nI (sg))]]) := by
  by_cases h9 : mg_lt x 6
  · obtain ⟨j, hj, rfl⟩ := h9
    rcases (show j = 0 ∨ j = 1 ∨ j = 2 ∨ j = 3 ∨ j = 4 ∨ j = 5 by omega) with e | e | e | e | e | e <;> subst e
    · exact k_LM_count0 l D K aL h hM hF aS qp pl qf qm qr nf nc qw qra qo qt nm sg hnc hn
    · exact k_LM_count1 l D K aL h hM hF aS qp pl qf qm qr nf nc qw qra qo qt nm sg hnc hn
    · exact k_LM_count2 l D K aL h hM hF aS qp pl qf qm qr nf nc qw qra qo qt nm sg hnc hn
    · exact k_LM_count3 l D K aL h hM hF aS qp pl qf qm qr nf nc qw qra qo qt nm sg hnc hn
    · exact k_LM_count4 l D K aL h hM hF aS qp pl qf qm qr nf nc qw qra qo qt nm sg hnc hn
    · exact k_LM_count5 l D K aL h hM hF aS qp pl qf qm qr nf nc qw qra qo qt nm sg hnc hn
  · rw [mg_cntN h9]
    exact k_LM_countN l D K aL h hM hF aS qp pl qf qm qr nf nc qw qra qo qt nm sg x hnc hn h9

set_option maxRecDepth 100000 in
set_option maxHeartbeats 4000000 in
theorem k_LM_origin (l : Launch) (D : va_G) (K : Nat → ClassId) (aL : Nat) (h : Nat) (hM : Nat) (hF : Nat) (aS : Nat) (qp : Nat) (pl : Nat) (qf : Nat) (qm : Nat) (qr : Nat) (nf : Nat) (nc : Nat) (fa : Nat → Nat) (mo : Nat → Nat) (rk : Nat → Nat) (p1 : Nat) (c1 : Nat) (w1 : Nat) (hF0 : fm_ok nf nc fa mo rk) (hp1 : p1 < nf + nc) (hc1 : c1 < 2) (hw1 : w1 < 2 ^ (2 * nc)) : mg_Mi l D K y_LM_origin b_LM_origin 4 (.int) ({ frames := 3, cells := 0, slots := 0, locals := 61 }) [.ref (aL), .int (nI (p1)), .int (nI (c1)), .int (nI (w1))] [mg_ob aL 5 [.ref (h), .ref (hM), .ref (hF), .ref (aS), .ref (qp), .int (nI (pl))], mg_ob h 1 [.ref (qf), .ref (qm), .ref (qr), .int (nI (nf)), .int (nI (nc))], mg_ai K qf 6 fa, mg_ai K qm 6 mo, mg_ai K qr 6 rk] (fun (r : Int32) (_ : Unit) => r = nI (fm_src fa mo rk w1 3 p1 c1)) (fun (_ : Unit) => [mg_ob aL 5 [.ref (h), .ref (hM), .ref (hF), .ref (aS), .ref (qp), .int (nI (pl))], mg_ob h 1 [.ref (qf), .ref (qm), .ref (qr), .int (nI (nf)), .int (nI (nc))], mg_ai K qf 6 fa, mg_ai K qm 6 mo, mg_ai K qr 6 rk]) := by
  intro sz
  refine mg_entry (Qc := fun A => va_Qi (fun (r : Int32) (_ : Unit) => r = nI (fm_src fa mo rk w1 3 p1 c1)) (mg_B D A (fun (_ : Unit) => [mg_ob aL 5 [.ref (h), .ref (hM), .ref (hF), .ref (aS), .ref (qp), .int (nI (pl))], mg_ob h 1 [.ref (qf), .ref (qm), .ref (qr), .int (nI (nf)), .int (nI (nc))], mg_ai K qf 6 fa, mg_ai K qm 6 mo, mg_ai K qr 6 rk])) A) (by decide) (Nat.le_of_ble_eq_true rfl) ?_
  intro p e s m args below meth c A ls X hr hlk hnm hA hK hw hl
  have hl : lv_has ls 4 [(0, .ref (aL)), (1, .int (nI (p1))), (2, .int (nI (c1))), (3, .int (nI (w1)))] := hl
  have hf1 := hF0.1
  have hf2 := hF0.2.1
  have hw6 := mg_ways hf2
  refine mg_aload_n X 1 d_LM_origin_0 (lv_at hl 0 rfl) rfl ?_
  refine mg_get X hK hw 4 0 0 f_LM_12 rfl rfl d_LM_origin_1 rfl ?_
  refine mg_iload_n X 5 d_LM_origin_4 (lv_at hl 1 rfl) rfl ?_
  refine mg_callVi X hK hw hA 8 [1] 1 (fun _ => [mg_ob aL 5 [.ref (h), .ref (hM), .ref (hF), .ref (aS), .ref (qp), .int (nI (pl))], mg_ob h 1 [.ref (qf), .ref (qm), .ref (qr), .int (nI (nf)), .int (nI (nc))], mg_ai K qf 6 fa, mg_ai K qm 6 mo, mg_ai K qr 6 rk]) rfl rfl (k_Fa_hasPerson l D K h qf qm qr nf nc (nI p1) (hf1) (hf2)) g_LM_67 ⟨by decide, by decide⟩ ⟨rfl, rfl⟩ rfl rfl rfl hl.1 (rest := []) (As := [.int (nI (p1))]) rfl (Nat.le_of_ble_eq_true rfl) d_LM_origin_5 ⟨Nat.zero_le _, Nat.zero_le _⟩ (fun _ => rfl) (fun _ => rfl) rfl ?_
  intro r _ H locs hp2 hw
  subst hp2
  refine mg_bif_eq X 31 11 d_LM_origin_8 (by decide) rfl (fun b3 => absurd (mg_lt_in hp1) b3) (fun _ => ?_)
  refine mg_iload_n X 12 d_LM_origin_11 (lv_at hl 2 rfl) rfl ?_
  refine mg_iflt_n X 15 (by omega) (tgt := 31) d_LM_origin_12 (by decide) rfl ?_
  refine mg_iload_n X 16 d_LM_origin_15 (lv_at hl 2 rfl) rfl ?_
  refine mg_iconst X 17 1 d_LM_origin_16 mg_ci_1 rfl ?_
  refine mg_icmp_gt X 31 20 (by omega) (by omega) d_LM_origin_17 (by decide) rfl (fun b5 => absurd b5 (by omega)) (fun b5 => ?_)
  refine mg_aload_n X 21 d_LM_origin_20 (lv_at hl 0 rfl) rfl ?_
  refine mg_get X hK hw 24 0 0 f_LM_12 rfl rfl d_LM_origin_21 rfl ?_
  refine mg_iload_n X 25 d_LM_origin_24 (lv_at hl 3 rfl) rfl ?_
  refine mg_callVi X hK hw hA 28 [1] 1 (fun _ => [mg_ob aL 5 [.ref (h), .ref (hM), .ref (hF), .ref (aS), .ref (qp), .int (nI (pl))], mg_ob h 1 [.ref (qf), .ref (qm), .ref (qr), .int (nI (nf)), .int (nI (nc))], mg_ai K qf 6 fa, mg_ai K qm 6 mo, mg_ai K qr 6 rk]) rfl rfl (k_Fa_hasWay l D K h qf qm qr nf nc (nI w1) (hf1) (hf2)) g_LM_136 ⟨by decide, by decide⟩ ⟨rfl, rfl⟩ rfl rfl rfl hl.1 (rest := []) (As := [.int (nI (w1))]) rfl (Nat.le_of_ble_eq_true rfl) d_LM_origin_25 ⟨Nat.zero_le _, Nat.zero_le _⟩ (fun _ => rfl) (fun _ => rfl) rfl ?_
  intro r _ H locs hp7 hw
  subst hp7
  refine mg_bif_ne X 39 31 d_LM_origin_28 (by decide) rfl (fun _ => ?_) (fun b8 => absurd (mg_lt_in hw1) b8)
  refine mg_aload_n X 40 d_LM_origin_39 (lv_at hl 0 rfl) rfl ?_
  refine mg_get X hK hw 43 0 0 f_LM_12 rfl rfl d_LM_origin_40 rfl ?_
  refine mg_iload_n X 44 d_LM_origin_43 (lv_at hl 1 rfl) rfl ?_
  refine mg_iload_n X 45 d_LM_origin_44 (lv_at hl 2 rfl) rfl ?_
  refine mg_iload_n X 46 d_LM_origin_45 (lv_at hl 3 rfl) rfl ?_
  refine mg_callVi X hK hw hA 49 [1, 2, 3, 4] 1 (fun _ => [mg_ob aL 5 [.ref (h), .ref (hM), .ref (hF), .ref (aS), .ref (qp), .int (nI (pl))], mg_ob h 1 [.ref (qf), .ref (qm), .ref (qr), .int (nI (nf)), .int (nI (nc))], mg_ai K qf 6 fa, mg_ai K qm 6 mo, mg_ai K qr 6 rk]) rfl rfl (k_Fa_sourceOf l D K h qf qm qr nf nc fa mo rk p1 c1 w1 (hF0) (by omega) (by omega) (by first | exact hw1 | omega)) g_LM_139 ⟨by decide, by decide⟩ ⟨rfl, rfl⟩ rfl rfl rfl hl.1 (rest := []) (As := [.int (nI (p1)), .int (nI (c1)), .int (nI (w1))]) rfl (Nat.le_of_ble_eq_true rfl) d_LM_origin_46 ⟨Nat.zero_le _, Nat.zero_le _⟩ (fun _ => rfl) (fun _ => rfl) rfl ?_
  intro r _ H locs hp10 hw
  subst hp10
  exact mg_iret X hr hlk (rfl) (()) (rfl) hw d_LM_origin_49

set_option maxRecDepth 100000 in
set_option maxHeartbeats 4000000 in
theorem k_LM_fit (l : Launch) (D : va_G) (K : Nat → ClassId) (aL : Nat) (h : Nat) (hM : Nat) (hF : Nat) (aS : Nat) (qp : Nat) (pl : Nat) (qf : Nat) (qm : Nat) (qr : Nat) (nf : Nat) (nc : Nat) (qtb : Nat) (ql : Nat) (qw : Nat) (qra : Nat) (qo : Nat) (qt : Nat) (nm : Nat) (sg : Nat) (tb : Nat → Nat) (mk : Nat) (w : Nat) (hnf : nf ≤ 3) (hnc : nc ≤ 3) (hn : nm ≤ 4) (hm : mk < nm) (hwW : w < 2 ^ (2 * nc)) : mg_Mi l D K y_LM_fit b_LM_fit 3 (.int) ({ frames := 3, cells := 0, slots := 0, locals := 61 }) [.ref (aL), .int (nI (mk)), .int (nI (w))] [mg_ob aL 5 [.ref (h), .ref (hM), .ref (hF), .ref (aS), .ref (qp), .int (nI (pl))], mg_ob h 1 [.ref (qf), .ref (qm), .ref (qr), .int (nI (nf)), .int (nI (nc))], mg_ob hM 2 [.ref (qw), .ref (qra), .ref (qo), .ref (qt), .int (nI (nm)), .int (nI (sg))], mg_ob hF 3 [.ref (h), .ref (hM), .ref (qtb), .ref (ql)], mg_ai K qtb 256 tb] (fun (r : Int32) (_ : Unit) => r = nI (tb (mk * 64 + w))) (fun (_ : Unit) => [mg_ob aL 5 [.ref (h), .ref (hM), .ref (hF), .ref (aS), .ref (qp), .int (nI (pl))], mg_ob h 1 [.ref (qf), .ref (qm), .ref (qr), .int (nI (nf)), .int (nI (nc))], mg_ob hM 2 [.ref (qw), .ref (qra), .ref (qo), .ref (qt), .int (nI (nm)), .int (nI (sg))], mg_ob hF 3 [.ref (h), .ref (hM), .ref (qtb), .ref (ql)], mg_ai K qtb 256 tb]) := by
  intro sz
  refine mg_entry (Qc := fun A => va_Qi (fun (r : Int32) (_ : Unit) => r = nI (tb (mk * 64 + w))) (mg_B D A (fun (_ : Unit) => [mg_ob aL 5 [.ref (h), .ref (hM), .ref (hF), .ref (aS), .ref (qp), .int (nI (pl))], mg_ob h 1 [.ref (qf), .ref (qm), .ref (qr), .int (nI (nf)), .int (nI (nc))], mg_ob hM 2 [.ref (qw), .ref (qra), .ref (qo), .ref (qt), .int (nI (nm)), .int (nI (sg))], mg_ob hF 3 [.ref (h), .ref (hM), .ref (qtb), .ref (ql)], mg_ai K qtb 256 tb])) A) (by decide) (Nat.le_of_ble_eq_true rfl) ?_
  intro p e s m args below meth c A ls X hr hlk hnm hA hK hw hl
  have hl : lv_has ls 3 [(0, .ref (aL)), (1, .int (nI (mk))), (2, .int (nI (w)))] := hl
  have hw6 := mg_ways hnc
  refine mg_aload_n X 1 d_LM_fit_0 (lv_at hl 0 rfl) rfl ?_
  refine mg_get X hK hw 4 0 1 f_LM_19 rfl rfl d_LM_fit_1 rfl ?_
  refine mg_iload_n X 5 d_LM_fit_4 (lv_at hl 1 rfl) rfl ?_
  refine mg_callVi X hK hw hA 8 [2] 2 (fun _ => [mg_ob aL 5 [.ref (h), .ref (hM), .ref (hF), .ref (aS), .ref (qp), .int (nI (pl))], mg_ob h 1 [.ref (qf), .ref (qm), .ref (qr), .int (nI (nf)), .int (nI (nc))], mg_ob hM 2 [.ref (qw), .ref (qra), .ref (qo), .ref (qt), .int (nI (nm)), .int (nI (sg))], mg_ob hF 3 [.ref (h), .ref (hM), .ref (qtb), .ref (ql)], mg_ai K qtb 256 tb]) rfl rfl (k_Ma_hasMarker l D K hM qw qra qo qt nm sg (nI mk) (by first | exact hn | omega)) g_LM_109 ⟨by decide, by decide⟩ ⟨rfl, rfl⟩ rfl rfl rfl hl.1 (rest := []) (As := [.int (nI (mk))]) rfl (Nat.le_of_ble_eq_true rfl) d_LM_fit_5 ⟨Nat.zero_le _, Nat.zero_le _⟩ (fun _ => rfl) (fun _ => rfl) rfl ?_
  intro r _ H locs hp2 hw
  subst hp2
  refine mg_bif_eq X 22 11 d_LM_fit_8 (by decide) rfl (fun b3 => absurd (mg_lt_in hm) b3) (fun _ => ?_)
  refine mg_aload_n X 12 d_LM_fit_11 (lv_at hl 0 rfl) rfl ?_
  refine mg_get X hK hw 15 0 0 f_LM_12 rfl rfl d_LM_fit_12 rfl ?_
  refine mg_iload_n X 16 d_LM_fit_15 (lv_at hl 2 rfl) rfl ?_
  refine mg_callVi X hK hw hA 19 [1] 1 (fun _ => [mg_ob aL 5 [.ref (h), .ref (hM), .ref (hF), .ref (aS), .ref (qp), .int (nI (pl))], mg_ob h 1 [.ref (qf), .ref (qm), .ref (qr), .int (nI (nf)), .int (nI (nc))], mg_ob hM 2 [.ref (qw), .ref (qra), .ref (qo), .ref (qt), .int (nI (nm)), .int (nI (sg))], mg_ob hF 3 [.ref (h), .ref (hM), .ref (qtb), .ref (ql)], mg_ai K qtb 256 tb]) rfl rfl (k_Fa_hasWay l D K h qf qm qr nf nc (nI w) (by first | exact hnf | omega) (by first | exact hnc | omega)) g_LM_136 ⟨by decide, by decide⟩ ⟨rfl, rfl⟩ rfl rfl rfl hl.1 (rest := []) (As := [.int (nI (w))]) rfl (Nat.le_of_ble_eq_true rfl) d_LM_fit_16 ⟨Nat.zero_le _, Nat.zero_le _⟩ (fun _ => rfl) (fun _ => rfl) rfl ?_
  intro r _ H locs hp5 hw
  subst hp5
  refine mg_bif_ne X 30 22 d_LM_fit_19 (by decide) rfl (fun _ => ?_) (fun b6 => absurd (mg_lt_in hwW) b6)
  refine mg_aload_n X 31 d_LM_fit_30 (lv_at hl 0 rfl) rfl ?_
  refine mg_get X hK hw 34 0 2 f_LM_28 rfl rfl d_LM_fit_31 rfl ?_
  refine mg_iload_n X 35 d_LM_fit_34 (lv_at hl 1 rfl) rfl ?_
  refine mg_iload_n X 36 d_LM_fit_35 (lv_at hl 2 rfl) rfl ?_
  refine mg_callVi X hK hw hA 39 [3, 4] 3 (fun _ => [mg_ob aL 5 [.ref (h), .ref (hM), .ref (hF), .ref (aS), .ref (qp), .int (nI (pl))], mg_ob h 1 [.ref (qf), .ref (qm), .ref (qr), .int (nI (nf)), .int (nI (nc))], mg_ob hM 2 [.ref (qw), .ref (qra), .ref (qo), .ref (qt), .int (nI (nm)), .int (nI (sg))], mg_ob hF 3 [.ref (h), .ref (hM), .ref (qtb), .ref (ql)], mg_ai K qtb 256 tb]) rfl rfl (k_Fi_at l D K hF qtb ql h hM mk w tb (by omega) (by omega)) g_LM_142 ⟨by decide, by decide⟩ ⟨rfl, rfl⟩ rfl rfl rfl hl.1 (rest := []) (As := [.int (nI (mk)), .int (nI (w))]) rfl (Nat.le_of_ble_eq_true rfl) d_LM_fit_36 ⟨Nat.zero_le _, Nat.zero_le _⟩ (fun _ => rfl) (fun _ => rfl) rfl ?_
  intro r _ H locs hp8 hw
  subst hp8
  exact mg_iret X hr hlk (rfl) (()) (rfl) hw d_LM_fit_39

set_option maxRecDepth 100000 in
set_option maxHeartbeats 4000000 in
theorem k_LM_length (l : Launch) (D : va_G) (K : Nat → ClassId) (aL : Nat) (h : Nat) (hM : Nat) (hF : Nat) (aS : Nat) (qp : Nat) (pl : Nat)  : mg_Mi l D K y_LM_length b_LM_length 1 (.int) ({ frames := 0, cells := 0, slots := 0, locals := 0 }) [.ref (aL)] [mg_ob aL 5 [.ref (h), .ref (hM), .ref (hF), .ref (aS), .ref (qp), .int (nI (pl))]] (fun (r : Int32) (_ : Unit) => r = nI (pl)) (fun (_ : Unit) => [mg_ob aL 5 [.ref (h), .ref (hM), .ref (hF), .ref (aS), .ref (qp), .int (nI (pl))]]) := by
  intro sz
  refine mg_entry (Qc := fun A => va_Qi (fun (r : Int32) (_ : Unit) => r = nI (pl)) (mg_B D A (fun (_ : Unit) => [mg_ob aL 5 [.ref (h), .ref (hM), .ref (hF), .ref (aS), .ref (qp), .int (nI (pl))]])) A) (by decide) (Nat.le_of_ble_eq_true rfl) ?_
  intro p e s m args below meth c A ls X hr hlk hnm hA hK hw hl
  have hl : lv_has ls 1 [(0, .ref (aL))] := hl
  refine mg_aload_n X 1 d_LM_length_0 (lv_at hl 0 rfl) rfl ?_
  refine mg_get X hK hw 4 0 5 f_LM_47 rfl rfl d_LM_length_1 rfl ?_
  exact mg_iret X hr hlk (rfl) (()) (rfl) hw d_LM_length_4

set_option maxRecDepth 100000 in
set_option maxHeartbeats 4000000 in
theorem k_LM_charAt (l : Launch) (D : va_G) (K : Nat → ClassId) (aL : Nat) (h : Nat) (hM : Nat) (hF : Nat) (aS : Nat) (qp : Nat) (pl : Nat) (pg : Nat → Nat) (p1 : Nat) (hp : p1 < pl) (hpl : pl ≤ 54) (hpg : pg p1 < 65536) : mg_Mi l D K y_LM_charAt b_LM_charAt 2 (.char) ({ frames := 0, cells := 0, slots := 0, locals := 0 }) [.ref (aL), .int (nI (p1))] [mg_ob aL 5 [.ref (h), .ref (hM), .ref (hF), .ref (aS), .ref (qp), .int (nI (pl))], mg_ac K qp 54 pg] (fun (r : Int32) (_ : Unit) => r = nI (pg p1)) (fun (_ : Unit) => [mg_ob aL 5 [.ref (h), .ref (hM), .ref (hF), .ref (aS), .ref (qp), .int (nI (pl))], mg_ac K qp 54 pg]) := by
  intro sz
  refine mg_entry (Qc := fun A => va_Qi (fun (r : Int32) (_ : Unit) => r = nI (pg p1)) (mg_B D A (fun (_ : Unit) => [mg_ob aL 5 [.ref (h), .ref (hM), .ref (hF), .ref (aS), .ref (qp), .int (nI (pl))], mg_ac K qp 54 pg])) A) (by decide) (Nat.le_of_ble_eq_true rfl) ?_
  intro p e s m args below meth c A ls X hr hlk hnm hA hK hw hl
  have hl : lv_has ls 2 [(0, .ref (aL)), (1, .int (nI (p1)))] := hl
  refine mg_iload_n X 1 d_LM_charAt_0 (lv_at hl 1 rfl) rfl ?_
  refine mg_iflt_n X 4 (by omega) (tgt := 21) d_LM_charAt_1 (by decide) rfl ?_
  refine mg_iload_n X 5 d_LM_charAt_4 (lv_at hl 1 rfl) rfl ?_
  refine mg_aload_n X 6 d_LM_charAt_5 (lv_at hl 0 rfl) rfl ?_
  refine mg_get X hK hw 9 0 5 f_LM_47 rfl rfl d_LM_charAt_6 rfl ?_
  refine mg_icmp_ge X 21 12 (by omega) (by omega) d_LM_charAt_9 (by decide) rfl (fun b2 => absurd b2 (by omega)) (fun b2 => ?_)
  refine mg_aload_n X 13 d_LM_charAt_12 (lv_at hl 0 rfl) rfl ?_
  refine mg_get X hK hw 16 0 4 f_LM_43 rfl rfl d_LM_charAt_13 rfl ?_
  refine mg_iload_n X 17 d_LM_charAt_16 (lv_at hl 1 rfl) rfl ?_
  refine mg_cald X hK hw 18 1 rfl (by omega) (by omega) d_LM_charAt_17 rfl ?_
  refine mg_goto X 23 d_LM_charAt_18 (by decide) ?_
  exact mg_iret X hr hlk ((pk_charN hpg).1) (()) (rfl) hw d_LM_charAt_23

set_option maxRecDepth 100000 in
set_option maxHeartbeats 4000000 in
theorem k_LM_charAtN (l : Launch) (D : va_G) (K : Nat → ClassId) (aL : Nat) (h : Nat) (hM : Nat) (hF : Nat) (aS : Nat) (qp : Nat) (pl : Nat) (p1 : Int32) (hx : ¬ mg_lt p1 pl) (hpl : pl ≤ 54) : mg_Mi l D K y_LM_charAt b_LM_charAt 2 (.char) ({ frames := 0, cells := 0, slots := 0, locals := 0 }) [.ref (aL), .int (p1)] [mg_ob aL 5 [.ref (h), .ref (hM), .ref (hF), .ref (aS), .ref (qp), .int (nI (pl))]] (fun (r : Int32) (_ : Unit) => r = nI (32)) (fun (_ : Unit) => [mg_ob aL 5 [.ref (h), .ref (hM), .ref (hF), .ref (aS), .ref (qp), .int (nI (pl))]]) := by
  intro sz
  refine mg_entry (Qc := fun A => va_Qi (fun (r : Int32) (_ : Unit) => r = nI (32)) (mg_B D A (fun (_ : Unit) => [mg_ob aL 5 [.ref (h), .ref (hM), .ref (hF), .ref (aS), .ref (qp), .int (nI (pl))]])) A) (by decide) (Nat.le_of_ble_eq_true rfl) ?_
  intro p e s m args below meth c A ls X hr hlk hnm hA hK hw hl
  have hl : lv_has ls 2 [(0, .ref (aL)), (1, .int (p1))] := hl
  refine mg_iload_n X 1 d_LM_charAt_0 (lv_at hl 1 rfl) rfl ?_
  refine mg_iflt_r X 21 4 d_LM_charAt_1 (by decide) rfl (fun b1 => ?_) (fun j hj ej => ?_)
  · -- pc 1 t
    refine mg_bipush X 23 32 d_LM_charAt_21 mg_cb_32 rfl ?_
    exact mg_iret X hr hlk ((pk_charN (by decide)).1) (()) (rfl) hw d_LM_charAt_23
  · -- pc 1 f
    subst ej
    refine mg_iload_n X 5 d_LM_charAt_4 (lv_at hl 1 rfl) rfl ?_
    refine mg_aload_n X 6 d_LM_charAt_5 (lv_at hl 0 rfl) rfl ?_
    refine mg_get X hK hw 9 0 5 f_LM_47 rfl rfl d_LM_charAt_6 rfl ?_
    refine mg_icmp_ge X 21 12 (by omega) (by omega) d_LM_charAt_9 (by decide) rfl (fun h9 => ?_) (fun h9 => absurd h9 ((fun q => hx (mg_lt_in q))))
    refine mg_bipush X 23 32 d_LM_charAt_21 mg_cb_32 rfl ?_
    exact mg_iret X hr hlk ((pk_charN (by decide)).1) (()) (rfl) hw d_LM_charAt_23
