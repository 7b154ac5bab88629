set_option maxRecDepth 100000 in
set_option maxHeartbeats 4000000 in
theorem k_Fa_persons (l : Launch) (D : va_G) (K : Nat → ClassId) (h : Nat) (qf : Nat) (qm : Nat) (qr : Nat) (nf : Nat) (nc : Nat)  : mg_Mi l D K y_Fa_persons b_Fa_persons 1 (.int) ({ frames := 0, cells := 0, slots := 0, locals := 0 }) [.ref (h)] [mg_ob h 1 [.ref (qf), .ref (qm), .ref (qr), .int (nI (nf)), .int (nI (nc))]] (fun (r : Int32) (_ : Unit) => r = nI (nf + nc)) (fun (_ : Unit) => [mg_ob h 1 [.ref (qf), .ref (qm), .ref (qr), .int (nI (nf)), .int (nI (nc))]]) := by
  intro sz
  refine mg_entry (Qc := fun A => va_Qi (fun (r : Int32) (_ : Unit) => r = nI (nf + nc)) (mg_B D A (fun (_ : Unit) => [mg_ob h 1 [.ref (qf), .ref (qm), .ref (qr), .int (nI (nf)), .int (nI (nc))]])) A) (by decide) (Nat.le_of_ble_eq_true rfl) ?_
  intro p e s m args below meth c A ls X hr hlk hnm hA hK hw hl
  have hl : lv_has ls 1 [(0, .ref (h))] := hl
  refine mg_aload_n X 1 d_Fa_persons_0 (lv_at hl 0 rfl) rfl ?_
  refine mg_get X hK hw 4 0 3 f_Fa_21 rfl rfl d_Fa_persons_1 rfl ?_
  refine mg_aload_n X 5 d_Fa_persons_4 (lv_at hl 0 rfl) rfl ?_
  refine mg_get X hK hw 8 0 4 f_Fa_25 rfl rfl d_Fa_persons_5 rfl ?_
  refine mg_iadd X 9 (nI (nf + nc)) d_Fa_persons_8 (nI_add _ _) rfl ?_
  exact mg_iret X hr hlk (rfl) (()) (rfl) hw d_Fa_persons_9

set_option maxRecDepth 100000 in
set_option maxHeartbeats 4000000 in
theorem k_Fa_bits (l : Launch) (D : va_G) (K : Nat → ClassId) (h : Nat) (qf : Nat) (qm : Nat) (qr : Nat) (nf : Nat) (nc : Nat)  : mg_Mi l D K y_Fa_bits b_Fa_bits 1 (.int) ({ frames := 0, cells := 0, slots := 0, locals := 0 }) [.ref (h)] [mg_ob h 1 [.ref (qf), .ref (qm), .ref (qr), .int (nI (nf)), .int (nI (nc))]] (fun (r : Int32) (_ : Unit) => r = nI (2 * nc)) (fun (_ : Unit) => [mg_ob h 1 [.ref (qf), .ref (qm), .ref (qr), .int (nI (nf)), .int (nI (nc))]]) := by
  intro sz
  refine mg_entry (Qc := fun A => va_Qi (fun (r : Int32) (_ : Unit) => r = nI (2 * nc)) (mg_B D A (fun (_ : Unit) => [mg_ob h 1 [.ref (qf), .ref (qm), .ref (qr), .int (nI (nf)), .int (nI (nc))]])) A) (by decide) (Nat.le_of_ble_eq_true rfl) ?_
  intro p e s m args below meth c A ls X hr hlk hnm hA hK hw hl
  have hl : lv_has ls 1 [(0, .ref (h))] := hl
  refine mg_iconst X 1 2 d_Fa_bits_0 mg_ci_2 rfl ?_
  refine mg_aload_n X 2 d_Fa_bits_1 (lv_at hl 0 rfl) rfl ?_
  refine mg_get X hK hw 5 0 4 f_Fa_25 rfl rfl d_Fa_bits_2 rfl ?_
  refine mg_imul X 6 (nI (2 * nc)) d_Fa_bits_5 (pk_mul _ _) rfl ?_
  exact mg_iret X hr hlk (rfl) (()) (rfl) hw d_Fa_bits_6

set_option maxRecDepth 100000 in
set_option maxHeartbeats 4000000 in
theorem k_Fa_ways (l : Launch) (D : va_G) (K : Nat → ClassId) (h : Nat) (qf : Nat) (qm : Nat) (qr : Nat) (nf : Nat) (nc : Nat) (hnc : nc ≤ 3) : mg_Mi l D K y_Fa_ways b_Fa_ways 1 (.int) ({ frames := 1, cells := 0, slots := 0, locals := 20 }) [.ref (h)] [mg_ob h 1 [.ref (qf), .ref (qm), .ref (qr), .int (nI (nf)), .int (nI (nc))]] (fun (r : Int32) (_ : Unit) => r = nI (2 ^ (2 * nc))) (fun (_ : Unit) => [mg_ob h 1 [.ref (qf), .ref (qm), .ref (qr), .int (nI (nf)), .int (nI (nc))]]) := by
  intro sz
  refine mg_entry (Qc := fun A => va_Qi (fun (r : Int32) (_ : Unit) => r = nI (2 ^ (2 * nc))) (mg_B D A (fun (_ : Unit) => [mg_ob h 1 [.ref (qf), .ref (qm), .ref (qr), .int (nI (nf)), .int (nI (nc))]])) A) (by decide) (Nat.le_of_ble_eq_true rfl) ?_
  intro p e s m args below meth c A ls X hr hlk hnm hA hK hw hl
  have hl : lv_has ls 1 [(0, .ref (h))] := hl
  refine mg_iconst X 1 1 d_Fa_ways_0 mg_ci_1 rfl ?_
  refine mg_aload_n X 2 d_Fa_ways_1 (lv_at hl 0 rfl) rfl ?_
  refine mg_callVi X hK hw hA 5 [0] 0 (fun _ => [mg_ob h 1 [.ref (qf), .ref (qm), .ref (qr), .int (nI (nf)), .int (nI (nc))]]) rfl rfl (k_Fa_bits l D K h qf qm qr nf nc ) g_Fa_28 ⟨by decide, by decide⟩ ⟨rfl, rfl⟩ rfl rfl rfl hl.1 (rest := [.int (nI (1))]) (As := []) rfl (Nat.le_of_ble_eq_true rfl) d_Fa_ways_2 ⟨Nat.zero_le _, Nat.zero_le _⟩ (fun _ => rfl) (fun _ => rfl) rfl ?_
  intro r _ H locs hp2 hw
  subst hp2
  refine mg_ishl X 6 ((nI (2 ^ (2 * nc)))) d_Fa_ways_5 (mg_shl (by omega)) rfl ?_
  exact mg_iret X hr hlk (rfl) (()) (rfl) hw d_Fa_ways_6

set_option maxRecDepth 100000 in
set_option maxHeartbeats 4000000 in
theorem k_Fa_hasPerson (l : Launch) (D : va_G) (K : Nat → ClassId) (h : Nat) (qf : Nat) (qm : Nat) (qr : Nat) (nf : Nat) (nc : Nat) (x : Int32) (hnf : nf ≤ 3) (hnc : nc ≤ 3) : mg_Mi l D K y_Fa_hasPerson b_Fa_hasPerson 2 (.boolean) ({ frames := 1, cells := 0, slots := 0, locals := 20 }) [.ref (h), .int (x)] [mg_ob h 1 [.ref (qf), .ref (qm), .ref (qr), .int (nI (nf)), .int (nI (nc))]] (fun (r : Int32) (_ : Unit) => r = nI (ft_c (mg_lt x (nf + nc)))) (fun (_ : Unit) => [mg_ob h 1 [.ref (qf), .ref (qm), .ref (qr), .int (nI (nf)), .int (nI (nc))]]) := by
  intro sz
  refine mg_entry (Qc := fun A => va_Qi (fun (r : Int32) (_ : Unit) => r = nI (ft_c (mg_lt x (nf + nc)))) (mg_B D A (fun (_ : Unit) => [mg_ob h 1 [.ref (qf), .ref (qm), .ref (qr), .int (nI (nf)), .int (nI (nc))]])) A) (by decide) (Nat.le_of_ble_eq_true rfl) ?_
  intro p e s m args below meth c A ls X hr hlk hnm hA hK hw hl
  have hl : lv_has ls 2 [(0, .ref (h)), (1, .int (x))] := hl
  have hw6 := mg_ways hnc
  refine mg_iload_n X 1 d_Fa_hasPerson_0 (lv_at hl 1 rfl) rfl ?_
  refine mg_iflt_r X 16 4 d_Fa_hasPerson_1 (by decide) rfl (fun hneg => ?_) (fun j hj ej => ?_)
  · -- pc 1 t
    refine mg_iconst X 17 0 d_Fa_hasPerson_16 mg_ci_0 rfl ?_
    exact mg_iret X hr hlk (mg_nz (by omega)) (()) (by rw [ft_c0 (mg_lt_neg hneg (by omega))]) hw d_Fa_hasPerson_17
  · -- pc 1 f
    subst ej
    refine mg_iload_n X 5 d_Fa_hasPerson_4 (lv_at hl 1 rfl) rfl ?_
    refine mg_aload_n X 6 d_Fa_hasPerson_5 (lv_at hl 0 rfl) rfl ?_
    refine mg_callVi X hK hw hA 9 [0] 0 (fun _ => [mg_ob h 1 [.ref (qf), .ref (qm), .ref (qr), .int (nI (nf)), .int (nI (nc))]]) rfl rfl (k_Fa_persons l D K h qf qm qr nf nc ) g_Fa_32 ⟨by decide, by decide⟩ ⟨rfl, rfl⟩ rfl rfl rfl hl.1 (rest := [.int (nI (j))]) (As := []) rfl (Nat.le_of_ble_eq_true rfl) d_Fa_hasPerson_6 ⟨Nat.zero_le _, Nat.zero_le _⟩ (fun _ => rfl) (fun _ => rfl) rfl ?_
    intro r _ H locs hp2 hw
    subst hp2
    refine mg_icmp_ge X 16 12 (by omega) (by omega) d_Fa_hasPerson_9 (by decide) rfl (fun hc => ?_) (fun hc => ?_)
    · -- pc 9 t
      refine mg_iconst X 17 0 d_Fa_hasPerson_16 mg_ci_0 rfl ?_
      exact mg_iret X hr hlk (mg_nz (by omega)) (()) (by rw [ft_c0 (mg_lt_ge hj hc)]) hw d_Fa_hasPerson_17
    · -- pc 9 f
      refine mg_iconst X 13 1 d_Fa_hasPerson_12 mg_ci_1 rfl ?_
      refine mg_goto X 17 d_Fa_hasPerson_13 (by decide) ?_
      exact mg_iret X hr hlk (mg_nz (by omega)) (()) (by rw [ft_c1 (mg_lt_in hc)]) hw d_Fa_hasPerson_17

set_option maxRecDepth 100000 in
set_option maxHeartbeats 4000000 in
theorem k_Fa_hasWay (l : Launch) (D : va_G) (K : Nat → ClassId) (h : Nat) (qf : Nat) (qm : Nat) (qr : Nat) (nf : Nat) (nc : Nat) (x : Int32) (hnf : nf ≤ 3) (hnc : nc ≤ 3) : mg_Mi l D K y_Fa_hasWay b_Fa_hasWay 2 (.boolean) ({ frames := 2, cells := 0, slots := 0, locals := 40 }) [.ref (h), .int (x)] [mg_ob h 1 [.ref (qf), .ref (qm), .ref (qr), .int (nI (nf)), .int (nI (nc))]] (fun (r : Int32) (_ : Unit) => r = nI (ft_c (mg_lt x (2 ^ (2 * nc))))) (fun (_ : Unit) => [mg_ob h 1 [.ref (qf), .ref (qm), .ref (qr), .int (nI (nf)), .int (nI (nc))]]) := by
  intro sz
  refine mg_entry (Qc := fun A => va_Qi (fun (r : Int32) (_ : Unit) => r = nI (ft_c (mg_lt x (2 ^ (2 * nc))))) (mg_B D A (fun (_ : Unit) => [mg_ob h 1 [.ref (qf), .ref (qm), .ref (qr), .int (nI (nf)), .int (nI (nc))]])) A) (by decide) (Nat.le_of_ble_eq_true rfl) ?_
  intro p e s m args below meth c A ls X hr hlk hnm hA hK hw hl
  have hl : lv_has ls 2 [(0, .ref (h)), (1, .int (x))] := hl
  have hw6 := mg_ways hnc
  refine mg_iload_n X 1 d_Fa_hasWay_0 (lv_at hl 1 rfl) rfl ?_
  refine mg_iflt_r X 16 4 d_Fa_hasWay_1 (by decide) rfl (fun hneg => ?_) (fun j hj ej => ?_)
  · -- pc 1 t
    refine mg_iconst X 17 0 d_Fa_hasWay_16 mg_ci_0 rfl ?_
    exact mg_iret X hr hlk (mg_nz (by omega)) (()) (by rw [ft_c0 (mg_lt_neg hneg (by omega))]) hw d_Fa_hasWay_17
  · -- pc 1 f
    subst ej
    refine mg_iload_n X 5 d_Fa_hasWay_4 (lv_at hl 1 rfl) rfl ?_
    refine mg_aload_n X 6 d_Fa_hasWay_5 (lv_at hl 0 rfl) rfl ?_
    refine mg_callVi X hK hw hA 9 [0] 0 (fun _ => [mg_ob h 1 [.ref (qf), .ref (qm), .ref (qr), .int (nI (nf)), .int (nI (nc))]]) rfl rfl (k_Fa_ways l D K h qf qm qr nf nc (by omega)) g_Fa_35 ⟨by decide, by decide⟩ ⟨rfl, rfl⟩ rfl rfl rfl hl.1 (rest := [.int (nI (j))]) (As := []) rfl (Nat.le_of_ble_eq_true rfl) d_Fa_hasWay_6 ⟨Nat.zero_le _, Nat.zero_le _⟩ (fun _ => rfl) (fun _ => rfl) rfl ?_
    intro r _ H locs hp2 hw
    subst hp2
    refine mg_icmp_ge X 16 12 (by omega) (by omega) d_Fa_hasWay_9 (by decide) rfl (fun hc => ?_) (fun hc => ?_)
    · -- pc 9 t
      refine mg_iconst X 17 0 d_Fa_hasWay_16 mg_ci_0 rfl ?_
      exact mg_iret X hr hlk (mg_nz (by omega)) (()) (by rw [ft_c0 (mg_lt_ge hj hc)]) hw d_Fa_hasWay_17
    · -- pc 9 f
      refine mg_iconst X 13 1 d_Fa_hasWay_12 mg_ci_1 rfl ?_
      refine mg_goto X 17 d_Fa_hasWay_13 (by decide) ?_
      exact mg_iret X hr hlk (mg_nz (by omega)) (()) (by rw [ft_c1 (mg_lt_in hc)]) hw d_Fa_hasWay_17

set_option maxRecDepth 100000 in
set_option maxHeartbeats 4000000 in
theorem k_Fa_addFounder (l : Launch) (D : va_G) (K : Nat → ClassId) (h : Nat) (qf : Nat) (qm : Nat) (qr : Nat) (nf : Nat) (nc : Nat) (fa : Nat → Nat) (mo : Nat → Nat) (rk : Nat → Nat) (hn : nf + nc < 6) : mg_Mi l D K y_Fa_addFounder b_Fa_addFounder 2 (.int) ({ frames := 1, cells := 0, slots := 0, locals := 20 }) [.ref (h)] [mg_ob h 1 [.ref (qf), .ref (qm), .ref (qr), .int (nI (nf)), .int (nI (nc))], mg_ai K qf 6 fa, mg_ai K qm 6 mo, mg_ai K qr 6 rk] (fun (r : Int32) (_ : Unit) => r = nI (nf + nc)) (fun (_ : Unit) => [mg_ob h 1 [.ref (qf), .ref (qm), .ref (qr), .int (nI (nf + 1)), .int (nI (nc))], mg_ai K qf 6 (va_up fa (nf + nc) 4294967295), mg_ai K qm 6 (va_up mo (nf + nc) 4294967295), mg_ai K qr 6 (va_up rk (nf + nc) nf)]) := by
  intro sz
  refine mg_entry (Qc := fun A => va_Qi (fun (r : Int32) (_ : Unit) => r = nI (nf + nc)) (mg_B D A (fun (_ : Unit) => [mg_ob h 1 [.ref (qf), .ref (qm), .ref (qr), .int (nI (nf + 1)), .int (nI (nc))], mg_ai K qf 6 (va_up fa (nf + nc) 4294967295), mg_ai K qm 6 (va_up mo (nf + nc) 4294967295), mg_ai K qr 6 (va_up rk (nf + nc) nf)])) A) (by decide) (Nat.le_of_ble_eq_true rfl) ?_
  intro p e s m args below meth c A ls X hr hlk hnm hA hK hw hl
  have hl : lv_has ls 2 [(0, .ref (h))] := hl
  refine mg_aload_n X 1 d_Fa_addFounder_0 (lv_at hl 0 rfl) rfl ?_
  refine mg_callVi X hK hw hA 4 [0] 0 (fun _ => [mg_ob h 1 [.ref (qf), .ref (qm), .ref (qr), .int (nI (nf)), .int (nI (nc))], mg_ai K qf 6 fa, mg_ai K qm 6 mo, mg_ai K qr 6 rk]) rfl rfl (k_Fa_persons l D K h qf qm qr nf nc ) g_Fa_32 ⟨by decide, by decide⟩ ⟨rfl, rfl⟩ rfl rfl rfl hl.1 (rest := []) (As := []) rfl (Nat.le_of_ble_eq_true rfl) d_Fa_addFounder_1 ⟨Nat.zero_le _, Nat.zero_le _⟩ (fun _ => rfl) (fun _ => rfl) rfl ?_
  intro r _ H locs hp2 hw
  subst hp2
  refine mg_istore_n X 5 [(1, .int (nI (nf + nc))), (0, .ref (h))] d_Fa_addFounder_4 hl (by decide) rfl rfl (fun ls hl => ?_)
  refine mg_aload_n X 6 d_Fa_addFounder_5 (lv_at hl 1 rfl) rfl ?_
  refine mg_get X hK hw 9 0 0 f_Fa_9 rfl rfl d_Fa_addFounder_6 rfl ?_
  refine mg_iload_n X 10 d_Fa_addFounder_9 (lv_at hl 0 rfl) rfl ?_
  refine mg_iconst X 11 4294967295 d_Fa_addFounder_10 mg_ci_m1 rfl ?_
  refine mg_iast X hK hw 12 1 [mg_ob h 1 [.ref (qf), .ref (qm), .ref (qr), .int (nI (nf)), .int (nI (nc))], mg_ai K qf 6 (va_up fa (nf + nc) 4294967295), mg_ai K qm 6 mo, mg_ai K qr 6 rk] rfl (by omega) (by omega) d_Fa_addFounder_11 rfl rfl (fun H locs hw => ?_)
  refine mg_aload_n X 13 d_Fa_addFounder_12 (lv_at hl 1 rfl) rfl ?_
  refine mg_get X hK hw 16 0 1 f_Fa_15 rfl rfl d_Fa_addFounder_13 rfl ?_
  refine mg_iload_n X 17 d_Fa_addFounder_16 (lv_at hl 0 rfl) rfl ?_
  refine mg_iconst X 18 4294967295 d_Fa_addFounder_17 mg_ci_m1 rfl ?_
  refine mg_iast X hK hw 19 2 [mg_ob h 1 [.ref (qf), .ref (qm), .ref (qr), .int (nI (nf)), .int (nI (nc))], mg_ai K qf 6 (va_up fa (nf + nc) 4294967295), mg_ai K qm 6 (va_up mo (nf + nc) 4294967295), mg_ai K qr 6 rk] rfl (by omega) (by omega) d_Fa_addFounder_18 rfl rfl (fun H locs hw => ?_)
  refine mg_aload_n X 20 d_Fa_addFounder_19 (lv_at hl 1 rfl) rfl ?_
  refine mg_get X hK hw 23 0 2 f_Fa_18 rfl rfl d_Fa_addFounder_20 rfl ?_
  refine mg_iload_n X 24 d_Fa_addFounder_23 (lv_at hl 0 rfl) rfl ?_
  refine mg_aload_n X 25 d_Fa_addFounder_24 (lv_at hl 1 rfl) rfl ?_
  refine mg_get X hK hw 28 0 3 f_Fa_21 rfl rfl d_Fa_addFounder_25 rfl ?_
  refine mg_iast X hK hw 29 3 [mg_ob h 1 [.ref (qf), .ref (qm), .ref (qr), .int (nI (nf)), .int (nI (nc))], mg_ai K qf 6 (va_up fa (nf + nc) 4294967295), mg_ai K qm 6 (va_up mo (nf + nc) 4294967295), mg_ai K qr 6 (va_up rk (nf + nc) nf)] rfl (by omega) (by omega) d_Fa_addFounder_28 rfl rfl (fun H locs hw => ?_)
  refine mg_aload_n X 30 d_Fa_addFounder_29 (lv_at hl 1 rfl) rfl ?_
  refine mg_dup X 31 d_Fa_addFounder_30 rfl rfl ?_
  refine mg_get X hK hw 34 0 3 f_Fa_21 rfl rfl d_Fa_addFounder_31 rfl ?_
  refine mg_iconst X 35 1 d_Fa_addFounder_34 mg_ci_1 rfl ?_
  refine mg_iadd X 36 (nI (nf + 1)) d_Fa_addFounder_35 (nI_add _ _) rfl ?_
  refine mg_put X hK hw 39 0 3 [mg_ob h 1 [.ref (qf), .ref (qm), .ref (qr), .int (nI (nf + 1)), .int (nI (nc))], mg_ai K qf 6 (va_up fa (nf + nc) 4294967295), mg_ai K qm 6 (va_up mo (nf + nc) 4294967295), mg_ai K qr 6 (va_up rk (nf + nc) nf)] fp_Fa_21 rfl (Nat.le_of_ble_eq_true rfl) rfl rfl d_Fa_addFounder_36 rfl rfl (fun H locs hw => ?_)
  refine mg_iload_n X 40 d_Fa_addFounder_39 (lv_at hl 0 rfl) rfl ?_
  exact mg_iret X hr hlk (rfl) (()) (rfl) hw d_Fa_addFounder_40

set_option maxRecDepth 100000 in
set_option maxHeartbeats 4000000 in
theorem k_Fa_addChild (l : Launch) (D : va_G) (K : Nat → ClassId) (h : Nat) (qf : Nat) (qm : Nat) (qr : Nat) (nf : Nat) (nc : Nat) (fa : Nat → Nat) (mo : Nat → Nat) (rk : Nat → Nat) (x : Nat) (y : Nat) (hn : nf + nc < 6) : mg_Mi l D K y_Fa_addChild b_Fa_addChild 4 (.int) ({ frames := 1, cells := 0, slots := 0, locals := 20 }) [.ref (h), .int (nI (x)), .int (nI (y))] [mg_ob h 1 [.ref (qf), .ref (qm), .ref (qr), .int (nI (nf)), .int (nI (nc))], mg_ai K qf 6 fa, mg_ai K qm 6 mo, mg_ai K qr 6 rk] (fun (r : Int32) (_ : Unit) => r = nI (nf + nc)) (fun (_ : Unit) => [mg_ob h 1 [.ref (qf), .ref (qm), .ref (qr), .int (nI (nf)), .int (nI (nc + 1))], mg_ai K qf 6 (va_up fa (nf + nc) x), mg_ai K qm 6 (va_up mo (nf + nc) y), mg_ai K qr 6 (va_up rk (nf + nc) nc)]) := by
  intro sz
  refine mg_entry (Qc := fun A => va_Qi (fun (r : Int32) (_ : Unit) => r = nI (nf + nc)) (mg_B D A (fun (_ : Unit) => [mg_ob h 1 [.ref (qf), .ref (qm), .ref (qr), .int (nI (nf)), .int (nI (nc + 1))], mg_ai K qf 6 (va_up fa (nf + nc) x), mg_ai K qm 6 (va_up mo (nf + nc) y), mg_ai K qr 6 (va_up rk (nf + nc) nc)])) A) (by decide) (Nat.le_of_ble_eq_true rfl) ?_
  intro p e s m args below meth c A ls X hr hlk hnm hA hK hw hl
  have hl : lv_has ls 4 [(0, .ref (h)), (1, .int (nI (x))), (2, .int (nI (y)))] := hl
  refine mg_aload_n X 1 d_Fa_addChild_0 (lv_at hl 0 rfl) rfl ?_
  refine mg_callVi X hK hw hA 4 [0] 0 (fun _ => [mg_ob h 1 [.ref (qf), .ref (qm), .ref (qr), .int (nI (nf)), .int (nI (nc))], mg_ai K qf 6 fa, mg_ai K qm 6 mo, mg_ai K qr 6 rk]) rfl rfl (k_Fa_persons l D K h qf qm qr nf nc ) g_Fa_32 ⟨by decide, by decide⟩ ⟨rfl, rfl⟩ rfl rfl rfl hl.1 (rest := []) (As := []) rfl (Nat.le_of_ble_eq_true rfl) d_Fa_addChild_1 ⟨Nat.zero_le _, Nat.zero_le _⟩ (fun _ => rfl) (fun _ => rfl) rfl ?_
  intro r _ H locs hp2 hw
  subst hp2
  refine mg_istore_n X 5 [(3, .int (nI (nf + nc))), (0, .ref (h)), (1, .int (nI (x))), (2, .int (nI (y)))] d_Fa_addChild_4 hl (by decide) rfl rfl (fun ls hl => ?_)
  refine mg_aload_n X 6 d_Fa_addChild_5 (lv_at hl 1 rfl) rfl ?_
  refine mg_get X hK hw 9 0 0 f_Fa_9 rfl rfl d_Fa_addChild_6 rfl ?_
  refine mg_iload_n X 10 d_Fa_addChild_9 (lv_at hl 0 rfl) rfl ?_
  refine mg_iload_n X 11 d_Fa_addChild_10 (lv_at hl 2 rfl) rfl ?_
  refine mg_iast X hK hw 12 1 [mg_ob h 1 [.ref (qf), .ref (qm), .ref (qr), .int (nI (nf)), .int (nI (nc))], mg_ai K qf 6 (va_up fa (nf + nc) x), mg_ai K qm 6 mo, mg_ai K qr 6 rk] rfl (by omega) (by omega) d_Fa_addChild_11 rfl rfl (fun H locs hw => ?_)
  refine mg_aload_n X 13 d_Fa_addChild_12 (lv_at hl 1 rfl) rfl ?_
  refine mg_get X hK hw 16 0 1 f_Fa_15 rfl rfl d_Fa_addChild_13 rfl ?_
  refine mg_iload_n X 17 d_Fa_addChild_16 (lv_at hl 0 rfl) rfl ?_
  refine mg_iload_n X 18 d_Fa_addChild_17 (lv_at hl 3 rfl) rfl ?_
  refine mg_iast X hK hw 19 2 [mg_ob h 1 [.ref (qf), .ref (qm), .ref (qr), .int (nI (nf)), .int (nI (nc))], mg_ai K qf 6 (va_up fa (nf + nc) x), mg_ai K qm 6 (va_up mo (nf + nc) y), mg_ai K qr 6 rk] rfl (by omega) (by omega) d_Fa_addChild_18 rfl rfl (fun H locs hw => ?_)
  refine mg_aload_n X 20 d_Fa_addChild_19 (lv_at hl 1 rfl) rfl ?_
  refine mg_get X hK hw 23 0 2 f_Fa_18 rfl rfl d_Fa_addChild_20 rfl ?_
  refine mg_iload_n X 24 d_Fa_addChild_23 (lv_at hl 0 rfl) rfl ?_
  refine mg_aload_n X 25 d_Fa_addChild_24 (lv_at hl 1 rfl) rfl ?_
  refine mg_get X hK hw 28 0 4 f_Fa_25 rfl rfl d_Fa_addChild_25 rfl ?_
  refine mg_iast X hK hw 29 3 [mg_ob h 1 [.ref (qf), .ref (qm), .ref (qr), .int (nI (nf)), .int (nI (nc))], mg_ai K qf 6 (va_up fa (nf + nc) x), mg_ai K qm 6 (va_up mo (nf + nc) y), mg_ai K qr 6 (va_up rk (nf + nc) nc)] rfl (by omega) (by omega) d_Fa_addChild_28 rfl rfl (fun H locs hw => ?_)
  refine mg_aload_n X 30 d_Fa_addChild_29 (lv_at hl 1 rfl) rfl ?_
  refine mg_dup X 31 d_Fa_addChild_30 rfl rfl ?_
  refine mg_get X hK hw 34 0 4 f_Fa_25 rfl rfl d_Fa_addChild_31 rfl ?_
  refine mg_iconst X 35 1 d_Fa_addChild_34 mg_ci_1 rfl ?_
  refine mg_iadd X 36 (nI (nc + 1)) d_Fa_addChild_35 (nI_add _ _) rfl ?_
  refine mg_put X hK hw 39 0 4 [mg_ob h 1 [.ref (qf), .ref (qm), .ref (qr), .int (nI (nf)), .int (nI (nc + 1))], mg_ai K qf 6 (va_up fa (nf + nc) x), mg_ai K qm 6 (va_up mo (nf + nc) y), mg_ai K qr 6 (va_up rk (nf + nc) nc)] fp_Fa_25 rfl (Nat.le_of_ble_eq_true rfl) rfl rfl d_Fa_addChild_36 rfl rfl (fun H locs hw => ?_)
  refine mg_iload_n X 40 d_Fa_addChild_39 (lv_at hl 0 rfl) rfl ?_
  exact mg_iret X hr hlk (rfl) (()) (rfl) hw d_Fa_addChild_40

set_option maxRecDepth 100000 in
set_option maxHeartbeats 4000000 in
theorem k_Fa_sourceOf (l : Launch) (D : va_G) (K : Nat → ClassId) (h : Nat) (qf : Nat) (qm : Nat) (qr : Nat) (nf : Nat) (nc : Nat) (fa : Nat → Nat) (mo : Nat → Nat) (rk : Nat → Nat) (p0 : Nat) (c0 : Nat) (w : Nat) (hF : fm_ok nf nc fa mo rk) (hp : p0 < nf + nc) (hc : c0 < 2) (hw1 : w < 64) : mg_Mi l D K y_Fa_sourceOf b_Fa_sourceOf 8 (.int) ({ frames := 0, cells := 0, slots := 0, locals := 0 }) [.ref (h), .int (nI (p0)), .int (nI (c0)), .int (nI (w))] [mg_ob h 1 [.ref (qf), .ref (qm), .ref (qr), .int (nI (nf)), .int (nI (nc))], mg_ai K qf 6 fa, mg_ai K qm 6 mo, mg_ai K qr 6 rk] (fun (r : Int32) (_ : Unit) => r = nI (fm_src fa mo rk w 3 p0 c0)) (fun (_ : Unit) => [mg_ob h 1 [.ref (qf), .ref (qm), .ref (qr), .int (nI (nf)), .int (nI (nc))], mg_ai K qf 6 fa, mg_ai K qm 6 mo, mg_ai K qr 6 rk]) := by
  intro sz
  refine mg_entry (Qc := fun A => va_Qi (fun (r : Int32) (_ : Unit) => r = nI (fm_src fa mo rk w 3 p0 c0)) (mg_B D A (fun (_ : Unit) => [mg_ob h 1 [.ref (qf), .ref (qm), .ref (qr), .int (nI (nf)), .int (nI (nc))], mg_ai K qf 6 fa, mg_ai K qm 6 mo, mg_ai K qr 6 rk])) A) (by decide) (Nat.le_of_ble_eq_true rfl) ?_
  intro p e s m args below meth c A ls X hr hlk hnm hA hK hw hl
  have hl : lv_has ls 8 [(0, .ref (h)), (1, .int (nI (p0))), (2, .int (nI (c0))), (3, .int (nI (w)))] := hl
  have hF1 := hF.1
  have hF2 := hF.2.1
  refine mg_iload_n X 1 d_Fa_sourceOf_0 (lv_at hl 1 rfl) rfl ?_
  refine mg_istore X 3 [(4, .int (nI (p0))), (0, .ref (h)), (1, .int (nI (p0))), (2, .int (nI (c0))), (3, .int (nI (w)))] d_Fa_sourceOf_1 hl (by decide) rfl rfl (fun ls hl => ?_)
  refine mg_iload_n X 4 d_Fa_sourceOf_3 (lv_at hl 3 rfl) rfl ?_
  refine mg_istore X 6 [(5, .int (nI (c0))), (4, .int (nI (p0))), (0, .ref (h)), (1, .int (nI (p0))), (2, .int (nI (c0))), (3, .int (nI (w)))] d_Fa_sourceOf_4 hl (by decide) rfl rfl (fun ls hl => ?_)
  refine mg_iconst X 7 0 d_Fa_sourceOf_6 mg_ci_0 rfl ?_
  refine mg_istore X 9 [(6, .int (nI (0))), (5, .int (nI (c0))), (4, .int (nI (p0))), (0, .ref (h)), (1, .int (nI (p0))), (2, .int (nI (c0))), (3, .int (nI (w)))] d_Fa_sourceOf_7 hl (by decide) rfl rfl (fun ls hl => ?_)
  have L9 : ∀ (n0 : Nat) (k : Nat) (p1 : Nat) (c1 : Nat), n0 = 3 - k → (fm_src fa mo rk w (3 - k) p1 c1 = fm_src fa mo rk w 3 p0 c0) → (k ≤ 3) → (p1 < nf + nc) → (c1 < 2) → ∀ (ls : Array Slot) (H : Heap) (locs : List Loc), lv_has ls 8 [(0, .ref (h)), (1, .int (nI (p0))), (2, .int (nI (c0))), (3, .int (nI (w))), (4, .int (nI (p1))), (5, .int (nI (c1))), (6, .int (nI (k)))] → mg_H D A s.heap H locs [mg_ob h 1 [.ref (qf), .ref (qm), .ref (qr), .int (nI (nf)), .int (nI (nc))], mg_ai K qf 6 fa, mg_ai K qm 6 mo, mg_ai K qr 6 rk] → W p l e ({ frames := 0, cells := 0, slots := 0, locals := 0 }) s m args below meth c H locs 0 0 (MQ below (va_Qi (fun (r : Int32) (_ : Unit) => r = nI (fm_src fa mo rk w 3 p0 c0)) (mg_B D A (fun (_ : Unit) => [mg_ob h 1 [.ref (qf), .ref (qm), .ref (qr), .int (nI (nf)), .int (nI (nc))], mg_ai K qf 6 fa, mg_ai K qm 6 mo, mg_ai K qr 6 rk])) A) args s (0) (0) A) (F0 m 9 ls []) := by
    intro n0
    induction n0 using Nat.strongRecOn with
    | ind n0 ih9 =>
    intro k p1 c1 hm9 hI hk hp1 hc1 ls H locs hl hw
    have hrk := fm_rk hF hp1
    have hfa := fm_fa hF hp1
    refine mg_iload X 11 d_Fa_sourceOf_9 (lv_at hl 6 rfl) rfl ?_
    refine mg_iconst X 12 3 d_Fa_sourceOf_11 mg_ci_3 rfl ?_
    refine mg_icmp_ge X 78 15 (by omega) (by omega) d_Fa_sourceOf_12 (by decide) rfl (fun hb => ?_) (fun hb => ?_)
    · -- pc 12 t
      refine mg_iconst X 79 2 d_Fa_sourceOf_78 mg_ci_2 rfl ?_
      refine mg_aload_n X 80 d_Fa_sourceOf_79 (lv_at hl 0 rfl) rfl ?_
      refine mg_get X hK hw 83 0 2 f_Fa_18 rfl rfl d_Fa_sourceOf_80 rfl ?_
      refine mg_iload X 85 d_Fa_sourceOf_83 (lv_at hl 4 rfl) rfl ?_
      refine mg_iald X hK hw 86 3 rfl (by omega) (by omega) d_Fa_sourceOf_85 rfl ?_
      refine mg_imul X 87 (nI (2 * (rk p1))) d_Fa_sourceOf_86 (pk_mul _ _) rfl ?_
      refine mg_iload X 89 d_Fa_sourceOf_87 (lv_at hl 5 rfl) rfl ?_
      refine mg_iadd X 90 (nI ((2 * (rk p1)) + c1)) d_Fa_sourceOf_89 (nI_add _ _) rfl ?_
      exact mg_iret X hr hlk (rfl) (()) (by rw [← hI]; exact congrArg nI (fm_fin (by omega)).symm) hw d_Fa_sourceOf_90
    · -- pc 12 f
      refine mg_aload_n X 16 d_Fa_sourceOf_15 (lv_at hl 0 rfl) rfl ?_
      refine mg_get X hK hw 19 0 0 f_Fa_9 rfl rfl d_Fa_sourceOf_16 rfl ?_
      refine mg_iload X 21 d_Fa_sourceOf_19 (lv_at hl 4 rfl) rfl ?_
      refine mg_iald X hK hw 22 1 rfl (by omega) (by omega) d_Fa_sourceOf_21 rfl ?_
      refine mg_iconst X 23 4294967295 d_Fa_sourceOf_22 mg_ci_m1 rfl ?_
      refine mg_icmp_eq X 78 26 (by omega) (by omega) d_Fa_sourceOf_23 (by decide) rfl (fun hne => ?_) (fun hne => ?_)
      · -- pc 23 t
        refine mg_iconst X 79 2 d_Fa_sourceOf_78 mg_ci_2 rfl ?_
        refine mg_aload_n X 80 d_Fa_sourceOf_79 (lv_at hl 0 rfl) rfl ?_
        refine mg_get X hK hw 83 0 2 f_Fa_18 rfl rfl d_Fa_sourceOf_80 rfl ?_
        refine mg_iload X 85 d_Fa_sourceOf_83 (lv_at hl 4 rfl) rfl ?_
        refine mg_iald X hK hw 86 3 rfl (by omega) (by omega) d_Fa_sourceOf_85 rfl ?_
        refine mg_imul X 87 (nI (2 * (rk p1))) d_Fa_sourceOf_86 (pk_mul _ _) rfl ?_
        refine mg_iload X 89 d_Fa_sourceOf_87 (lv_at hl 5 rfl) rfl ?_
        refine mg_iadd X 90 (nI ((2 * (rk p1)) + c1)) d_Fa_sourceOf_89 (nI_add _ _) rfl ?_
        exact mg_iret X hr hlk (rfl) (()) (by rw [← hI]; exact congrArg nI (fm_fin (by omega)).symm) hw d_Fa_sourceOf_90
      · -- pc 23 f
        refine mg_iload_n X 27 d_Fa_sourceOf_26 (lv_at hl 3 rfl) rfl ?_
        refine mg_iconst X 28 2 d_Fa_sourceOf_27 mg_ci_2 rfl ?_
        refine mg_aload_n X 29 d_Fa_sourceOf_28 (lv_at hl 0 rfl) rfl ?_
        refine mg_get X hK hw 32 0 2 f_Fa_18 rfl rfl d_Fa_sourceOf_29 rfl ?_
        refine mg_iload X 34 d_Fa_sourceOf_32 (lv_at hl 4 rfl) rfl ?_
        refine mg_iald X hK hw 35 3 rfl (by omega) (by omega) d_Fa_sourceOf_34 rfl ?_
        refine mg_imul X 36 (nI (2 * (rk p1))) d_Fa_sourceOf_35 (pk_mul _ _) rfl ?_
        refine mg_iload X 38 d_Fa_sourceOf_36 (lv_at hl 5 rfl) rfl ?_
        refine mg_iadd X 39 (nI ((2 * (rk p1)) + c1)) d_Fa_sourceOf_38 (nI_add _ _) rfl ?_
        refine mg_ishr X 40 ((nI (w / 2 ^ ((2 * (rk p1)) + c1)))) d_Fa_sourceOf_39 (mg_shr (by omega) (by omega)) rfl ?_
        refine mg_iconst X 41 1 d_Fa_sourceOf_40 mg_ci_1 rfl ?_
        refine mg_iand X 42 ((nI ((w / 2 ^ ((2 * (rk p1)) + c1)) % 2))) d_Fa_sourceOf_41 (mg_and1 (Nat.lt_of_le_of_lt (Nat.div_le_self _ _) (by omega))) rfl ?_
        refine mg_istore X 44 [(7, .int (nI ((w / 2 ^ ((2 * (rk p1)) + c1)) % 2))), (0, .ref (h)), (1, .int (nI (p0))), (2, .int (nI (c0))), (3, .int (nI (w))), (4, .int (nI (p1))), (5, .int (nI (c1))), (6, .int (nI (k)))] d_Fa_sourceOf_42 hl (by decide) rfl rfl (fun ls hl => ?_)
        refine mg_iload X 46 d_Fa_sourceOf_44 (lv_at hl 6 rfl) rfl ?_
        refine mg_if_ne X 59 49 (by omega) d_Fa_sourceOf_46 (by decide) rfl (fun hz => ?_) (fun hz => ?_)
        · -- pc 46 t
          refine mg_aload_n X 60 d_Fa_sourceOf_59 (lv_at hl 1 rfl) rfl ?_
          refine mg_get X hK hw 63 0 1 f_Fa_15 rfl rfl d_Fa_sourceOf_60 rfl ?_
          refine mg_iload X 65 d_Fa_sourceOf_63 (lv_at hl 5 rfl) rfl ?_
          refine mg_iald X hK hw 66 2 rfl (by omega) (by omega) d_Fa_sourceOf_65 rfl ?_
          refine mg_istore X 68 [(4, .int (nI (mo p1))), (7, .int (nI ((w / 2 ^ ((2 * (rk p1)) + c1)) % 2))), (0, .ref (h)), (1, .int (nI (p0))), (2, .int (nI (c0))), (3, .int (nI (w))), (5, .int (nI (c1))), (6, .int (nI (k)))] d_Fa_sourceOf_66 hl (by decide) rfl rfl (fun ls hl => ?_)
          refine mg_iload X 70 d_Fa_sourceOf_68 (lv_at hl 1 rfl) rfl ?_
          refine mg_istore X 72 [(5, .int (nI ((w / 2 ^ ((2 * (rk p1)) + c1)) % 2))), (4, .int (nI (mo p1))), (7, .int (nI ((w / 2 ^ ((2 * (rk p1)) + c1)) % 2))), (0, .ref (h)), (1, .int (nI (p0))), (2, .int (nI (c0))), (3, .int (nI (w))), (6, .int (nI (k)))] d_Fa_sourceOf_70 hl (by decide) rfl rfl (fun ls hl => ?_)
          refine mg_iinc X 75 [(6, .int (nI (k + 1))), (5, .int (nI ((w / 2 ^ ((2 * (rk p1)) + c1)) % 2))), (4, .int (nI (mo p1))), (7, .int (nI ((w / 2 ^ ((2 * (rk p1)) + c1)) % 2))), (0, .ref (h)), (1, .int (nI (p0))), (2, .int (nI (c0))), (3, .int (nI (w)))] (k + 1) d_Fa_sourceOf_72 hl (k := 7) rfl (mg_inc1 _) (by decide) rfl rfl (fun ls hl => ?_)
          refine mg_goto X 9 d_Fa_sourceOf_75 (by decide) ?_
          have hl : lv_has ls 8 [(0, .ref (h)), (1, .int (nI (p0))), (2, .int (nI (c0))), (3, .int (nI (w))), (4, .int (nI (mo p1))), (5, .int (nI ((w / 2 ^ ((2 * (rk p1)) + c1)) % 2))), (6, .int (nI (k + 1)))] := lv_sub hl [4, 5, 6, 7, 2, 1, 0] rfl
          exact ih9 _ (by omega) (k + 1) (mo p1) ((w / 2 ^ ((2 * (rk p1)) + c1)) % 2) rfl (fm_bk1 hI hb hne hz) (by omega) (fm_lo1 hF hp1 hne) (Nat.mod_lt _ (by decide)) ls _ _ hl hw
        · -- pc 46 f
          refine mg_aload_n X 50 d_Fa_sourceOf_49 (lv_at hl 1 rfl) rfl ?_
          refine mg_get X hK hw 53 0 0 f_Fa_9 rfl rfl d_Fa_sourceOf_50 rfl ?_
          refine mg_iload X 55 d_Fa_sourceOf_53 (lv_at hl 5 rfl) rfl ?_
          refine mg_iald X hK hw 56 1 rfl (by omega) (by omega) d_Fa_sourceOf_55 rfl ?_
          refine mg_goto X 66 d_Fa_sourceOf_56 (by decide) ?_
          refine mg_istore X 68 [(4, .int (nI (fa p1))), (7, .int (nI ((w / 2 ^ ((2 * (rk p1)) + c1)) % 2))), (0, .ref (h)), (1, .int (nI (p0))), (2, .int (nI (c0))), (3, .int (nI (w))), (5, .int (nI (c1))), (6, .int (nI (k)))] d_Fa_sourceOf_66 hl (by decide) rfl rfl (fun ls hl => ?_)
          refine mg_iload X 70 d_Fa_sourceOf_68 (lv_at hl 1 rfl) rfl ?_
          refine mg_istore X 72 [(5, .int (nI ((w / 2 ^ ((2 * (rk p1)) + c1)) % 2))), (4, .int (nI (fa p1))), (7, .int (nI ((w / 2 ^ ((2 * (rk p1)) + c1)) % 2))), (0, .ref (h)), (1, .int (nI (p0))), (2, .int (nI (c0))), (3, .int (nI (w))), (6, .int (nI (k)))] d_Fa_sourceOf_70 hl (by decide) rfl rfl (fun ls hl => ?_)
          refine mg_iinc X 75 [(6, .int (nI (k + 1))), (5, .int (nI ((w / 2 ^ ((2 * (rk p1)) + c1)) % 2))), (4, .int (nI (fa p1))), (7, .int (nI ((w / 2 ^ ((2 * (rk p1)) + c1)) % 2))), (0, .ref (h)), (1, .int (nI (p0))), (2, .int (nI (c0))), (3, .int (nI (w)))] (k + 1) d_Fa_sourceOf_72 hl (k := 7) rfl (mg_inc1 _) (by decide) rfl rfl (fun ls hl => ?_)
          refine mg_goto X 9 d_Fa_sourceOf_75 (by decide) ?_
          have hl : lv_has ls 8 [(0, .ref (h)), (1, .int (nI (p0))), (2, .int (nI (c0))), (3, .int (nI (w))), (4, .int (nI (fa p1))), (5, .int (nI ((w / 2 ^ ((2 * (rk p1)) + c1)) % 2))), (6, .int (nI (k + 1)))] := lv_sub hl [4, 5, 6, 7, 2, 1, 0] rfl
          exact ih9 _ (by omega) (k + 1) (fa p1) ((w / 2 ^ ((2 * (rk p1)) + c1)) % 2) rfl (fm_bk0 hI hb hne hz) (by omega) (fm_lo0 hF hp1 hne) (Nat.mod_lt _ (by decide)) ls _ _ hl hw
  have hl : lv_has ls 8 [(0, .ref (h)), (1, .int (nI (p0))), (2, .int (nI (c0))), (3, .int (nI (w))), (4, .int (nI (p0))), (5, .int (nI (c0))), (6, .int (nI (0)))] := lv_sub hl [3, 4, 5, 6, 2, 1, 0] rfl
  exact L9 _ 0 p0 c0 rfl (rfl) (by omega) (hp) (hc) ls _ _ hl hw

set_option maxRecDepth 100000 in
set_option maxHeartbeats 4000000 in
theorem k_Fa_shareCopy (l : Launch) (D : va_G) (K : Nat → ClassId) (h : Nat) (qf : Nat) (qm : Nat) (qr : Nat) (nf : Nat) (nc : Nat) (fa : Nat → Nat) (mo : Nat → Nat) (rk : Nat → Nat) (a1 : Nat) (a2 : Nat) (w : Nat) (hF : fm_ok nf nc fa mo rk) (hp1 : a1 < nf + nc) (hp2 : a2 < nf + nc) (hw1 : w < 64) : mg_Mi l D K y_Fa_shareCopy b_Fa_shareCopy 8 (.boolean) ({ frames := 1, cells := 0, slots := 0, locals := 27 }) [.ref (h), .int (nI (a1)), .int (nI (a2)), .int (nI (w))] [mg_ob h 1 [.ref (qf), .ref (qm), .ref (qr), .int (nI (nf)), .int (nI (nc))], mg_ai K qf 6 fa, mg_ai K qm 6 mo, mg_ai K qr 6 rk] (fun (r : Int32) (_ : Unit) => r = nI (ft_c (fm_shr fa mo rk a1 a2 w))) (fun (_ : Unit) => [mg_ob h 1 [.ref (qf), .ref (qm), .ref (qr), .int (nI (nf)), .int (nI (nc))], mg_ai K qf 6 fa, mg_ai K qm 6 mo, mg_ai K qr 6 rk]) := by
  intro sz
  refine mg_entry (Qc := fun A => va_Qi (fun (r : Int32) (_ : Unit) => r = nI (ft_c (fm_shr fa mo rk a1 a2 w))) (mg_B D A (fun (_ : Unit) => [mg_ob h 1 [.ref (qf), .ref (qm), .ref (qr), .int (nI (nf)), .int (nI (nc))], mg_ai K qf 6 fa, mg_ai K qm 6 mo, mg_ai K qr 6 rk])) A) (by decide) (Nat.le_of_ble_eq_true rfl) ?_
  intro p e s m args below meth c A ls X hr hlk hnm hA hK hw hl
  have hl : lv_has ls 8 [(0, .ref (h)), (1, .int (nI (a1))), (2, .int (nI (a2))), (3, .int (nI (w)))] := hl
  have hF1 := hF.1
  have q10 := fm_lt3 hF w hp1 (show 0 < 2 by omega)
  have q11 := fm_lt3 hF w hp1 (show 1 < 2 by omega)
  have q20 := fm_lt3 hF w hp2 (show 0 < 2 by omega)
  have q21 := fm_lt3 hF w hp2 (show 1 < 2 by omega)
  refine mg_aload_n X 1 d_Fa_shareCopy_0 (lv_at hl 0 rfl) rfl ?_
  refine mg_iload_n X 2 d_Fa_shareCopy_1 (lv_at hl 1 rfl) rfl ?_
  refine mg_iconst X 3 0 d_Fa_shareCopy_2 mg_ci_0 rfl ?_
  refine mg_iload_n X 4 d_Fa_shareCopy_3 (lv_at hl 3 rfl) rfl ?_
  refine mg_callVi X hK hw hA 7 [0, 1, 2, 3] 0 (fun _ => [mg_ob h 1 [.ref (qf), .ref (qm), .ref (qr), .int (nI (nf)), .int (nI (nc))], mg_ai K qf 6 fa, mg_ai K qm 6 mo, mg_ai K qr 6 rk]) rfl rfl (k_Fa_sourceOf l D K h qf qm qr nf nc fa mo rk a1 0 w (by omega) (by omega) (by omega) (by omega)) g_Fa_38 ⟨by decide, by decide⟩ ⟨rfl, rfl⟩ rfl rfl rfl hl.1 (rest := []) (As := [.int (nI (a1)), .int (nI (0)), .int (nI (w))]) rfl (Nat.le_of_ble_eq_true rfl) d_Fa_shareCopy_4 ⟨Nat.zero_le _, Nat.zero_le _⟩ (fun _ => rfl) (fun _ => rfl) rfl ?_
  intro r _ H locs hp2 hw
  subst hp2
  refine mg_istore X 9 [(4, .int (nI (fm_src fa mo rk w 3 a1 0))), (0, .ref (h)), (1, .int (nI (a1))), (2, .int (nI (a2))), (3, .int (nI (w)))] d_Fa_shareCopy_7 hl (by decide) rfl rfl (fun ls hl => ?_)
  refine mg_aload_n X 10 d_Fa_shareCopy_9 (lv_at hl 1 rfl) rfl ?_
  refine mg_iload_n X 11 d_Fa_shareCopy_10 (lv_at hl 2 rfl) rfl ?_
  refine mg_iconst X 12 1 d_Fa_shareCopy_11 mg_ci_1 rfl ?_
  refine mg_iload_n X 13 d_Fa_shareCopy_12 (lv_at hl 4 rfl) rfl ?_
  refine mg_callVi X hK hw hA 16 [0, 1, 2, 3] 0 (fun _ => [mg_ob h 1 [.ref (qf), .ref (qm), .ref (qr), .int (nI (nf)), .int (nI (nc))], mg_ai K qf 6 fa, mg_ai K qm 6 mo, mg_ai K qr 6 rk]) rfl rfl (k_Fa_sourceOf l D K h qf qm qr nf nc fa mo rk a1 1 w (by omega) (by omega) (by omega) (by omega)) g_Fa_38 ⟨by decide, by decide⟩ ⟨rfl, rfl⟩ rfl rfl rfl hl.1 (rest := []) (As := [.int (nI (a1)), .int (nI (1)), .int (nI (w))]) rfl (Nat.le_of_ble_eq_true rfl) d_Fa_shareCopy_13 ⟨Nat.zero_le _, Nat.zero_le _⟩ (fun _ => rfl) (fun _ => rfl) rfl ?_
  intro r _ H locs hp4 hw
  subst hp4
  refine mg_istore X 18 [(5, .int (nI (fm_src fa mo rk w 3 a1 1))), (4, .int (nI (fm_src fa mo rk w 3 a1 0))), (0, .ref (h)), (1, .int (nI (a1))), (2, .int (nI (a2))), (3, .int (nI (w)))] d_Fa_shareCopy_16 hl (by decide) rfl rfl (fun ls hl => ?_)
  refine mg_aload_n X 19 d_Fa_shareCopy_18 (lv_at hl 2 rfl) rfl ?_
  refine mg_iload_n X 20 d_Fa_shareCopy_19 (lv_at hl 4 rfl) rfl ?_
  refine mg_iconst X 21 0 d_Fa_shareCopy_20 mg_ci_0 rfl ?_
  refine mg_iload_n X 22 d_Fa_shareCopy_21 (lv_at hl 5 rfl) rfl ?_
  refine mg_callVi X hK hw hA 25 [0, 1, 2, 3] 0 (fun _ => [mg_ob h 1 [.ref (qf), .ref (qm), .ref (qr), .int (nI (nf)), .int (nI (nc))], mg_ai K qf 6 fa, mg_ai K qm 6 mo, mg_ai K qr 6 rk]) rfl rfl (k_Fa_sourceOf l D K h qf qm qr nf nc fa mo rk a2 0 w (by omega) (by omega) (by omega) (by omega)) g_Fa_38 ⟨by decide, by decide⟩ ⟨rfl, rfl⟩ rfl rfl rfl hl.1 (rest := []) (As := [.int (nI (a2)), .int (nI (0)), .int (nI (w))]) rfl (Nat.le_of_ble_eq_true rfl) d_Fa_shareCopy_22 ⟨Nat.zero_le _, Nat.zero_le _⟩ (fun _ => rfl) (fun _ => rfl) rfl ?_
  intro r _ H locs hp6 hw
  subst hp6
  refine mg_istore X 27 [(6, .int (nI (fm_src fa mo rk w 3 a2 0))), (5, .int (nI (fm_src fa mo rk w 3 a1 1))), (4, .int (nI (fm_src fa mo rk w 3 a1 0))), (0, .ref (h)), (1, .int (nI (a1))), (2, .int (nI (a2))), (3, .int (nI (w)))] d_Fa_shareCopy_25 hl (by decide) rfl rfl (fun ls hl => ?_)
  refine mg_aload_n X 28 d_Fa_shareCopy_27 (lv_at hl 3 rfl) rfl ?_
  refine mg_iload_n X 29 d_Fa_shareCopy_28 (lv_at hl 5 rfl) rfl ?_
  refine mg_iconst X 30 1 d_Fa_shareCopy_29 mg_ci_1 rfl ?_
  refine mg_iload_n X 31 d_Fa_shareCopy_30 (lv_at hl 6 rfl) rfl ?_
  refine mg_callVi X hK hw hA 34 [0, 1, 2, 3] 0 (fun _ => [mg_ob h 1 [.ref (qf), .ref (qm), .ref (qr), .int (nI (nf)), .int (nI (nc))], mg_ai K qf 6 fa, mg_ai K qm 6 mo, mg_ai K qr 6 rk]) rfl rfl (k_Fa_sourceOf l D K h qf qm qr nf nc fa mo rk a2 1 w (by omega) (by omega) (by omega) (by omega)) g_Fa_38 ⟨by decide, by decide⟩ ⟨rfl, rfl⟩ rfl rfl rfl hl.1 (rest := []) (As := [.int (nI (a2)), .int (nI (1)), .int (nI (w))]) rfl (Nat.le_of_ble_eq_true rfl) d_Fa_shareCopy_31 ⟨Nat.zero_le _, Nat.zero_le _⟩ (fun _ => rfl) (fun _ => rfl) rfl ?_
  intro r _ H locs hp8 hw
  subst hp8
  refine mg_istore X 36 [(7, .int (nI (fm_src fa mo rk w 3 a2 1))), (6, .int (nI (fm_src fa mo rk w 3 a2 0))), (5, .int (nI (fm_src fa mo rk w 3 a1 1))), (4, .int (nI (fm_src fa mo rk w 3 a1 0))), (0, .ref (h)), (1, .int (nI (a1))), (2, .int (nI (a2))), (3, .int (nI (w)))] d_Fa_shareCopy_34 hl (by decide) rfl rfl (fun ls hl => ?_)
  refine mg_iload X 38 d_Fa_shareCopy_36 (lv_at hl 3 rfl) rfl ?_
  refine mg_iload X 40 d_Fa_shareCopy_38 (lv_at hl 1 rfl) rfl ?_
  refine mg_icmp_eq X 64 43 (by omega) (by omega) d_Fa_shareCopy_40 (by decide) rfl (fun e1 => ?_) (fun e1 => ?_)
  · -- pc 40 t
    refine mg_iconst X 65 1 d_Fa_shareCopy_64 mg_ci_1 rfl ?_
    refine mg_goto X 69 d_Fa_shareCopy_65 (by decide) ?_
    exact mg_iret X hr hlk (mg_nz (by omega)) (()) (by rw [ft_c1 (show fm_shr fa mo rk a1 a2 w by unfold fm_shr; omega)]) hw d_Fa_shareCopy_69
  · -- pc 40 f
    refine mg_iload X 45 d_Fa_shareCopy_43 (lv_at hl 3 rfl) rfl ?_
    refine mg_iload X 47 d_Fa_shareCopy_45 (lv_at hl 0 rfl) rfl ?_
    refine mg_icmp_eq X 64 50 (by omega) (by omega) d_Fa_shareCopy_47 (by decide) rfl (fun e2 => ?_) (fun e2 => ?_)
    · -- pc 47 t
      refine mg_iconst X 65 1 d_Fa_shareCopy_64 mg_ci_1 rfl ?_
      refine mg_goto X 69 d_Fa_shareCopy_65 (by decide) ?_
      exact mg_iret X hr hlk (mg_nz (by omega)) (()) (by rw [ft_c1 (show fm_shr fa mo rk a1 a2 w by unfold fm_shr; omega)]) hw d_Fa_shareCopy_69
    · -- pc 47 f
      refine mg_iload X 52 d_Fa_shareCopy_50 (lv_at hl 2 rfl) rfl ?_
      refine mg_iload X 54 d_Fa_shareCopy_52 (lv_at hl 1 rfl) rfl ?_
      refine mg_icmp_eq X 64 57 (by omega) (by omega) d_Fa_shareCopy_54 (by decide) rfl (fun e3 => ?_) (fun e3 => ?_)
      · -- pc 54 t
        refine mg_iconst X 65 1 d_Fa_shareCopy_64 mg_ci_1 rfl ?_
        refine mg_goto X 69 d_Fa_shareCopy_65 (by decide) ?_
        exact mg_iret X hr hlk (mg_nz (by omega)) (()) (by rw [ft_c1 (show fm_shr fa mo rk a1 a2 w by unfold fm_shr; omega)]) hw d_Fa_shareCopy_69
      · -- pc 54 f
        refine mg_iload X 59 d_Fa_shareCopy_57 (lv_at hl 2 rfl) rfl ?_
        refine mg_iload X 61 d_Fa_shareCopy_59 (lv_at hl 0 rfl) rfl ?_
        refine mg_icmp_ne X 68 64 (by omega) (by omega) d_Fa_shareCopy_61 (by decide) rfl (fun e4 => ?_) (fun e4 => ?_)
        · -- pc 61 t
          refine mg_iconst X 69 0 d_Fa_shareCopy_68 mg_ci_0 rfl ?_
          exact mg_iret X hr hlk (mg_nz (by omega)) (()) (by rw [ft_c0 (show ¬ fm_shr fa mo rk a1 a2 w by unfold fm_shr; omega)]) hw d_Fa_shareCopy_69
        · -- pc 61 f
          refine mg_iconst X 65 1 d_Fa_shareCopy_64 mg_ci_1 rfl ?_
          refine mg_goto X 69 d_Fa_shareCopy_65 (by decide) ?_
          exact mg_iret X hr hlk (mg_nz (by omega)) (()) (by rw [ft_c1 (show fm_shr fa mo rk a1 a2 w by unfold fm_shr; omega)]) hw d_Fa_shareCopy_69
