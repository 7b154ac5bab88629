set_option maxRecDepth 100000 in
set_option maxHeartbeats 4000000 in
theorem k_Fa_init (l : Launch) (D : va_G) (K : Nat → ClassId) (h : Nat)  : mg_Mn l D K y_Fa_init b_Fa_init 1 ({ frames := 1, cells := 3, slots := 18, locals := 20 }) (3) (18) [.ref (h)] [mg_ob h 1 [.null, .null, .null, .int (nI (0)), .int (nI (0))]] (fun (uu : (Nat) × (Nat) × (Nat)) => [mg_ob h 1 [.ref (uu.1), .ref (uu.2.1), .ref (uu.2.2), .int (nI (0)), .int (nI (0))]]) (fun (uu : (Nat) × (Nat) × (Nat)) => [mg_ai K uu.1 6 mg_z, mg_ai K uu.2.1 6 mg_z, mg_ai K uu.2.2 6 mg_z]) := by
  intro sz
  refine mg_entryN (Qc := fun A => va_Qv (fun (_ : (Nat) × (Nat) × (Nat)) => True) (mg_B D A (fun (uu : (Nat) × (Nat) × (Nat)) => [mg_ob h 1 [.ref (uu.1), .ref (uu.2.1), .ref (uu.2.2), .int (nI (0)), .int (nI (0))]] ++ [mg_ai K uu.1 6 mg_z, mg_ai K uu.2.1 6 mg_z, mg_ai K uu.2.2 6 mg_z])) A) (by decide) (Nat.le_of_ble_eq_true rfl) ?_
  intro p e s m args below meth c A ls X hr hlk hnm hA hK hw hKA hl
  have hl : lv_has ls 1 [(0, .ref (h))] := hl
  refine mg_aload_n X 1 d_Fa_init_0 (lv_at hl 0 rfl) rfl ?_
  refine mg_objinit X 4 oi_Fa oi_i oi_c hl.1 (Nat.le_of_ble_eq_true rfl) d_Fa_init_1 ⟨by decide, by decide⟩ rfl ?_
  refine mg_aload_n X 5 d_Fa_init_4 (lv_at hl 0 rfl) rfl ?_
  refine mg_bipush X 7 6 d_Fa_init_5 mg_cb_6 rfl ?_
  refine mg_newi X hK hw hA hKA 9 (fun qf => [mg_ob h 1 [.null, .null, .null, .int (nI (0)), .int (nI (0))], mg_ai K qf 6 mg_z]) ac_i (by decide) ⟨by decide, by decide⟩ d_Fa_init_7 (fun _ => rfl) rfl (fun qf H hw => ?_)
  refine mg_putF X hnm hK hw 12 0 0 [mg_ob h 1 [.ref (qf), .null, .null, .int (nI (0)), .int (nI (0))], mg_ai K qf 6 mg_z] fp_Fa_9 rfl (Nat.le_of_ble_eq_true rfl) rfl rfl d_Fa_init_9 rfl rfl (fun H locs hw => ?_)
  refine mg_aload_n X 13 d_Fa_init_12 (lv_at hl 0 rfl) rfl ?_
  refine mg_bipush X 15 6 d_Fa_init_13 mg_cb_6 rfl ?_
  refine mg_newi X hK hw hA hKA 17 (fun qm => [mg_ob h 1 [.ref (qf), .null, .null, .int (nI (0)), .int (nI (0))], mg_ai K qf 6 mg_z, mg_ai K qm 6 mg_z]) ac_i (by decide) ⟨by decide, by decide⟩ d_Fa_init_15 (fun _ => rfl) rfl (fun qm H hw => ?_)
  refine mg_putF X hnm hK hw 20 0 1 [mg_ob h 1 [.ref (qf), .ref (qm), .null, .int (nI (0)), .int (nI (0))], mg_ai K qf 6 mg_z, mg_ai K qm 6 mg_z] fp_Fa_15 rfl (Nat.le_of_ble_eq_true rfl) rfl rfl d_Fa_init_17 rfl rfl (fun H locs hw => ?_)
  refine mg_aload_n X 21 d_Fa_init_20 (lv_at hl 0 rfl) rfl ?_
  refine mg_bipush X 23 6 d_Fa_init_21 mg_cb_6 rfl ?_
  refine mg_newi X hK hw hA hKA 25 (fun qr => [mg_ob h 1 [.ref (qf), .ref (qm), .null, .int (nI (0)), .int (nI (0))], mg_ai K qf 6 mg_z, mg_ai K qm 6 mg_z, mg_ai K qr 6 mg_z]) ac_i (by decide) ⟨by decide, by decide⟩ d_Fa_init_23 (fun _ => rfl) rfl (fun qr H hw => ?_)
  refine mg_putF X hnm hK hw 28 0 2 [mg_ob h 1 [.ref (qf), .ref (qm), .ref (qr), .int (nI (0)), .int (nI (0))], mg_ai K qf 6 mg_z, mg_ai K qm 6 mg_z, mg_ai K qr 6 mg_z] fp_Fa_18 rfl (Nat.le_of_ble_eq_true rfl) rfl rfl d_Fa_init_25 rfl rfl (fun H locs hw => ?_)
  refine mg_aload_n X 29 d_Fa_init_28 (lv_at hl 0 rfl) rfl ?_
  refine mg_iconst X 30 0 d_Fa_init_29 mg_ci_0 rfl ?_
  refine mg_put X hK hw 33 0 3 [mg_ob h 1 [.ref (qf), .ref (qm), .ref (qr), .int (nI (0)), .int (nI (0))], mg_ai K qf 6 mg_z, mg_ai K qm 6 mg_z, mg_ai K qr 6 mg_z] fp_Fa_21 rfl (Nat.le_of_ble_eq_true rfl) rfl rfl d_Fa_init_30 rfl rfl (fun H locs hw => ?_)
  refine mg_aload_n X 34 d_Fa_init_33 (lv_at hl 0 rfl) rfl ?_
  refine mg_iconst X 35 0 d_Fa_init_34 mg_ci_0 rfl ?_
  refine mg_put X hK hw 38 0 4 [mg_ob h 1 [.ref (qf), .ref (qm), .ref (qr), .int (nI (0)), .int (nI (0))], mg_ai K qf 6 mg_z, mg_ai K qm 6 mg_z, mg_ai K qr 6 mg_z] fp_Fa_25 rfl (Nat.le_of_ble_eq_true rfl) rfl rfl d_Fa_init_35 rfl rfl (fun H locs hw => ?_)
  exact mg_vret X hr hlk ((qf, qm, qr)) (trivial) hw d_Fa_init_38

set_option maxRecDepth 100000 in
set_option maxHeartbeats 4000000 in
theorem k_Ma_init (l : Launch) (D : va_G) (K : Nat → ClassId) (hM : Nat)  : mg_Mn l D K y_Ma_init b_Ma_init 1 ({ frames := 1, cells := 4, slots := 63, locals := 20 }) (4) (63) [.ref (hM)] [mg_ob hM 2 [.null, .null, .null, .null, .int (nI (0)), .int (nI (0))]] (fun (uu : (Nat) × (Nat) × (Nat) × (Nat)) => [mg_ob hM 2 [.ref (uu.1), .ref (uu.2.1), .ref (uu.2.2.1), .ref (uu.2.2.2), .int (nI (0)), .int (nI (0))]]) (fun (uu : (Nat) × (Nat) × (Nat) × (Nat)) => [mg_ai K uu.1 12 mg_z, mg_ai K uu.2.1 3 mg_z, mg_ai K uu.2.2.1 24 mg_z, mg_ai K uu.2.2.2 24 mg_z]) := by
  intro sz
  refine mg_entryN (Qc := fun A => va_Qv (fun (_ : (Nat) × (Nat) × (Nat) × (Nat)) => True) (mg_B D A (fun (uu : (Nat) × (Nat) × (Nat) × (Nat)) => [mg_ob hM 2 [.ref (uu.1), .ref (uu.2.1), .ref (uu.2.2.1), .ref (uu.2.2.2), .int (nI (0)), .int (nI (0))]] ++ [mg_ai K uu.1 12 mg_z, mg_ai K uu.2.1 3 mg_z, mg_ai K uu.2.2.1 24 mg_z, mg_ai K uu.2.2.2 24 mg_z])) A) (by decide) (Nat.le_of_ble_eq_true rfl) ?_
  intro p e s m args below meth c A ls X hr hlk hnm hA hK hw hKA hl
  have hl : lv_has ls 1 [(0, .ref (hM))] := hl
  refine mg_aload_n X 1 d_Ma_init_0 (lv_at hl 0 rfl) rfl ?_
  refine mg_objinit X 4 oi_Ma oi_i oi_c hl.1 (Nat.le_of_ble_eq_true rfl) d_Ma_init_1 ⟨by decide, by decide⟩ rfl ?_
  refine mg_aload_n X 5 d_Ma_init_4 (lv_at hl 0 rfl) rfl ?_
  refine mg_bipush X 7 12 d_Ma_init_5 mg_cb_12 rfl ?_
  refine mg_newi X hK hw hA hKA 9 (fun qw => [mg_ob hM 2 [.null, .null, .null, .null, .int (nI (0)), .int (nI (0))], mg_ai K qw 12 mg_z]) ac_i (by decide) ⟨by decide, by decide⟩ d_Ma_init_7 (fun _ => rfl) rfl (fun qw H hw => ?_)
  refine mg_putF X hnm hK hw 12 0 0 [mg_ob hM 2 [.ref (qw), .null, .null, .null, .int (nI (0)), .int (nI (0))], mg_ai K qw 12 mg_z] fp_Ma_9 rfl (Nat.le_of_ble_eq_true rfl) rfl rfl d_Ma_init_9 rfl rfl (fun H locs hw => ?_)
  refine mg_aload_n X 13 d_Ma_init_12 (lv_at hl 0 rfl) rfl ?_
  refine mg_iconst X 14 3 d_Ma_init_13 mg_ci_3 rfl ?_
  refine mg_newi X hK hw hA hKA 16 (fun qra => [mg_ob hM 2 [.ref (qw), .null, .null, .null, .int (nI (0)), .int (nI (0))], mg_ai K qw 12 mg_z, mg_ai K qra 3 mg_z]) ac_i (by decide) ⟨by decide, by decide⟩ d_Ma_init_14 (fun _ => rfl) rfl (fun qra H hw => ?_)
  refine mg_putF X hnm hK hw 19 0 1 [mg_ob hM 2 [.ref (qw), .ref (qra), .null, .null, .int (nI (0)), .int (nI (0))], mg_ai K qw 12 mg_z, mg_ai K qra 3 mg_z] fp_Ma_15 rfl (Nat.le_of_ble_eq_true rfl) rfl rfl d_Ma_init_16 rfl rfl (fun H locs hw => ?_)
  refine mg_aload_n X 20 d_Ma_init_19 (lv_at hl 0 rfl) rfl ?_
  refine mg_bipush X 22 24 d_Ma_init_20 mg_cb_24 rfl ?_
  refine mg_newi X hK hw hA hKA 24 (fun qo => [mg_ob hM 2 [.ref (qw), .ref (qra), .null, .null, .int (nI (0)), .int (nI (0))], mg_ai K qw 12 mg_z, mg_ai K qra 3 mg_z, mg_ai K qo 24 mg_z]) ac_i (by decide) ⟨by decide, by decide⟩ d_Ma_init_22 (fun _ => rfl) rfl (fun qo H hw => ?_)
  refine mg_putF X hnm hK hw 27 0 2 [mg_ob hM 2 [.ref (qw), .ref (qra), .ref (qo), .null, .int (nI (0)), .int (nI (0))], mg_ai K qw 12 mg_z, mg_ai K qra 3 mg_z, mg_ai K qo 24 mg_z] fp_Ma_18 rfl (Nat.le_of_ble_eq_true rfl) rfl rfl d_Ma_init_24 rfl rfl (fun H locs hw => ?_)
  refine mg_aload_n X 28 d_Ma_init_27 (lv_at hl 0 rfl) rfl ?_
  refine mg_bipush X 30 24 d_Ma_init_28 mg_cb_24 rfl ?_
  refine mg_newi X hK hw hA hKA 32 (fun qt => [mg_ob hM 2 [.ref (qw), .ref (qra), .ref (qo), .null, .int (nI (0)), .int (nI (0))], mg_ai K qw 12 mg_z, mg_ai K qra 3 mg_z, mg_ai K qo 24 mg_z, mg_ai K qt 24 mg_z]) ac_i (by decide) ⟨by decide, by decide⟩ d_Ma_init_30 (fun _ => rfl) rfl (fun qt H hw => ?_)
  refine mg_putF X hnm hK hw 35 0 3 [mg_ob hM 2 [.ref (qw), .ref (qra), .ref (qo), .ref (qt), .int (nI (0)), .int (nI (0))], mg_ai K qw 12 mg_z, mg_ai K qra 3 mg_z, mg_ai K qo 24 mg_z, mg_ai K qt 24 mg_z] fp_Ma_21 rfl (Nat.le_of_ble_eq_true rfl) rfl rfl d_Ma_init_32 rfl rfl (fun H locs hw => ?_)
  refine mg_aload_n X 36 d_Ma_init_35 (lv_at hl 0 rfl) rfl ?_
  refine mg_iconst X 37 0 d_Ma_init_36 mg_ci_0 rfl ?_
  refine mg_put X hK hw 40 0 4 [mg_ob hM 2 [.ref (qw), .ref (qra), .ref (qo), .ref (qt), .int (nI (0)), .int (nI (0))], mg_ai K qw 12 mg_z, mg_ai K qra 3 mg_z, mg_ai K qo 24 mg_z, mg_ai K qt 24 mg_z] fp_Ma_24 rfl (Nat.le_of_ble_eq_true rfl) rfl rfl d_Ma_init_37 rfl rfl (fun H locs hw => ?_)
  refine mg_aload_n X 41 d_Ma_init_40 (lv_at hl 0 rfl) rfl ?_
  refine mg_iconst X 42 0 d_Ma_init_41 mg_ci_0 rfl ?_
  refine mg_put X hK hw 45 0 5 [mg_ob hM 2 [.ref (qw), .ref (qra), .ref (qo), .ref (qt), .int (nI (0)), .int (nI (0))], mg_ai K qw 12 mg_z, mg_ai K qra 3 mg_z, mg_ai K qo 24 mg_z, mg_ai K qt 24 mg_z] fp_Ma_28 rfl (Nat.le_of_ble_eq_true rfl) rfl rfl d_Ma_init_42 rfl rfl (fun H locs hw => ?_)
  exact mg_vret X hr hlk ((qw, qra, qo, qt)) (trivial) hw d_Ma_init_45

set_option maxRecDepth 100000 in
set_option maxHeartbeats 4000000 in
theorem k_Fi_init (l : Launch) (D : va_G) (K : Nat → ClassId) (hF : Nat) (h : Nat) (hM : Nat)  : mg_Mn l D K y_Fi_init b_Fi_init 3 ({ frames := 1, cells := 2, slots := 262, locals := 20 }) (2) (262) [.ref (hF), .ref (h), .ref (hM)] [mg_ob hF 3 [.null, .null, .null, .null]] (fun (uu : (Nat) × (Nat)) => [mg_ob hF 3 [.ref (h), .ref (hM), .ref (uu.1), .ref (uu.2)]]) (fun (uu : (Nat) × (Nat)) => [mg_ai K uu.1 256 mg_z, mg_ai K uu.2 6 mg_z]) := by
  intro sz
  refine mg_entryN (Qc := fun A => va_Qv (fun (_ : (Nat) × (Nat)) => True) (mg_B D A (fun (uu : (Nat) × (Nat)) => [mg_ob hF 3 [.ref (h), .ref (hM), .ref (uu.1), .ref (uu.2)]] ++ [mg_ai K uu.1 256 mg_z, mg_ai K uu.2 6 mg_z])) A) (by decide) (Nat.le_of_ble_eq_true rfl) ?_
  intro p e s m args below meth c A ls X hr hlk hnm hA hK hw hKA hl
  have hl : lv_has ls 3 [(0, .ref (hF)), (1, .ref (h)), (2, .ref (hM))] := hl
  refine mg_aload_n X 1 d_Fi_init_0 (lv_at hl 0 rfl) rfl ?_
  refine mg_objinit X 4 oi_Fi oi_i oi_c hl.1 (Nat.le_of_ble_eq_true rfl) d_Fi_init_1 ⟨by decide, by decide⟩ rfl ?_
  refine mg_aload_n X 5 d_Fi_init_4 (lv_at hl 0 rfl) rfl ?_
  refine mg_aload_n X 6 d_Fi_init_5 (lv_at hl 1 rfl) rfl ?_
  refine mg_putF X hnm hK hw 9 0 0 [mg_ob hF 3 [.ref (h), .null, .null, .null]] fp_Fi_9 rfl (Nat.le_of_ble_eq_true rfl) rfl rfl d_Fi_init_6 rfl rfl (fun H locs hw => ?_)
  refine mg_aload_n X 10 d_Fi_init_9 (lv_at hl 0 rfl) rfl ?_
  refine mg_aload_n X 11 d_Fi_init_10 (lv_at hl 2 rfl) rfl ?_
  refine mg_putF X hnm hK hw 14 0 1 [mg_ob hF 3 [.ref (h), .ref (hM), .null, .null]] fp_Fi_15 rfl (Nat.le_of_ble_eq_true rfl) rfl rfl d_Fi_init_11 rfl rfl (fun H locs hw => ?_)
  refine mg_aload_n X 15 d_Fi_init_14 (lv_at hl 0 rfl) rfl ?_
  refine mg_sipush X 18 256 d_Fi_init_15 mg_cs_256 rfl ?_
  refine mg_newi X hK hw hA hKA 20 (fun qtb => [mg_ob hF 3 [.ref (h), .ref (hM), .null, .null], mg_ai K qtb 256 mg_z]) ac_i (by decide) ⟨by decide, by decide⟩ d_Fi_init_18 (fun _ => rfl) rfl (fun qtb H hw => ?_)
  refine mg_putF X hnm hK hw 23 0 2 [mg_ob hF 3 [.ref (h), .ref (hM), .ref (qtb), .null], mg_ai K qtb 256 mg_z] fp_Fi_19 rfl (Nat.le_of_ble_eq_true rfl) rfl rfl d_Fi_init_20 rfl rfl (fun H locs hw => ?_)
  refine mg_aload_n X 24 d_Fi_init_23 (lv_at hl 0 rfl) rfl ?_
  refine mg_bipush X 26 6 d_Fi_init_24 mg_cb_6 rfl ?_
  refine mg_newi X hK hw hA hKA 28 (fun ql => [mg_ob hF 3 [.ref (h), .ref (hM), .ref (qtb), .null], mg_ai K qtb 256 mg_z, mg_ai K ql 6 mg_z]) ac_i (by decide) ⟨by decide, by decide⟩ d_Fi_init_26 (fun _ => rfl) rfl (fun ql H hw => ?_)
  refine mg_putF X hnm hK hw 31 0 3 [mg_ob hF 3 [.ref (h), .ref (hM), .ref (qtb), .ref (ql)], mg_ai K qtb 256 mg_z, mg_ai K ql 6 mg_z] fp_Fi_23 rfl (Nat.le_of_ble_eq_true rfl) rfl rfl d_Fi_init_28 rfl rfl (fun H locs hw => ?_)
  exact mg_vret X hr hlk ((qtb, ql)) (trivial) hw d_Fi_init_31

set_option maxRecDepth 100000 in
set_option maxHeartbeats 4000000 in
theorem k_Am_init (l : Launch) (D : va_G) (K : Nat → ClassId) (aX : Nat) (n : Nat) (hn : n ≤ 64) : mg_Mn l D K y_Am_init b_Am_init 2 ({ frames := 1, cells := 0 + 1, slots := 0 + n * 6, locals := 20 }) (0 + 1) (0 + n * 6) [.ref (aX), .int (nI (n))] [mg_ob aX 0 [.null]] (fun (qX : (Nat)) => [mg_ob aX 0 [.ref (qX)]]) (fun (qX : (Nat)) => [mg_al K qX (n * 6) mg_z]) := by
  intro sz
  refine mg_entryN (Qc := fun A => va_Qv (fun (_ : (Nat)) => True) (mg_B D A (fun (qX : (Nat)) => [mg_ob aX 0 [.ref (qX)]] ++ [mg_al K qX (n * 6) mg_z])) A) (by decide) (Nat.le_of_ble_eq_true rfl) ?_
  intro p e s m args below meth c A ls X hr hlk hnm hA hK hw hKA hl
  have hl : lv_has ls 2 [(0, .ref (aX)), (1, .int (nI (n)))] := hl
  refine mg_aload_n X 1 d_Am_init_0 (lv_at hl 0 rfl) rfl ?_
  refine mg_objinit X 4 oi_Am oi_i oi_c hl.1 (Nat.le_of_ble_eq_true rfl) d_Am_init_1 ⟨by dsimp only; omega, by dsimp only; omega⟩ rfl ?_
  refine mg_aload_n X 5 d_Am_init_4 (lv_at hl 0 rfl) rfl ?_
  refine mg_iload_n X 6 d_Am_init_5 (lv_at hl 1 rfl) rfl ?_
  refine mg_bipush X 8 6 d_Am_init_6 mg_cb_6 rfl ?_
  refine mg_imul X 9 (nI (n * 6)) d_Am_init_8 (pk_mul _ _) rfl ?_
  refine mg_newl X hK hw hA hKA 11 (fun qX => [mg_ob aX 0 [.null], mg_al K qX (n * 6) mg_z]) ac_l (by omega) ⟨by dsimp only; omega, by dsimp only; omega⟩ d_Am_init_9 (fun _ => rfl) rfl (fun qX H hw => ?_)
  refine mg_putF X hnm hK hw 14 0 0 [mg_ob aX 0 [.ref (qX)], mg_al K qX (n * 6) mg_z] fp_Am_11 rfl (Nat.le_of_ble_eq_true rfl) rfl rfl d_Am_init_11 rfl rfl (fun H locs hw => ?_)
  exact mg_vret X hr hlk (qX) (trivial) hw d_Am_init_14

set_option maxRecDepth 100000 in
set_option maxHeartbeats 4000000 in
theorem k_Su_init (l : Launch) (D : va_G) (K : Nat → ClassId) (aS : Nat) (h : Nat) (hM : Nat) (hF : Nat)  : mg_Mn l D K y_Su_init b_Su_init 4 ({ frames := 2, cells := 9, slots := 1183, locals := 41 }) (9) (1183) [.ref (aS), .ref (h), .ref (hM), .ref (hF)] [mg_ob aS 4 [.null, .null, .null, .null, .null, .null, .null, .null]] (fun (uu : (Nat) × (Nat) × (Nat) × (Nat) × (Nat) × (Nat) × (Nat) × (Nat) × (Nat)) => [mg_ob aS 4 [.ref (h), .ref (hM), .ref (hF), .ref (uu.1), .ref (uu.2.1), .ref (uu.2.2.2.1), .ref (uu.2.2.2.2.2.1), .ref (uu.2.2.2.2.2.2.2.1)]]) (fun (uu : (Nat) × (Nat) × (Nat) × (Nat) × (Nat) × (Nat) × (Nat) × (Nat) × (Nat)) => [mg_ai K uu.1 3 mg_z, mg_ob uu.2.1 0 [.ref (uu.2.2.1)], mg_al K uu.2.2.1 (64 * 6) mg_z, mg_ob uu.2.2.2.1 0 [.ref (uu.2.2.2.2.1)], mg_al K uu.2.2.2.2.1 (64 * 6) mg_z, mg_ob uu.2.2.2.2.2.1 0 [.ref (uu.2.2.2.2.2.2.1)], mg_al K uu.2.2.2.2.2.2.1 (64 * 6) mg_z, mg_ob uu.2.2.2.2.2.2.2.1 0 [.ref (uu.2.2.2.2.2.2.2.2)], mg_al K uu.2.2.2.2.2.2.2.2 (4 * 6) mg_z]) := by
  intro sz
  refine mg_entryN (Qc := fun A => va_Qv (fun (_ : (Nat) × (Nat) × (Nat) × (Nat) × (Nat) × (Nat) × (Nat) × (Nat) × (Nat)) => True) (mg_B D A (fun (uu : (Nat) × (Nat) × (Nat) × (Nat) × (Nat) × (Nat) × (Nat) × (Nat) × (Nat)) => [mg_ob aS 4 [.ref (h), .ref (hM), .ref (hF), .ref (uu.1), .ref (uu.2.1), .ref (uu.2.2.2.1), .ref (uu.2.2.2.2.2.1), .ref (uu.2.2.2.2.2.2.2.1)]] ++ [mg_ai K uu.1 3 mg_z, mg_ob uu.2.1 0 [.ref (uu.2.2.1)], mg_al K uu.2.2.1 (64 * 6) mg_z, mg_ob uu.2.2.2.1 0 [.ref (uu.2.2.2.2.1)], mg_al K uu.2.2.2.2.1 (64 * 6) mg_z, mg_ob uu.2.2.2.2.2.1 0 [.ref (uu.2.2.2.2.2.2.1)], mg_al K uu.2.2.2.2.2.2.1 (64 * 6) mg_z, mg_ob uu.2.2.2.2.2.2.2.1 0 [.ref (uu.2.2.2.2.2.2.2.2)], mg_al K uu.2.2.2.2.2.2.2.2 (4 * 6) mg_z])) A) (by decide) (Nat.le_of_ble_eq_true rfl) ?_
  intro p e s m args below meth c A ls X hr hlk hnm hA hK hw hKA hl
  have hl : lv_has ls 4 [(0, .ref (aS)), (1, .ref (h)), (2, .ref (hM)), (3, .ref (hF))] := hl
  refine mg_aload_n X 1 d_Su_init_0 (lv_at hl 0 rfl) rfl ?_
  refine mg_objinit X 4 oi_Su oi_i oi_c hl.1 (Nat.le_of_ble_eq_true rfl) d_Su_init_1 ⟨by decide, by decide⟩ rfl ?_
  refine mg_aload_n X 5 d_Su_init_4 (lv_at hl 0 rfl) rfl ?_
  refine mg_aload_n X 6 d_Su_init_5 (lv_at hl 1 rfl) rfl ?_
  refine mg_putF X hnm hK hw 9 0 0 [mg_ob aS 4 [.ref (h), .null, .null, .null, .null, .null, .null, .null]] fp_Su_9 rfl (Nat.le_of_ble_eq_true rfl) rfl rfl d_Su_init_6 rfl rfl (fun H locs hw => ?_)
  refine mg_aload_n X 10 d_Su_init_9 (lv_at hl 0 rfl) rfl ?_
  refine mg_aload_n X 11 d_Su_init_10 (lv_at hl 2 rfl) rfl ?_
  refine mg_putF X hnm hK hw 14 0 1 [mg_ob aS 4 [.ref (h), .ref (hM), .null, .null, .null, .null, .null, .null]] fp_Su_15 rfl (Nat.le_of_ble_eq_true rfl) rfl rfl d_Su_init_11 rfl rfl (fun H locs hw => ?_)
  refine mg_aload_n X 15 d_Su_init_14 (lv_at hl 0 rfl) rfl ?_
  refine mg_aload_n X 16 d_Su_init_15 (lv_at hl 3 rfl) rfl ?_
  refine mg_putF X hnm hK hw 19 0 2 [mg_ob aS 4 [.ref (h), .ref (hM), .ref (hF), .null, .null, .null, .null, .null]] fp_Su_19 rfl (Nat.le_of_ble_eq_true rfl) rfl rfl d_Su_init_16 rfl rfl (fun H locs hw => ?_)
  refine mg_aload_n X 20 d_Su_init_19 (lv_at hl 0 rfl) rfl ?_
  refine mg_iconst X 21 3 d_Su_init_20 mg_ci_3 rfl ?_
  refine mg_newi X hK hw hA hKA 23 (fun qsr => [mg_ob aS 4 [.ref (h), .ref (hM), .ref (hF), .null, .null, .null, .null, .null], mg_ai K qsr 3 mg_z]) ac_i (by decide) ⟨by decide, by decide⟩ d_Su_init_21 (fun _ => rfl) rfl (fun qsr H hw => ?_)
  refine mg_putF X hnm hK hw 26 0 3 [mg_ob aS 4 [.ref (h), .ref (hM), .ref (hF), .ref (qsr), .null, .null, .null, .null], mg_ai K qsr 3 mg_z] fp_Su_23 rfl (Nat.le_of_ble_eq_true rfl) rfl rfl d_Su_init_23 rfl rfl (fun H locs hw => ?_)
  refine mg_aload_n X 27 d_Su_init_26 (lv_at hl 0 rfl) rfl ?_
  refine mg_new X hK hw hA 30 (fun aB => [mg_ob aS 4 [.ref (h), .ref (hM), .ref (hF), .ref (qsr), .null, .null, .null, .null], mg_ai K qsr 3 mg_z, mg_ob aB 0 [.null]]) nc_Su_27 ⟨by decide, by decide⟩ d_Su_init_27 (fun _ => rfl) rfl (fun aB H hw => ?_)
  refine mg_dup X 31 d_Su_init_30 rfl rfl ?_
  refine mg_bipush X 33 64 d_Su_init_31 mg_cb_64 rfl ?_
  refine mg_callN X hK hw hA hKA 36 [2] (fun qB => [mg_ob aS 4 [.ref (h), .ref (hM), .ref (hF), .ref (qsr), .null, .null, .null, .null], mg_ai K qsr 3 mg_z, mg_ob aB 0 [.ref (qB)], mg_al K qB (64 * 6) mg_z]) (k_Am_init l D K aB 64 (by omega)) gi_Su_29 ⟨by decide, by decide⟩ ⟨rfl, rfl⟩ rfl rfl rfl hl.1 (rest := [.ref (aB), .ref (aS)]) (As := [.int (nI (64))]) rfl (Nat.le_of_ble_eq_true rfl) d_Su_init_33 ⟨by decide, by decide⟩ (fun _ => rfl) (fun _ => rfl) rfl ?_
  intro qB H locs hw
  refine mg_putF X hnm hK hw 39 0 4 [mg_ob aS 4 [.ref (h), .ref (hM), .ref (hF), .ref (qsr), .ref (aB), .null, .null, .null], mg_ai K qsr 3 mg_z, mg_ob aB 0 [.ref (qB)], mg_al K qB (64 * 6) mg_z] fp_Su_32 rfl (Nat.le_of_ble_eq_true rfl) rfl rfl d_Su_init_36 rfl rfl (fun H locs hw => ?_)
  refine mg_aload_n X 40 d_Su_init_39 (lv_at hl 0 rfl) rfl ?_
  refine mg_new X hK hw hA 43 (fun aE => [mg_ob aS 4 [.ref (h), .ref (hM), .ref (hF), .ref (qsr), .ref (aB), .null, .null, .null], mg_ai K qsr 3 mg_z, mg_ob aB 0 [.ref (qB)], mg_al K qB (64 * 6) mg_z, mg_ob aE 0 [.null]]) nc_Su_27 ⟨by decide, by decide⟩ d_Su_init_40 (fun _ => rfl) rfl (fun aE H hw => ?_)
  refine mg_dup X 44 d_Su_init_43 rfl rfl ?_
  refine mg_bipush X 46 64 d_Su_init_44 mg_cb_64 rfl ?_
  refine mg_callN X hK hw hA hKA 49 [4] (fun qE => [mg_ob aS 4 [.ref (h), .ref (hM), .ref (hF), .ref (qsr), .ref (aB), .null, .null, .null], mg_ai K qsr 3 mg_z, mg_ob aB 0 [.ref (qB)], mg_al K qB (64 * 6) mg_z, mg_ob aE 0 [.ref (qE)], mg_al K qE (64 * 6) mg_z]) (k_Am_init l D K aE 64 (by omega)) gi_Su_29 ⟨by decide, by decide⟩ ⟨rfl, rfl⟩ rfl rfl rfl hl.1 (rest := [.ref (aE), .ref (aS)]) (As := [.int (nI (64))]) rfl (Nat.le_of_ble_eq_true rfl) d_Su_init_46 ⟨by decide, by decide⟩ (fun _ => rfl) (fun _ => rfl) rfl ?_
  intro qE H locs hw
  refine mg_putF X hnm hK hw 52 0 5 [mg_ob aS 4 [.ref (h), .ref (hM), .ref (hF), .ref (qsr), .ref (aB), .ref (aE), .null, .null], mg_ai K qsr 3 mg_z, mg_ob aB 0 [.ref (qB)], mg_al K qB (64 * 6) mg_z, mg_ob aE 0 [.ref (qE)], mg_al K qE (64 * 6) mg_z] fp_Su_36 rfl (Nat.le_of_ble_eq_true rfl) rfl rfl d_Su_init_49 rfl rfl (fun H locs hw => ?_)
  refine mg_aload_n X 53 d_Su_init_52 (lv_at hl 0 rfl) rfl ?_
  refine mg_new X hK hw hA 56 (fun aQ => [mg_ob aS 4 [.ref (h), .ref (hM), .ref (hF), .ref (qsr), .ref (aB), .ref (aE), .null, .null], mg_ai K qsr 3 mg_z, mg_ob aB 0 [.ref (qB)], mg_al K qB (64 * 6) mg_z, mg_ob aE 0 [.ref (qE)], mg_al K qE (64 * 6) mg_z, mg_ob aQ 0 [.null]]) nc_Su_27 ⟨by decide, by decide⟩ d_Su_init_53 (fun _ => rfl) rfl (fun aQ H hw => ?_)
  refine mg_dup X 57 d_Su_init_56 rfl rfl ?_
  refine mg_bipush X 59 64 d_Su_init_57 mg_cb_64 rfl ?_
  refine mg_callN X hK hw hA hKA 62 [6] (fun qQ => [mg_ob aS 4 [.ref (h), .ref (hM), .ref (hF), .ref (qsr), .ref (aB), .ref (aE), .null, .null], mg_ai K qsr 3 mg_z, mg_ob aB 0 [.ref (qB)], mg_al K qB (64 * 6) mg_z, mg_ob aE 0 [.ref (qE)], mg_al K qE (64 * 6) mg_z, mg_ob aQ 0 [.ref (qQ)], mg_al K qQ (64 * 6) mg_z]) (k_Am_init l D K aQ 64 (by omega)) gi_Su_29 ⟨by decide, by decide⟩ ⟨rfl, rfl⟩ rfl rfl rfl hl.1 (rest := [.ref (aQ), .ref (aS)]) (As := [.int (nI (64))]) rfl (Nat.le_of_ble_eq_true rfl) d_Su_init_59 ⟨by decide, by decide⟩ (fun _ => rfl) (fun _ => rfl) rfl ?_
  intro qQ H locs hw
  refine mg_putF X hnm hK hw 65 0 6 [mg_ob aS 4 [.ref (h), .ref (hM), .ref (hF), .ref (qsr), .ref (aB), .ref (aE), .ref (aQ), .null], mg_ai K qsr 3 mg_z, mg_ob aB 0 [.ref (qB)], mg_al K qB (64 * 6) mg_z, mg_ob aE 0 [.ref (qE)], mg_al K qE (64 * 6) mg_z, mg_ob aQ 0 [.ref (qQ)], mg_al K qQ (64 * 6) mg_z] fp_Su_39 rfl (Nat.le_of_ble_eq_true rfl) rfl rfl d_Su_init_62 rfl rfl (fun H locs hw => ?_)
  refine mg_aload_n X 66 d_Su_init_65 (lv_at hl 0 rfl) rfl ?_
  refine mg_new X hK hw hA 69 (fun aT => [mg_ob aS 4 [.ref (h), .ref (hM), .ref (hF), .ref (qsr), .ref (aB), .ref (aE), .ref (aQ), .null], mg_ai K qsr 3 mg_z, mg_ob aB 0 [.ref (qB)], mg_al K qB (64 * 6) mg_z, mg_ob aE 0 [.ref (qE)], mg_al K qE (64 * 6) mg_z, mg_ob aQ 0 [.ref (qQ)], mg_al K qQ (64 * 6) mg_z, mg_ob aT 0 [.null]]) nc_Su_27 ⟨by decide, by decide⟩ d_Su_init_66 (fun _ => rfl) rfl (fun aT H hw => ?_)
  refine mg_dup X 70 d_Su_init_69 rfl rfl ?_
  refine mg_iconst X 71 4 d_Su_init_70 mg_ci_4 rfl ?_
  refine mg_callN X hK hw hA hKA 74 [8] (fun qT => [mg_ob aS 4 [.ref (h), .ref (hM), .ref (hF), .ref (qsr), .ref (aB), .ref (aE), .ref (aQ), .null], mg_ai K qsr 3 mg_z, mg_ob aB 0 [.ref (qB)], mg_al K qB (64 * 6) mg_z, mg_ob aE 0 [.ref (qE)], mg_al K qE (64 * 6) mg_z, mg_ob aQ 0 [.ref (qQ)], mg_al K qQ (64 * 6) mg_z, mg_ob aT 0 [.ref (qT)], mg_al K qT (4 * 6) mg_z]) (k_Am_init l D K aT 4 (by omega)) gi_Su_29 ⟨by decide, by decide⟩ ⟨rfl, rfl⟩ rfl rfl rfl hl.1 (rest := [.ref (aT), .ref (aS)]) (As := [.int (nI (4))]) rfl (Nat.le_of_ble_eq_true rfl) d_Su_init_71 ⟨by decide, by decide⟩ (fun _ => rfl) (fun _ => rfl) rfl ?_
  intro qT H locs hw
  refine mg_putF X hnm hK hw 77 0 7 [mg_ob aS 4 [.ref (h), .ref (hM), .ref (hF), .ref (qsr), .ref (aB), .ref (aE), .ref (aQ), .ref (aT)], mg_ai K qsr 3 mg_z, mg_ob aB 0 [.ref (qB)], mg_al K qB (64 * 6) mg_z, mg_ob aE 0 [.ref (qE)], mg_al K qE (64 * 6) mg_z, mg_ob aQ 0 [.ref (qQ)], mg_al K qQ (64 * 6) mg_z, mg_ob aT 0 [.ref (qT)], mg_al K qT (4 * 6) mg_z] fp_Su_42 rfl (Nat.le_of_ble_eq_true rfl) rfl rfl d_Su_init_74 rfl rfl (fun H locs hw => ?_)
  exact mg_vret X hr hlk ((qsr, aB, qB, aE, qE, aQ, qQ, aT, qT)) (trivial) hw d_Su_init_77
