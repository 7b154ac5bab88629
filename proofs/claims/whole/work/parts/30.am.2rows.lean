set_option maxRecDepth 100000 in
set_option maxHeartbeats 4000000 in
theorem k_Am_set (l : Launch) (D : va_G) (K : Nat → ClassId) (h : Nat) (q : Nat) (n : Nat) (i : Nat) (v : Nat) (d : Nat → Nat) (V : Nat → Nat) (hn : n ≤ 64) (hR : am_R n d V) (hi : i < n) (hv : v < 1000000000) : mg_Mv l D K y_Am_set b_Am_set 5 ({ frames := 0, cells := 0, slots := 0, locals := 0 }) [.ref (h), .int (nI (i)), .int (nI (v))] [mg_ob h 0 [.ref (q)], mg_al K q (n * 6) d] (fun (u : (Nat → Nat)) => am_R n u (va_up V i v)) (fun (u : (Nat → Nat)) => [mg_ob h 0 [.ref (q)], mg_al K q (n * 6) u]) := by
  intro sz
  refine mg_entry (Qc := fun A => va_Qv (fun (u : (Nat → Nat)) => am_R n u (va_up V i v)) (mg_B D A (fun (u : (Nat → Nat)) => [mg_ob h 0 [.ref (q)], mg_al K q (n * 6) u])) A) (by decide) (Nat.le_of_ble_eq_true rfl) ?_
  intro p e s m args below meth c A ls X hr hlk hnm hA hK hw hl
  have hl : lv_has ls 5 [(0, .ref (h)), (1, .int (nI (i))), (2, .int (nI (v)))] := hl
  refine mg_iload_n X 1 d_Am_set_0 (lv_at hl 1 rfl) rfl ?_
  refine mg_bipush X 3 6 d_Am_set_1 mg_cb_6 rfl ?_
  refine mg_imul X 4 (nI (i * 6)) d_Am_set_3 (pk_mul _ _) rfl ?_
  refine mg_istore_n X 5 [(3, .int (nI (i * 6))), (0, .ref (h)), (1, .int (nI (i))), (2, .int (nI (v)))] d_Am_set_4 hl (by decide) rfl rfl (fun ls hl => ?_)
  refine mg_aload_n X 6 d_Am_set_5 (lv_at hl 1 rfl) rfl ?_
  refine mg_get X hK hw 9 0 0 f_Am_11 rfl rfl d_Am_set_6 rfl ?_
  refine mg_iload_n X 10 d_Am_set_9 (lv_at hl 0 rfl) rfl ?_
  refine mg_iload_n X 11 d_Am_set_10 (lv_at hl 3 rfl) rfl ?_
  refine mg_i2l X 12 d_Am_set_11 (by omega) rfl ?_
  refine mg_last X hK hw 13 1 [mg_ob h 0 [.ref (q)], mg_al K q (n * 6) (va_up d (i * 6) v)] rfl (by omega) (by omega) d_Am_set_12 rfl rfl (fun H locs hw => ?_)
  refine mg_iconst X 14 1 d_Am_set_13 mg_ci_1 rfl ?_
  refine mg_istore X 16 [(4, .int (nI (1))), (3, .int (nI (i * 6))), (0, .ref (h)), (1, .int (nI (i))), (2, .int (nI (v)))] d_Am_set_14 hl (by decide) rfl rfl (fun ls hl => ?_)
  have L16 : ∀ (n0 : Nat) (k : Nat) (u : Nat → Nat), n0 = 6 - k → (am_setI n i v k d u) → (k ≤ 6) → ∀ (ls : Array Slot) (H : Heap) (locs : List Loc), lv_has ls 5 [(0, .ref (h)), (1, .int (nI (i))), (2, .int (nI (v))), (3, .int (nI (i * 6))), (4, .int (nI (k)))] → mg_H D A s.heap H locs [mg_ob h 0 [.ref (q)], mg_al K q (n * 6) u] → W p l e ({ frames := 0, cells := 0, slots := 0, locals := 0 }) s m args below meth c H locs 0 0 (MQ below (va_Qv (fun (u : (Nat → Nat)) => am_R n u (va_up V i v)) (mg_B D A (fun (u : (Nat → Nat)) => [mg_ob h 0 [.ref (q)], mg_al K q (n * 6) u])) A) args s (0) (0) A) (F0 m 16 ls []) := by
    intro n0
    induction n0 using Nat.strongRecOn with
    | ind n0 ih16 =>
    intro k u hm16 hI hk ls H locs hl hw
    refine mg_iload X 18 d_Am_set_16 (lv_at hl 4 rfl) rfl ?_
    refine mg_bipush X 20 6 d_Am_set_18 mg_cb_6 rfl ?_
    refine mg_icmp_ge X 39 23 (by omega) (by omega) d_Am_set_20 (by decide) rfl (fun hb => ?_) (fun hb => ?_)
    · -- pc 20 t
      exact mg_vret X hr hlk (u) (by obtain rfl : k = 6 := (by omega); exact am_setF hI hR) hw d_Am_set_39
    · -- pc 20 f
      refine mg_aload_n X 24 d_Am_set_23 (lv_at hl 0 rfl) rfl ?_
      refine mg_get X hK hw 27 0 0 f_Am_11 rfl rfl d_Am_set_24 rfl ?_
      refine mg_iload_n X 28 d_Am_set_27 (lv_at hl 3 rfl) rfl ?_
      refine mg_iload X 30 d_Am_set_28 (lv_at hl 4 rfl) rfl ?_
      refine mg_iadd X 31 (nI ((i * 6) + k)) d_Am_set_30 (nI_add _ _) rfl ?_
      refine mg_lconst X 32 0 d_Am_set_31 rfl rfl ?_
      refine mg_last X hK hw 33 1 [mg_ob h 0 [.ref (q)], mg_al K q (n * 6) (va_up u ((i * 6) + k) 0)] rfl (by omega) (by omega) d_Am_set_32 rfl rfl (fun H locs hw => ?_)
      refine mg_iinc X 36 [(4, .int (nI (k + 1))), (0, .ref (h)), (1, .int (nI (i))), (2, .int (nI (v))), (3, .int (nI (i * 6)))] (k + 1) d_Am_set_33 hl (k := 4) rfl (mg_inc1 _) (by decide) rfl rfl (fun ls hl => ?_)
      refine mg_goto X 16 d_Am_set_36 (by decide) ?_
      have hl : lv_has ls 5 [(0, .ref (h)), (1, .int (nI (i))), (2, .int (nI (v))), (3, .int (nI (i * 6))), (4, .int (nI (k + 1)))] := lv_sub hl [1, 2, 3, 4, 0] rfl
      exact ih16 _ (by omega) (k + 1) (va_up u ((i * 6) + k) 0) rfl (am_setS hI hi hb) (by omega) ls _ _ hl hw
  have hl : lv_has ls 5 [(0, .ref (h)), (1, .int (nI (i))), (2, .int (nI (v))), (3, .int (nI (i * 6))), (4, .int (nI (1)))] := lv_sub hl [2, 3, 4, 1, 0] rfl
  exact L16 _ 1 (va_up d (i * 6) v) rfl (am_set1 hR.1 hi hv) (by omega) ls _ _ hl hw

set_option maxRecDepth 100000 in
set_option maxHeartbeats 4000000 in
theorem k_Am_copy (l : Launch) (D : va_G) (K : Nat → ClassId) (h : Nat) (q : Nat) (n : Nat) (t : Nat) (f : Nat) (d : Nat → Nat) (V : Nat → Nat) (hn : n ≤ 64) (hR : am_R n d V) (ht : t < n) (hf : f < n) : mg_Mv l D K y_Am_copy b_Am_copy 4 ({ frames := 0, cells := 0, slots := 0, locals := 0 }) [.ref (h), .int (nI (t)), .int (nI (f))] [mg_ob h 0 [.ref (q)], mg_al K q (n * 6) d] (fun (u : (Nat → Nat)) => am_R n u (va_up V t (V f))) (fun (u : (Nat → Nat)) => [mg_ob h 0 [.ref (q)], mg_al K q (n * 6) u]) := by
  intro sz
  refine mg_entry (Qc := fun A => va_Qv (fun (u : (Nat → Nat)) => am_R n u (va_up V t (V f))) (mg_B D A (fun (u : (Nat → Nat)) => [mg_ob h 0 [.ref (q)], mg_al K q (n * 6) u])) A) (by decide) (Nat.le_of_ble_eq_true rfl) ?_
  intro p e s m args below meth c A ls X hr hlk hnm hA hK hw hl
  have hl : lv_has ls 4 [(0, .ref (h)), (1, .int (nI (t))), (2, .int (nI (f)))] := hl
  refine mg_iconst X 1 0 d_Am_copy_0 mg_ci_0 rfl ?_
  refine mg_istore_n X 2 [(3, .int (nI (0))), (0, .ref (h)), (1, .int (nI (t))), (2, .int (nI (f)))] d_Am_copy_1 hl (by decide) rfl rfl (fun ls hl => ?_)
  have L2 : ∀ (n0 : Nat) (k : Nat) (u : Nat → Nat), n0 = 6 - k → (am_cpI n t f k d u) → (k ≤ 6) → ∀ (ls : Array Slot) (H : Heap) (locs : List Loc), lv_has ls 4 [(0, .ref (h)), (1, .int (nI (t))), (2, .int (nI (f))), (3, .int (nI (k)))] → mg_H D A s.heap H locs [mg_ob h 0 [.ref (q)], mg_al K q (n * 6) u] → W p l e ({ frames := 0, cells := 0, slots := 0, locals := 0 }) s m args below meth c H locs 0 0 (MQ below (va_Qv (fun (u : (Nat → Nat)) => am_R n u (va_up V t (V f))) (mg_B D A (fun (u : (Nat → Nat)) => [mg_ob h 0 [.ref (q)], mg_al K q (n * 6) u])) A) args s (0) (0) A) (F0 m 2 ls []) := by
    intro n0
    induction n0 using Nat.strongRecOn with
    | ind n0 ih2 =>
    intro k u hm2 hI hk ls H locs hl hw
    refine mg_iload_n X 3 d_Am_copy_2 (lv_at hl 3 rfl) rfl ?_
    refine mg_bipush X 5 6 d_Am_copy_3 mg_cb_6 rfl ?_
    refine mg_icmp_ge X 36 8 (by omega) (by omega) d_Am_copy_5 (by decide) rfl (fun hb => ?_) (fun hb => ?_)
    · -- pc 5 t
      exact mg_vret X hr hlk (u) (by obtain rfl : k = 6 := (by omega); exact am_cpF hI hR hf) hw d_Am_copy_36
    · -- pc 5 f
      refine mg_aload_n X 9 d_Am_copy_8 (lv_at hl 0 rfl) rfl ?_
      refine mg_get X hK hw 12 0 0 f_Am_11 rfl rfl d_Am_copy_9 rfl ?_
      refine mg_iload_n X 13 d_Am_copy_12 (lv_at hl 1 rfl) rfl ?_
      refine mg_bipush X 15 6 d_Am_copy_13 mg_cb_6 rfl ?_
      refine mg_imul X 16 (nI (t * 6)) d_Am_copy_15 (pk_mul _ _) rfl ?_
      refine mg_iload_n X 17 d_Am_copy_16 (lv_at hl 3 rfl) rfl ?_
      refine mg_iadd X 18 (nI ((t * 6) + k)) d_Am_copy_17 (nI_add _ _) rfl ?_
      refine mg_aload_n X 19 d_Am_copy_18 (lv_at hl 0 rfl) rfl ?_
      refine mg_get X hK hw 22 0 0 f_Am_11 rfl rfl d_Am_copy_19 rfl ?_
      refine mg_iload_n X 23 d_Am_copy_22 (lv_at hl 2 rfl) rfl ?_
      refine mg_bipush X 25 6 d_Am_copy_23 mg_cb_6 rfl ?_
      refine mg_imul X 26 (nI (f * 6)) d_Am_copy_25 (pk_mul _ _) rfl ?_
      refine mg_iload_n X 27 d_Am_copy_26 (lv_at hl 3 rfl) rfl ?_
      refine mg_iadd X 28 (nI ((f * 6) + k)) d_Am_copy_27 (nI_add _ _) rfl ?_
      refine mg_lald X hK hw 29 1 rfl (by omega) (by omega) d_Am_copy_28 rfl ?_
      refine mg_last X hK hw 30 1 [mg_ob h 0 [.ref (q)], mg_al K q (n * 6) (va_up u ((t * 6) + k) (u ((f * 6) + k)))] rfl (by omega) (by omega) d_Am_copy_29 rfl rfl (fun H locs hw => ?_)
      refine mg_iinc X 33 [(3, .int (nI (k + 1))), (0, .ref (h)), (1, .int (nI (t))), (2, .int (nI (f)))] (k + 1) d_Am_copy_30 hl (k := 3) rfl (mg_inc1 _) (by decide) rfl rfl (fun ls hl => ?_)
      refine mg_goto X 2 d_Am_copy_33 (by decide) ?_
      have hl : lv_has ls 4 [(0, .ref (h)), (1, .int (nI (t))), (2, .int (nI (f))), (3, .int (nI (k + 1)))] := lv_sub hl [1, 2, 3, 0] rfl
      exact ih2 _ (by omega) (k + 1) (va_up u ((t * 6) + k) (u ((f * 6) + k))) rfl (am_cpS hI ht hf hb) (by omega) ls _ _ hl hw
  have hl : lv_has ls 4 [(0, .ref (h)), (1, .int (nI (t))), (2, .int (nI (f))), (3, .int (nI (0)))] := lv_sub hl [1, 2, 3, 0] rfl
  exact L2 _ 0 d rfl (am_cp0 hR.1) (by omega) ls _ _ hl hw

set_option maxRecDepth 100000 in
set_option maxHeartbeats 4000000 in
theorem k_Am_add (l : Launch) (D : va_G) (K : Nat → ClassId) (h : Nat) (q : Nat) (n : Nat) (h2 : Nat) (q2 : Nat) (n2 : Nat) (t : Nat) (f : Nat) (d : Nat → Nat) (V : Nat → Nat) (d2 : Nat → Nat) (V2 : Nat → Nat) (hn : n ≤ 64) (hR : am_R n d V) (hn2 : n2 ≤ 64) (hR2 : am_R n2 d2 V2) (ht : t < n) (hf : f < n2) (hl0 : V t + V2 f < 1000000000 ^ 6) : mg_Mv l D K y_Am_add b_Am_add 9 ({ frames := 0, cells := 0, slots := 0, locals := 0 }) [.ref (h), .int (nI (t)), .ref (h2), .int (nI (f))] [mg_ob h 0 [.ref (q)], mg_al K q (n * 6) d, mg_ob h2 0 [.ref (q2)], mg_al K q2 (n2 * 6) d2] (fun (u : (Nat → Nat)) => am_R n u (va_up V t (V t + V2 f))) (fun (u : (Nat → Nat)) => [mg_ob h 0 [.ref (q)], mg_al K q (n * 6) u, mg_ob h2 0 [.ref (q2)], mg_al K q2 (n2 * 6) d2]) := by
  intro sz
  refine mg_entry (Qc := fun A => va_Qv (fun (u : (Nat → Nat)) => am_R n u (va_up V t (V t + V2 f))) (mg_B D A (fun (u : (Nat → Nat)) => [mg_ob h 0 [.ref (q)], mg_al K q (n * 6) u, mg_ob h2 0 [.ref (q2)], mg_al K q2 (n2 * 6) d2])) A) (by decide) (Nat.le_of_ble_eq_true rfl) ?_
  intro p e s m args below meth c A ls X hr hlk hnm hA hK hw hl
  have hl : lv_has ls 9 [(0, .ref (h)), (1, .int (nI (t))), (2, .ref (h2)), (3, .int (nI (f)))] := hl
  refine mg_lconst X 1 0 d_Am_add_0 rfl rfl ?_
  refine mg_lstore X 3 [(4, .long (lN (0))), (0, .ref (h)), (1, .int (nI (t))), (2, .ref (h2)), (3, .int (nI (f)))] d_Am_add_1 hl (by decide) rfl rfl (fun ls hl => ?_)
  refine mg_iconst X 4 0 d_Am_add_3 mg_ci_0 rfl ?_
  refine mg_istore X 6 [(6, .int (nI (0))), (4, .long (lN (0))), (0, .ref (h)), (1, .int (nI (t))), (2, .ref (h2)), (3, .int (nI (f)))] d_Am_add_4 hl (by decide) rfl rfl (fun ls hl => ?_)
  have L6 : ∀ (n0 : Nat) (k : Nat) (cy : Nat) (u : Nat → Nat), n0 = 6 - k → (am_adI n t f k cy d u d2) → (k ≤ 6) → ∀ (ls : Array Slot) (H : Heap) (locs : List Loc), lv_has ls 9 [(0, .ref (h)), (1, .int (nI (t))), (2, .ref (h2)), (3, .int (nI (f))), (4, .long (lN (cy))), (6, .int (nI (k)))] → mg_H D A s.heap H locs [mg_ob h 0 [.ref (q)], mg_al K q (n * 6) u, mg_ob h2 0 [.ref (q2)], mg_al K q2 (n2 * 6) d2] → W p l e ({ frames := 0, cells := 0, slots := 0, locals := 0 }) s m args below meth c H locs 0 0 (MQ below (va_Qv (fun (u : (Nat → Nat)) => am_R n u (va_up V t (V t + V2 f))) (mg_B D A (fun (u : (Nat → Nat)) => [mg_ob h 0 [.ref (q)], mg_al K q (n * 6) u, mg_ob h2 0 [.ref (q2)], mg_al K q2 (n2 * 6) d2])) A) args s (0) (0) A) (F0 m 6 ls []) := by
    intro n0
    induction n0 using Nat.strongRecOn with
    | ind n0 ih6 =>
    intro k cy u hm6 hI hk ls H locs hl hw
    refine mg_iload X 8 d_Am_add_6 (lv_at hl 5 rfl) rfl ?_
    refine mg_bipush X 10 6 d_Am_add_8 mg_cb_6 rfl ?_
    refine mg_icmp_ge X 75 13 (by omega) (by omega) d_Am_add_10 (by decide) rfl (fun hb => ?_) (fun hb => ?_)
    · -- pc 10 t
      exact mg_vret X hr hlk (u) (by obtain rfl : k = 6 := (by omega); exact am_adF hI hR hR2 ht hf hl0) hw d_Am_add_75
    · -- pc 10 f
      have a1 := hI.1.1 (t * 6 + k) (by omega)
      have a2 := hR2.1 (f * 6 + k) (by omega)
      have a3 := hI.2.2
      refine mg_aload_n X 14 d_Am_add_13 (lv_at hl 0 rfl) rfl ?_
      refine mg_get X hK hw 17 0 0 f_Am_11 rfl rfl d_Am_add_14 rfl ?_
      refine mg_iload_n X 18 d_Am_add_17 (lv_at hl 1 rfl) rfl ?_
      refine mg_bipush X 20 6 d_Am_add_18 mg_cb_6 rfl ?_
      refine mg_imul X 21 (nI (t * 6)) d_Am_add_20 (pk_mul _ _) rfl ?_
      refine mg_iload X 23 d_Am_add_21 (lv_at hl 5 rfl) rfl ?_
      refine mg_iadd X 24 (nI ((t * 6) + k)) d_Am_add_23 (nI_add _ _) rfl ?_
      refine mg_lald X hK hw 25 1 rfl (by omega) (by omega) d_Am_add_24 rfl ?_
      refine mg_aload_n X 26 d_Am_add_25 (lv_at hl 2 rfl) rfl ?_
      refine mg_get X hK hw 29 2 0 f_Am_11 rfl rfl d_Am_add_26 rfl ?_
      refine mg_iload_n X 30 d_Am_add_29 (lv_at hl 3 rfl) rfl ?_
      refine mg_bipush X 32 6 d_Am_add_30 mg_cb_6 rfl ?_
      refine mg_imul X 33 (nI (f * 6)) d_Am_add_32 (pk_mul _ _) rfl ?_
      refine mg_iload X 35 d_Am_add_33 (lv_at hl 5 rfl) rfl ?_
      refine mg_iadd X 36 (nI ((f * 6) + k)) d_Am_add_35 (nI_add _ _) rfl ?_
      refine mg_lald X hK hw 37 3 rfl (by omega) (by omega) d_Am_add_36 rfl ?_
      refine mg_ladd X 38 (lN ((u ((t * 6) + k)) + (d2 ((f * 6) + k)))) d_Am_add_37 (lN_add _ _) rfl ?_
      refine mg_lload X 40 d_Am_add_38 (lv_at hl 4 rfl) rfl ?_
      refine mg_ladd X 41 (lN (((u ((t * 6) + k)) + (d2 ((f * 6) + k))) + cy)) d_Am_add_40 (lN_add _ _) rfl ?_
      refine mg_lstore X 43 [(7, .long (lN (((u ((t * 6) + k)) + (d2 ((f * 6) + k))) + cy))), (0, .ref (h)), (1, .int (nI (t))), (2, .ref (h2)), (3, .int (nI (f))), (4, .long (lN (cy))), (6, .int (nI (k)))] d_Am_add_41 hl (by decide) rfl rfl (fun ls hl => ?_)
      refine mg_aload_n X 44 d_Am_add_43 (lv_at hl 1 rfl) rfl ?_
      refine mg_get X hK hw 47 0 0 f_Am_11 rfl rfl d_Am_add_44 rfl ?_
      refine mg_iload_n X 48 d_Am_add_47 (lv_at hl 2 rfl) rfl ?_
      refine mg_bipush X 50 6 d_Am_add_48 mg_cb_6 rfl ?_
      refine mg_imul X 51 (nI (t * 6)) d_Am_add_50 (pk_mul _ _) rfl ?_
      refine mg_iload X 53 d_Am_add_51 (lv_at hl 6 rfl) rfl ?_
      refine mg_iadd X 54 (nI ((t * 6) + k)) d_Am_add_53 (nI_add _ _) rfl ?_
      refine mg_lload X 56 d_Am_add_54 (lv_at hl 0 rfl) rfl ?_
      refine mg_ldc2 X 59 1000000000 d_Am_add_56 cw_Am_15 rfl rfl ?_
      refine mg_lrem X 60 d_Am_add_59 (by omega) (by omega) (by omega) rfl ?_
      refine mg_last X hK hw 61 1 [mg_ob h 0 [.ref (q)], mg_al K q (n * 6) (va_up u ((t * 6) + k) ((((u ((t * 6) + k)) + (d2 ((f * 6) + k))) + cy) % 1000000000)), mg_ob h2 0 [.ref (q2)], mg_al K q2 (n2 * 6) d2] rfl (by omega) (by omega) d_Am_add_60 rfl rfl (fun H locs hw => ?_)
      refine mg_lload X 63 d_Am_add_61 (lv_at hl 0 rfl) rfl ?_
      refine mg_ldc2 X 66 1000000000 d_Am_add_63 cw_Am_15 rfl rfl ?_
      refine mg_ldiv X 67 d_Am_add_66 (by omega) (by omega) (by omega) rfl ?_
      refine mg_lstore X 69 [(4, .long (lN ((((u ((t * 6) + k)) + (d2 ((f * 6) + k))) + cy) / 1000000000))), (7, .long (lN (((u ((t * 6) + k)) + (d2 ((f * 6) + k))) + cy))), (0, .ref (h)), (1, .int (nI (t))), (2, .ref (h2)), (3, .int (nI (f))), (6, .int (nI (k)))] d_Am_add_67 hl (by decide) rfl rfl (fun ls hl => ?_)
      refine mg_iinc X 72 [(6, .int (nI (k + 1))), (4, .long (lN ((((u ((t * 6) + k)) + (d2 ((f * 6) + k))) + cy) / 1000000000))), (7, .long (lN (((u ((t * 6) + k)) + (d2 ((f * 6) + k))) + cy))), (0, .ref (h)), (1, .int (nI (t))), (2, .ref (h2)), (3, .int (nI (f)))] (k + 1) d_Am_add_69 hl (k := 6) rfl (mg_inc1 _) (by decide) rfl rfl (fun ls hl => ?_)
      refine mg_goto X 6 d_Am_add_72 (by decide) ?_
      have hl : lv_has ls 9 [(0, .ref (h)), (1, .int (nI (t))), (2, .ref (h2)), (3, .int (nI (f))), (4, .long (lN ((((u ((t * 6) + k)) + (d2 ((f * 6) + k))) + cy) / 1000000000))), (6, .int (nI (k + 1)))] := lv_sub hl [3, 4, 5, 6, 1, 0] rfl
      exact ih6 _ (by omega) (k + 1) ((((u ((t * 6) + k)) + (d2 ((f * 6) + k))) + cy) / 1000000000) (va_up u ((t * 6) + k) ((((u ((t * 6) + k)) + (d2 ((f * 6) + k))) + cy) % 1000000000)) rfl (am_adS hI hR2.1 ht hf hb) (by omega) ls _ _ hl hw
  have hl : lv_has ls 9 [(0, .ref (h)), (1, .int (nI (t))), (2, .ref (h2)), (3, .int (nI (f))), (4, .long (lN (0))), (6, .int (nI (0)))] := lv_sub hl [2, 3, 4, 5, 1, 0] rfl
  exact L6 _ 0 0 d rfl (am_ad0 hR.1) (by omega) ls _ _ hl hw

set_option maxRecDepth 100000 in
set_option maxHeartbeats 4000000 in
theorem k_Am_multiply (l : Launch) (D : va_G) (K : Nat → ClassId) (h : Nat) (q : Nat) (n : Nat) (i : Nat) (f : Nat) (d : Nat → Nat) (V : Nat → Nat) (hn : n ≤ 64) (hR : am_R n d V) (hi : i < n) (hf : f < 2147483648) (hl0 : V i * f < 1000000000 ^ 6) : mg_Mv l D K y_Am_multiply b_Am_multiply 9 ({ frames := 0, cells := 0, slots := 0, locals := 0 }) [.ref (h), .int (nI (i)), .int (nI (f))] [mg_ob h 0 [.ref (q)], mg_al K q (n * 6) d] (fun (u : (Nat → Nat)) => am_R n u (va_up V i (V i * f))) (fun (u : (Nat → Nat)) => [mg_ob h 0 [.ref (q)], mg_al K q (n * 6) u]) := by
  intro sz
  refine mg_entry (Qc := fun A => va_Qv (fun (u : (Nat → Nat)) => am_R n u (va_up V i (V i * f))) (mg_B D A (fun (u : (Nat → Nat)) => [mg_ob h 0 [.ref (q)], mg_al K q (n * 6) u])) A) (by decide) (Nat.le_of_ble_eq_true rfl) ?_
  intro p e s m args below meth c A ls X hr hlk hnm hA hK hw hl
  have hl : lv_has ls 9 [(0, .ref (h)), (1, .int (nI (i))), (2, .int (nI (f)))] := hl
  refine mg_iload_n X 1 d_Am_multiply_0 (lv_at hl 1 rfl) rfl ?_
  refine mg_bipush X 3 6 d_Am_multiply_1 mg_cb_6 rfl ?_
  refine mg_imul X 4 (nI (i * 6)) d_Am_multiply_3 (pk_mul _ _) rfl ?_
  refine mg_istore_n X 5 [(3, .int (nI (i * 6))), (0, .ref (h)), (1, .int (nI (i))), (2, .int (nI (f)))] d_Am_multiply_4 hl (by decide) rfl rfl (fun ls hl => ?_)
  refine mg_lconst X 6 0 d_Am_multiply_5 rfl rfl ?_
  refine mg_lstore X 8 [(4, .long (lN (0))), (3, .int (nI (i * 6))), (0, .ref (h)), (1, .int (nI (i))), (2, .int (nI (f)))] d_Am_multiply_6 hl (by decide) rfl rfl (fun ls hl => ?_)
  refine mg_iconst X 9 0 d_Am_multiply_8 mg_ci_0 rfl ?_
  refine mg_istore X 11 [(6, .int (nI (0))), (4, .long (lN (0))), (3, .int (nI (i * 6))), (0, .ref (h)), (1, .int (nI (i))), (2, .int (nI (f)))] d_Am_multiply_9 hl (by decide) rfl rfl (fun ls hl => ?_)
  have L11 : ∀ (n0 : Nat) (k : Nat) (cy : Nat) (u : Nat → Nat), n0 = 6 - k → (am_muI n i f k cy d u) → (k ≤ 6) → ∀ (ls : Array Slot) (H : Heap) (locs : List Loc), lv_has ls 9 [(0, .ref (h)), (1, .int (nI (i))), (2, .int (nI (f))), (3, .int (nI (i * 6))), (4, .long (lN (cy))), (6, .int (nI (k)))] → mg_H D A s.heap H locs [mg_ob h 0 [.ref (q)], mg_al K q (n * 6) u] → W p l e ({ frames := 0, cells := 0, slots := 0, locals := 0 }) s m args below meth c H locs 0 0 (MQ below (va_Qv (fun (u : (Nat → Nat)) => am_R n u (va_up V i (V i * f))) (mg_B D A (fun (u : (Nat → Nat)) => [mg_ob h 0 [.ref (q)], mg_al K q (n * 6) u])) A) args s (0) (0) A) (F0 m 11 ls []) := by
    intro n0
    induction n0 using Nat.strongRecOn with
    | ind n0 ih11 =>
    intro k cy u hm11 hI hk ls H locs hl hw
    refine mg_iload X 13 d_Am_multiply_11 (lv_at hl 5 rfl) rfl ?_
    refine mg_bipush X 15 6 d_Am_multiply_13 mg_cb_6 rfl ?_
    refine mg_icmp_ge X 64 18 (by omega) (by omega) d_Am_multiply_15 (by decide) rfl (fun hb => ?_) (fun hb => ?_)
    · -- pc 15 t
      exact mg_vret X hr hlk (u) (by obtain rfl : k = 6 := (by omega); exact am_muF hI hR hi hl0) hw d_Am_multiply_64
    · -- pc 15 f
      have a1 := am_mu_lt hI hi hb hf
      refine mg_aload_n X 19 d_Am_multiply_18 (lv_at hl 0 rfl) rfl ?_
      refine mg_get X hK hw 22 0 0 f_Am_11 rfl rfl d_Am_multiply_19 rfl ?_
      refine mg_iload_n X 23 d_Am_multiply_22 (lv_at hl 3 rfl) rfl ?_
      refine mg_iload X 25 d_Am_multiply_23 (lv_at hl 5 rfl) rfl ?_
      refine mg_iadd X 26 (nI ((i * 6) + k)) d_Am_multiply_25 (nI_add _ _) rfl ?_
      refine mg_lald X hK hw 27 1 rfl (by omega) (by omega) d_Am_multiply_26 rfl ?_
      refine mg_iload_n X 28 d_Am_multiply_27 (lv_at hl 2 rfl) rfl ?_
      refine mg_i2l X 29 d_Am_multiply_28 (by omega) rfl ?_
      refine mg_lmul X 30 (lN ((u ((i * 6) + k)) * f)) d_Am_multiply_29 (lN_mul _ _) rfl ?_
      refine mg_lload X 32 d_Am_multiply_30 (lv_at hl 4 rfl) rfl ?_
      refine mg_ladd X 33 (lN (((u ((i * 6) + k)) * f) + cy)) d_Am_multiply_32 (lN_add _ _) rfl ?_
      refine mg_lstore X 35 [(7, .long (lN (((u ((i * 6) + k)) * f) + cy))), (0, .ref (h)), (1, .int (nI (i))), (2, .int (nI (f))), (3, .int (nI (i * 6))), (4, .long (lN (cy))), (6, .int (nI (k)))] d_Am_multiply_33 hl (by decide) rfl rfl (fun ls hl => ?_)
      refine mg_aload_n X 36 d_Am_multiply_35 (lv_at hl 1 rfl) rfl ?_
      refine mg_get X hK hw 39 0 0 f_Am_11 rfl rfl d_Am_multiply_36 rfl ?_
      refine mg_iload_n X 40 d_Am_multiply_39 (lv_at hl 4 rfl) rfl ?_
      refine mg_iload X 42 d_Am_multiply_40 (lv_at hl 6 rfl) rfl ?_
      refine mg_iadd X 43 (nI ((i * 6) + k)) d_Am_multiply_42 (nI_add _ _) rfl ?_
      refine mg_lload X 45 d_Am_multiply_43 (lv_at hl 0 rfl) rfl ?_
      refine mg_ldc2 X 48 1000000000 d_Am_multiply_45 cw_Am_15 rfl rfl ?_
      refine mg_lrem X 49 d_Am_multiply_48 (by omega) (by omega) (by omega) rfl ?_
      refine mg_last X hK hw 50 1 [mg_ob h 0 [.ref (q)], mg_al K q (n * 6) (va_up u ((i * 6) + k) ((((u ((i * 6) + k)) * f) + cy) % 1000000000))] rfl (by omega) (by omega) d_Am_multiply_49 rfl rfl (fun H locs hw => ?_)
      refine mg_lload X 52 d_Am_multiply_50 (lv_at hl 0 rfl) rfl ?_
      refine mg_ldc2 X 55 1000000000 d_Am_multiply_52 cw_Am_15 rfl rfl ?_
      refine mg_ldiv X 56 d_Am_multiply_55 (by omega) (by omega) (by omega) rfl ?_
      refine mg_lstore X 58 [(4, .long (lN ((((u ((i * 6) + k)) * f) + cy) / 1000000000))), (7, .long (lN (((u ((i * 6) + k)) * f) + cy))), (0, .ref (h)), (1, .int (nI (i))), (2, .int (nI (f))), (3, .int (nI (i * 6))), (6, .int (nI (k)))] d_Am_multiply_56 hl (by decide) rfl rfl (fun ls hl => ?_)
      refine mg_iinc X 61 [(6, .int (nI (k + 1))), (4, .long (lN ((((u ((i * 6) + k)) * f) + cy) / 1000000000))), (7, .long (lN (((u ((i * 6) + k)) * f) + cy))), (0, .ref (h)), (1, .int (nI (i))), (2, .int (nI (f))), (3, .int (nI (i * 6)))] (k + 1) d_Am_multiply_58 hl (k := 6) rfl (mg_inc1 _) (by decide) rfl rfl (fun ls hl => ?_)
      refine mg_goto X 11 d_Am_multiply_61 (by decide) ?_
      have hl : lv_has ls 9 [(0, .ref (h)), (1, .int (nI (i))), (2, .int (nI (f))), (3, .int (nI (i * 6))), (4, .long (lN ((((u ((i * 6) + k)) * f) + cy) / 1000000000))), (6, .int (nI (k + 1)))] := lv_sub hl [3, 4, 5, 6, 1, 0] rfl
      exact ih11 _ (by omega) (k + 1) ((((u ((i * 6) + k)) * f) + cy) / 1000000000) (va_up u ((i * 6) + k) ((((u ((i * 6) + k)) * f) + cy) % 1000000000)) rfl (am_muS hI hi hb) (by omega) ls _ _ hl hw
  have hl : lv_has ls 9 [(0, .ref (h)), (1, .int (nI (i))), (2, .int (nI (f))), (3, .int (nI (i * 6))), (4, .long (lN (0))), (6, .int (nI (0)))] := lv_sub hl [3, 4, 5, 2, 1, 0] rfl
  exact L11 _ 0 0 d rfl (am_mu0 hR.1) (by omega) ls _ _ hl hw

set_option maxRecDepth 100000 in
set_option maxHeartbeats 4000000 in
theorem k_Am_setProduct (l : Launch) (D : va_G) (K : Nat → ClassId) (h : Nat) (q : Nat) (n : Nat) (hl1 : Nat) (ql : Nat) (hr1 : Nat) (qr : Nat) (i : Nat) (d : Nat → Nat) (V : Nat → Nat) (dl : Nat → Nat) (Vl : Nat → Nat) (dr : Nat → Nat) (Vr : Nat → Nat) (hn : n ≤ 64) (hR : am_R n d V) (hRl : am_R n dl Vl) (hRr : am_R n dr Vr) (hi : i < n) (hl0 : Vl i * Vr i < 1000000000 ^ 6) : mg_Mv l D K y_Am_setProduct b_Am_setProduct 9 ({ frames := 0, cells := 0, slots := 0, locals := 0 }) [.ref (h), .int (nI (i)), .ref (hl1), .ref (hr1)] [mg_ob h 0 [.ref (q)], mg_al K q (n * 6) d, mg_ob hl1 0 [.ref (ql)], mg_al K ql (n * 6) dl, mg_ob hr1 0 [.ref (qr)], mg_al K qr (n * 6) dr] (fun (u : (Nat → Nat)) => am_R n u (va_up V i (Vl i * Vr i))) (fun (u : (Nat → Nat)) => [mg_ob h 0 [.ref (q)], mg_al K q (n * 6) u, mg_ob hl1 0 [.ref (ql)], mg_al K ql (n * 6) dl, mg_ob hr1 0 [.ref (qr)], mg_al K qr (n * 6) dr]) := by
  intro sz
  refine mg_entry (Qc := fun A => va_Qv (fun (u : (Nat → Nat)) => am_R n u (va_up V i (Vl i * Vr i))) (mg_B D A (fun (u : (Nat → Nat)) => [mg_ob h 0 [.ref (q)], mg_al K q (n * 6) u, mg_ob hl1 0 [.ref (ql)], mg_al K ql (n * 6) dl, mg_ob hr1 0 [.ref (qr)], mg_al K qr (n * 6) dr])) A) (by decide) (Nat.le_of_ble_eq_true rfl) ?_
  intro p e s m args below meth c A ls X hr hlk hnm hA hK hw hl
  have hl : lv_has ls 9 [(0, .ref (h)), (1, .int (nI (i))), (2, .ref (hl1)), (3, .ref (hr1))] := hl
  refine mg_iload_n X 1 d_Am_setProduct_0 (lv_at hl 1 rfl) rfl ?_
  refine mg_bipush X 3 6 d_Am_setProduct_1 mg_cb_6 rfl ?_
  refine mg_imul X 4 (nI (i * 6)) d_Am_setProduct_3 (pk_mul _ _) rfl ?_
  refine mg_istore X 6 [(4, .int (nI (i * 6))), (0, .ref (h)), (1, .int (nI (i))), (2, .ref (hl1)), (3, .ref (hr1))] d_Am_setProduct_4 hl (by decide) rfl rfl (fun ls hl => ?_)
  refine mg_lconst X 7 0 d_Am_setProduct_6 rfl rfl ?_
  refine mg_lstore X 9 [(5, .long (lN (0))), (4, .int (nI (i * 6))), (0, .ref (h)), (1, .int (nI (i))), (2, .ref (hl1)), (3, .ref (hr1))] d_Am_setProduct_7 hl (by decide) rfl rfl (fun ls hl => ?_)
  refine mg_iconst X 10 0 d_Am_setProduct_9 mg_ci_0 rfl ?_
  refine mg_istore X 12 [(7, .int (nI (0))), (5, .long (lN (0))), (4, .int (nI (i * 6))), (0, .ref (h)), (1, .int (nI (i))), (2, .ref (hl1)), (3, .ref (hr1))] d_Am_setProduct_10 hl (by decide) rfl rfl (fun ls hl => ?_)
  have L12 : ∀ (n0 : Nat) (k : Nat) (col : Nat) (u : Nat → Nat), n0 = 6 - k → (am_prI n i k col d u dl dr) → (k ≤ 6) → ∀ (ls : Array Slot) (H : Heap) (locs : List Loc), lv_has ls 9 [(0, .ref (h)), (1, .int (nI (i))), (2, .ref (hl1)), (3, .ref (hr1)), (4, .int (nI (i * 6))), (5, .long (lN (col))), (7, .int (nI (k)))] → mg_H D A s.heap H locs [mg_ob h 0 [.ref (q)], mg_al K q (n * 6) u, mg_ob hl1 0 [.ref (ql)], mg_al K ql (n * 6) dl, mg_ob hr1 0 [.ref (qr)], mg_al K qr (n * 6) dr] → W p l e ({ frames := 0, cells := 0, slots := 0, locals := 0 }) s m args below meth c H locs 0 0 (MQ below (va_Qv (fun (u : (Nat → Nat)) => am_R n u (va_up V i (Vl i * Vr i))) (mg_B D A (fun (u : (Nat → Nat)) => [mg_ob h 0 [.ref (q)], mg_al K q (n * 6) u, mg_ob hl1 0 [.ref (ql)], mg_al K ql (n * 6) dl, mg_ob hr1 0 [.ref (qr)], mg_al K qr (n * 6) dr])) A) args s (0) (0) A) (F0 m 12 ls []) := by
    intro n0
    induction n0 using Nat.strongRecOn with
    | ind n0 ih12 =>
    intro k col u hm12 hI hk ls H locs hl hw
    refine mg_iload X 14 d_Am_setProduct_12 (lv_at hl 6 rfl) rfl ?_
    refine mg_bipush X 16 6 d_Am_setProduct_14 mg_cb_6 rfl ?_
    refine mg_icmp_ge X 94 19 (by omega) (by omega) d_Am_setProduct_16 (by decide) rfl (fun hb => ?_) (fun hb => ?_)
    · -- pc 16 t
      exact mg_vret X hr hlk (u) (by obtain rfl : k = 6 := (by omega); exact am_prF hI hR hRl hRr hi hl0) hw d_Am_setProduct_94
    · -- pc 16 f
      refine mg_iconst X 20 0 d_Am_setProduct_19 mg_ci_0 rfl ?_
      refine mg_istore X 22 [(8, .int (nI (0))), (0, .ref (h)), (1, .int (nI (i))), (2, .ref (hl1)), (3, .ref (hr1)), (4, .int (nI (i * 6))), (5, .long (lN (col))), (7, .int (nI (k)))] d_Am_setProduct_20 hl (by decide) rfl rfl (fun ls hl => ?_)
      have L22 : ∀ (n0 : Nat) (j : Nat) (cj : Nat), n0 = k + 1 - j → (am_prC (i * 6) k col j cj dl dr) → (j ≤ k + 1) → ∀ (ls : Array Slot) (H : Heap) (locs : List Loc), lv_has ls 9 [(0, .ref (h)), (1, .int (nI (i))), (2, .ref (hl1)), (3, .ref (hr1)), (4, .int (nI (i * 6))), (5, .long (lN (cj))), (7, .int (nI (k))), (8, .int (nI (j)))] → mg_H D A s.heap H locs [mg_ob h 0 [.ref (q)], mg_al K q (n * 6) u, mg_ob hl1 0 [.ref (ql)], mg_al K ql (n * 6) dl, mg_ob hr1 0 [.ref (qr)], mg_al K qr (n * 6) dr] → W p l e ({ frames := 0, cells := 0, slots := 0, locals := 0 }) s m args below meth c H locs 0 0 (MQ below (va_Qv (fun (u : (Nat → Nat)) => am_R n u (va_up V i (Vl i * Vr i))) (mg_B D A (fun (u : (Nat → Nat)) => [mg_ob h 0 [.ref (q)], mg_al K q (n * 6) u, mg_ob hl1 0 [.ref (ql)], mg_al K ql (n * 6) dl, mg_ob hr1 0 [.ref (qr)], mg_al K qr (n * 6) dr])) A) args s (0) (0) A) (F0 m 22 ls []) := by
        intro n0
        induction n0 using Nat.strongRecOn with
        | ind n0 ih22 =>
        intro j cj hm22 hJ hj ls H locs hl hw
        have a1 := am_prC_le hRl.1 hRr.1 hi hb hj hI.2.2 hJ
        refine mg_iload X 24 d_Am_setProduct_22 (lv_at hl 7 rfl) rfl ?_
        refine mg_iload X 26 d_Am_setProduct_24 (lv_at hl 6 rfl) rfl ?_
        refine mg_icmp_gt X 64 29 (by omega) (by omega) d_Am_setProduct_26 (by decide) rfl (fun hc => ?_) (fun hc => ?_)
        · -- pc 26 t
          refine mg_aload_n X 65 d_Am_setProduct_64 (lv_at hl 0 rfl) rfl ?_
          refine mg_get X hK hw 68 0 0 f_Am_11 rfl rfl d_Am_setProduct_65 rfl ?_
          refine mg_iload X 70 d_Am_setProduct_68 (lv_at hl 4 rfl) rfl ?_
          refine mg_iload X 72 d_Am_setProduct_70 (lv_at hl 6 rfl) rfl ?_
          refine mg_iadd X 73 (nI ((i * 6) + k)) d_Am_setProduct_72 (nI_add _ _) rfl ?_
          refine mg_lload X 75 d_Am_setProduct_73 (lv_at hl 5 rfl) rfl ?_
          refine mg_ldc2 X 78 1000000000 d_Am_setProduct_75 cw_Am_15 rfl rfl ?_
          refine mg_lrem X 79 d_Am_setProduct_78 (by omega) (by omega) (by omega) rfl ?_
          refine mg_last X hK hw 80 1 [mg_ob h 0 [.ref (q)], mg_al K q (n * 6) (va_up u ((i * 6) + k) (cj % 1000000000)), mg_ob hl1 0 [.ref (ql)], mg_al K ql (n * 6) dl, mg_ob hr1 0 [.ref (qr)], mg_al K qr (n * 6) dr] rfl (by omega) (by omega) d_Am_setProduct_79 rfl rfl (fun H locs hw => ?_)
          refine mg_lload X 82 d_Am_setProduct_80 (lv_at hl 5 rfl) rfl ?_
          refine mg_ldc2 X 85 1000000000 d_Am_setProduct_82 cw_Am_15 rfl rfl ?_
          refine mg_ldiv X 86 d_Am_setProduct_85 (by omega) (by omega) (by omega) rfl ?_
          refine mg_lstore X 88 [(5, .long (lN (cj / 1000000000))), (0, .ref (h)), (1, .int (nI (i))), (2, .ref (hl1)), (3, .ref (hr1)), (4, .int (nI (i * 6))), (7, .int (nI (k))), (8, .int (nI (j)))] d_Am_setProduct_86 hl (by decide) rfl rfl (fun ls hl => ?_)
          refine mg_iinc X 91 [(7, .int (nI (k + 1))), (5, .long (lN (cj / 1000000000))), (0, .ref (h)), (1, .int (nI (i))), (2, .ref (hl1)), (3, .ref (hr1)), (4, .int (nI (i * 6))), (8, .int (nI (j)))] (k + 1) d_Am_setProduct_88 hl (k := 6) rfl (mg_inc1 _) (by decide) rfl rfl (fun ls hl => ?_)
          refine mg_goto X 12 d_Am_setProduct_91 (by decide) ?_
          have hl : lv_has ls 9 [(0, .ref (h)), (1, .int (nI (i))), (2, .ref (hl1)), (3, .ref (hr1)), (4, .int (nI (i * 6))), (5, .long (lN (cj / 1000000000))), (7, .int (nI (k + 1)))] := lv_sub hl [2, 3, 4, 5, 6, 1, 0] rfl
          have hj1 : j = k + 1 := (by omega)
          exact ih12 _ (by omega) (k + 1) (cj / 1000000000) (va_up u ((i * 6) + k) (cj % 1000000000)) rfl (am_prS hI hRl.1 hRr.1 hi hb (hj1 ▸ hJ)) (by omega) ls _ _ hl hw
        · -- pc 26 f
          have a2 := am_pr_mul hRl.1 hRr.1 hi hb (show j ≤ k by omega)
          refine mg_lload X 31 d_Am_setProduct_29 (lv_at hl 5 rfl) rfl ?_
          refine mg_aload_n X 32 d_Am_setProduct_31 (lv_at hl 2 rfl) rfl ?_
          refine mg_get X hK hw 35 2 0 f_Am_11 rfl rfl d_Am_setProduct_32 rfl ?_
          refine mg_iload X 37 d_Am_setProduct_35 (lv_at hl 4 rfl) rfl ?_
          refine mg_iload X 39 d_Am_setProduct_37 (lv_at hl 7 rfl) rfl ?_
          refine mg_iadd X 40 (nI ((i * 6) + j)) d_Am_setProduct_39 (nI_add _ _) rfl ?_
          refine mg_lald X hK hw 41 3 rfl (by omega) (by omega) d_Am_setProduct_40 rfl ?_
          refine mg_aload_n X 42 d_Am_setProduct_41 (lv_at hl 3 rfl) rfl ?_
          refine mg_get X hK hw 45 4 0 f_Am_11 rfl rfl d_Am_setProduct_42 rfl ?_
          refine mg_iload X 47 d_Am_setProduct_45 (lv_at hl 4 rfl) rfl ?_
          refine mg_iload X 49 d_Am_setProduct_47 (lv_at hl 6 rfl) rfl ?_
          refine mg_iadd X 50 (nI ((i * 6) + k)) d_Am_setProduct_49 (nI_add _ _) rfl ?_
          refine mg_iload X 52 d_Am_setProduct_50 (lv_at hl 7 rfl) rfl ?_
          refine mg_isub X 53 (nI (((i * 6) + k) - j)) d_Am_setProduct_52 (pk_sub (by omega)) rfl ?_
          refine mg_lald X hK hw 54 5 rfl (by omega) (by omega) d_Am_setProduct_53 rfl ?_
          refine mg_lmul X 55 (lN ((dl ((i * 6) + j)) * (dr (((i * 6) + k) - j)))) d_Am_setProduct_54 (lN_mul _ _) rfl ?_
          refine mg_ladd X 56 (lN (cj + ((dl ((i * 6) + j)) * (dr (((i * 6) + k) - j))))) d_Am_setProduct_55 (lN_add _ _) rfl ?_
          refine mg_lstore X 58 [(5, .long (lN (cj + ((dl ((i * 6) + j)) * (dr (((i * 6) + k) - j)))))), (0, .ref (h)), (1, .int (nI (i))), (2, .ref (hl1)), (3, .ref (hr1)), (4, .int (nI (i * 6))), (7, .int (nI (k))), (8, .int (nI (j)))] d_Am_setProduct_56 hl (by decide) rfl rfl (fun ls hl => ?_)
          refine mg_iinc X 61 [(8, .int (nI (j + 1))), (5, .long (lN (cj + ((dl ((i * 6) + j)) * (dr (((i * 6) + k) - j)))))), (0, .ref (h)), (1, .int (nI (i))), (2, .ref (hl1)), (3, .ref (hr1)), (4, .int (nI (i * 6))), (7, .int (nI (k)))] (j + 1) d_Am_setProduct_58 hl (k := 7) rfl (mg_inc1 _) (by decide) rfl rfl (fun ls hl => ?_)
          refine mg_goto X 22 d_Am_setProduct_61 (by decide) ?_
          have hl : lv_has ls 9 [(0, .ref (h)), (1, .int (nI (i))), (2, .ref (hl1)), (3, .ref (hr1)), (4, .int (nI (i * 6))), (5, .long (lN (cj + ((dl ((i * 6) + j)) * (dr (((i * 6) + k) - j)))))), (7, .int (nI (k))), (8, .int (nI (j + 1)))] := lv_sub hl [2, 3, 4, 5, 6, 1, 7, 0] rfl
          exact ih22 _ (by omega) (j + 1) (cj + ((dl ((i * 6) + j)) * (dr (((i * 6) + k) - j)))) rfl (am_prCS hJ) (by omega) ls _ _ hl hw
      have hl : lv_has ls 9 [(0, .ref (h)), (1, .int (nI (i))), (2, .ref (hl1)), (3, .ref (hr1)), (4, .int (nI (i * 6))), (5, .long (lN (col))), (7, .int (nI (k))), (8, .int (nI (0)))] := lv_sub hl [1, 2, 3, 4, 5, 6, 7, 0] rfl
      exact L22 _ 0 col rfl (am_prC0 _ _ _ _ _) (by omega) ls _ _ hl hw
  have hl : lv_has ls 9 [(0, .ref (h)), (1, .int (nI (i))), (2, .ref (hl1)), (3, .ref (hr1)), (4, .int (nI (i * 6))), (5, .long (lN (0))), (7, .int (nI (0)))] := lv_sub hl [3, 4, 5, 6, 2, 1, 0] rfl
  exact L12 _ 0 0 d rfl (am_pr0 hR.1) (by omega) ls _ _ hl hw

set_option maxRecDepth 100000 in
set_option maxHeartbeats 4000000 in
theorem k_Am_blend (l : Launch) (D : va_G) (K : Nat → ClassId) (h : Nat) (q : Nat) (n : Nat) (x : Nat) (y : Nat) (r : Nat) (d : Nat → Nat) (V : Nat → Nat) (hn : n ≤ 64) (hR : am_R n d V) (hx : x < n) (hy : y < n) (hxy : x ≠ y) (hr16 : r ≤ 16) (hl1 : (16 - r) * V x + r * V y < 1000000000 ^ 6) (hl2 : r * V x + (16 - r) * V y < 1000000000 ^ 6) : mg_Mv l D K y_Am_blend b_Am_blend 18 ({ frames := 0, cells := 0, slots := 0, locals := 0 }) [.ref (h), .int (nI (x)), .int (nI (y)), .int (nI (r))] [mg_ob h 0 [.ref (q)], mg_al K q (n * 6) d] (fun (u : (Nat → Nat)) => am_R n u (va_up (va_up V x ((16 - r) * V x + r * V y)) y (r * V x + (16 - r) * V y))) (fun (u : (Nat → Nat)) => [mg_ob h 0 [.ref (q)], mg_al K q (n * 6) u]) := by
  intro sz
  refine mg_entry (Qc := fun A => va_Qv (fun (u : (Nat → Nat)) => am_R n u (va_up (va_up V x ((16 - r) * V x + r * V y)) y (r * V x + (16 - r) * V y))) (mg_B D A (fun (u : (Nat → Nat)) => [mg_ob h 0 [.ref (q)], mg_al K q (n * 6) u])) A) (by decide) (Nat.le_of_ble_eq_true rfl) ?_
  intro p e s m args below meth c A ls X hr hlk hnm hA hK hw hl
  have hl : lv_has ls 18 [(0, .ref (h)), (1, .int (nI (x))), (2, .int (nI (y))), (3, .int (nI (r)))] := hl
  refine mg_bipush X 2 16 d_Am_blend_0 mg_cb_16 rfl ?_
  refine mg_iload_n X 3 d_Am_blend_2 (lv_at hl 3 rfl) rfl ?_
  refine mg_isub X 4 (nI (16 - r)) d_Am_blend_3 (pk_sub (by omega)) rfl ?_
  refine mg_istore X 6 [(4, .int (nI (16 - r))), (0, .ref (h)), (1, .int (nI (x))), (2, .int (nI (y))), (3, .int (nI (r)))] d_Am_blend_4 hl (by decide) rfl rfl (fun ls hl => ?_)
  refine mg_lconst X 7 0 d_Am_blend_6 rfl rfl ?_
  refine mg_lstore X 9 [(5, .long (lN (0))), (4, .int (nI (16 - r))), (0, .ref (h)), (1, .int (nI (x))), (2, .int (nI (y))), (3, .int (nI (r)))] d_Am_blend_7 hl (by decide) rfl rfl (fun ls hl => ?_)
  refine mg_lconst X 10 0 d_Am_blend_9 rfl rfl ?_
  refine mg_lstore X 12 [(7, .long (lN (0))), (5, .long (lN (0))), (4, .int (nI (16 - r))), (0, .ref (h)), (1, .int (nI (x))), (2, .int (nI (y))), (3, .int (nI (r)))] d_Am_blend_10 hl (by decide) rfl rfl (fun ls hl => ?_)
  refine mg_iconst X 13 0 d_Am_blend_12 mg_ci_0 rfl ?_
  refine mg_istore X 15 [(9, .int (nI (0))), (7, .long (lN (0))), (5, .long (lN (0))), (4, .int (nI (16 - r))), (0, .ref (h)), (1, .int (nI (x))), (2, .int (nI (y))), (3, .int (nI (r)))] d_Am_blend_13 hl (by decide) rfl rfl (fun ls hl => ?_)
  have L15 : ∀ (n0 : Nat) (k : Nat) (c1 : Nat) (c2 : Nat) (u : Nat → Nat), n0 = 6 - k → (am_blI n x y r k c1 c2 d u) → (k ≤ 6) → ∀ (ls : Array Slot) (H : Heap) (locs : List Loc), lv_has ls 18 [(0, .ref (h)), (1, .int (nI (x))), (2, .int (nI (y))), (3, .int (nI (r))), (4, .int (nI (16 - r))), (5, .long (lN (c1))), (7, .long (lN (c2))), (9, .int (nI (k)))] → mg_H D A s.heap H locs [mg_ob h 0 [.ref (q)], mg_al K q (n * 6) u] → W p l e ({ frames := 0, cells := 0, slots := 0, locals := 0 }) s m args below meth c H locs 0 0 (MQ below (va_Qv (fun (u : (Nat → Nat)) => am_R n u (va_up (va_up V x ((16 - r) * V x + r * V y)) y (r * V x + (16 - r) * V y))) (mg_B D A (fun (u : (Nat → Nat)) => [mg_ob h 0 [.ref (q)], mg_al K q (n * 6) u])) A) args s (0) (0) A) (F0 m 15 ls []) := by
    intro n0
    induction n0 using Nat.strongRecOn with
    | ind n0 ih15 =>
    intro k c1 c2 u hm15 hI hk ls H locs hl hw
    refine mg_iload X 17 d_Am_blend_15 (lv_at hl 7 rfl) rfl ?_
    refine mg_bipush X 19 6 d_Am_blend_17 mg_cb_6 rfl ?_
    refine mg_icmp_ge X 142 22 (by omega) (by omega) d_Am_blend_19 (by decide) rfl (fun hb => ?_) (fun hb => ?_)
    · -- pc 19 t
      exact mg_vret X hr hlk (u) (by obtain rfl : k = 6 := (by omega); exact am_blF hI hR hx hy hl1 hl2) hw d_Am_blend_142
    · -- pc 19 f
      have a1 := am_bl_lt hI hx hy hr16 hb
      refine mg_aload_n X 23 d_Am_blend_22 (lv_at hl 0 rfl) rfl ?_
      refine mg_get X hK hw 26 0 0 f_Am_11 rfl rfl d_Am_blend_23 rfl ?_
      refine mg_iload_n X 27 d_Am_blend_26 (lv_at hl 1 rfl) rfl ?_
      refine mg_bipush X 29 6 d_Am_blend_27 mg_cb_6 rfl ?_
      refine mg_imul X 30 (nI (x * 6)) d_Am_blend_29 (pk_mul _ _) rfl ?_
      refine mg_iload X 32 d_Am_blend_30 (lv_at hl 7 rfl) rfl ?_
      refine mg_iadd X 33 (nI ((x * 6) + k)) d_Am_blend_32 (nI_add _ _) rfl ?_
      refine mg_lald X hK hw 34 1 rfl (by omega) (by omega) d_Am_blend_33 rfl ?_
      refine mg_lstore X 36 [(10, .long (lN (u ((x * 6) + k)))), (0, .ref (h)), (1, .int (nI (x))), (2, .int (nI (y))), (3, .int (nI (r))), (4, .int (nI (16 - r))), (5, .long (lN (c1))), (7, .long (lN (c2))), (9, .int (nI (k)))] d_Am_blend_34 hl (by decide) rfl rfl (fun ls hl => ?_)
      refine mg_aload_n X 37 d_Am_blend_36 (lv_at hl 1 rfl) rfl ?_
      refine mg_get X hK hw 40 0 0 f_Am_11 rfl rfl d_Am_blend_37 rfl ?_
      refine mg_iload_n X 41 d_Am_blend_40 (lv_at hl 3 rfl) rfl ?_
      refine mg_bipush X 43 6 d_Am_blend_41 mg_cb_6 rfl ?_
      refine mg_imul X 44 (nI (y * 6)) d_Am_blend_43 (pk_mul _ _) rfl ?_
      refine mg_iload X 46 d_Am_blend_44 (lv_at hl 8 rfl) rfl ?_
      refine mg_iadd X 47 (nI ((y * 6) + k)) d_Am_blend_46 (nI_add _ _) rfl ?_
      refine mg_lald X hK hw 48 1 rfl (by omega) (by omega) d_Am_blend_47 rfl ?_
      refine mg_lstore X 50 [(12, .long (lN (u ((y * 6) + k)))), (10, .long (lN (u ((x * 6) + k)))), (0, .ref (h)), (1, .int (nI (x))), (2, .int (nI (y))), (3, .int (nI (r))), (4, .int (nI (16 - r))), (5, .long (lN (c1))), (7, .long (lN (c2))), (9, .int (nI (k)))] d_Am_blend_48 hl (by decide) rfl rfl (fun ls hl => ?_)
      refine mg_iload X 52 d_Am_blend_50 (lv_at hl 6 rfl) rfl ?_
      refine mg_i2l X 53 d_Am_blend_52 (by omega) rfl ?_
      refine mg_lload X 55 d_Am_blend_53 (lv_at hl 1 rfl) rfl ?_
      refine mg_lmul X 56 (lN ((16 - r) * (u ((x * 6) + k)))) d_Am_blend_55 (lN_mul _ _) rfl ?_
      refine mg_iload_n X 57 d_Am_blend_56 (lv_at hl 5 rfl) rfl ?_
      refine mg_i2l X 58 d_Am_blend_57 (by omega) rfl ?_
      refine mg_lload X 60 d_Am_blend_58 (lv_at hl 0 rfl) rfl ?_
      refine mg_lmul X 61 (lN (r * (u ((y * 6) + k)))) d_Am_blend_60 (lN_mul _ _) rfl ?_
      refine mg_ladd X 62 (lN (((16 - r) * (u ((x * 6) + k))) + (r * (u ((y * 6) + k))))) d_Am_blend_61 (lN_add _ _) rfl ?_
      refine mg_lload X 64 d_Am_blend_62 (lv_at hl 7 rfl) rfl ?_
      refine mg_ladd X 65 (lN ((((16 - r) * (u ((x * 6) + k))) + (r * (u ((y * 6) + k)))) + c1)) d_Am_blend_64 (lN_add _ _) rfl ?_
      refine mg_lstore X 67 [(14, .long (lN ((((16 - r) * (u ((x * 6) + k))) + (r * (u ((y * 6) + k)))) + c1))), (12, .long (lN (u ((y * 6) + k)))), (10, .long (lN (u ((x * 6) + k)))), (0, .ref (h)), (1, .int (nI (x))), (2, .int (nI (y))), (3, .int (nI (r))), (4, .int (nI (16 - r))), (5, .long (lN (c1))), (7, .long (lN (c2))), (9, .int (nI (k)))] d_Am_blend_65 hl (by decide) rfl rfl (fun ls hl => ?_)
      refine mg_iload_n X 68 d_Am_blend_67 (lv_at hl 6 rfl) rfl ?_
      refine mg_i2l X 69 d_Am_blend_68 (by omega) rfl ?_
      refine mg_lload X 71 d_Am_blend_69 (lv_at hl 2 rfl) rfl ?_
      refine mg_lmul X 72 (lN (r * (u ((x * 6) + k)))) d_Am_blend_71 (lN_mul _ _) rfl ?_
      refine mg_iload X 74 d_Am_blend_72 (lv_at hl 7 rfl) rfl ?_
      refine mg_i2l X 75 d_Am_blend_74 (by omega) rfl ?_
      refine mg_lload X 77 d_Am_blend_75 (lv_at hl 1 rfl) rfl ?_
      refine mg_lmul X 78 (lN ((16 - r) * (u ((y * 6) + k)))) d_Am_blend_77 (lN_mul _ _) rfl ?_
      refine mg_ladd X 79 (lN ((r * (u ((x * 6) + k))) + ((16 - r) * (u ((y * 6) + k))))) d_Am_blend_78 (lN_add _ _) rfl ?_
      refine mg_lload X 81 d_Am_blend_79 (lv_at hl 9 rfl) rfl ?_
      refine mg_ladd X 82 (lN (((r * (u ((x * 6) + k))) + ((16 - r) * (u ((y * 6) + k)))) + c2)) d_Am_blend_81 (lN_add _ _) rfl ?_
      refine mg_lstore X 84 [(16, .long (lN (((r * (u ((x * 6) + k))) + ((16 - r) * (u ((y * 6) + k)))) + c2))), (14, .long (lN ((((16 - r) * (u ((x * 6) + k))) + (r * (u ((y * 6) + k)))) + c1))), (12, .long (lN (u ((y * 6) + k)))), (10, .long (lN (u ((x * 6) + k)))), (0, .ref (h)), (1, .int (nI (x))), (2, .int (nI (y))), (3, .int (nI (r))), (4, .int (nI (16 - r))), (5, .long (lN (c1))), (7, .long (lN (c2))), (9, .int (nI (k)))] d_Am_blend_82 hl (by decide) rfl rfl (fun ls hl => ?_)
      refine mg_aload_n X 85 d_Am_blend_84 (lv_at hl 4 rfl) rfl ?_
      refine mg_get X hK hw 88 0 0 f_Am_11 rfl rfl d_Am_blend_85 rfl ?_
      refine mg_iload_n X 89 d_Am_blend_88 (lv_at hl 5 rfl) rfl ?_
      refine mg_bipush X 91 6 d_Am_blend_89 mg_cb_6 rfl ?_
      refine mg_imul X 92 (nI (x * 6)) d_Am_blend_91 (pk_mul _ _) rfl ?_
      refine mg_iload X 94 d_Am_blend_92 (lv_at hl 11 rfl) rfl ?_
      refine mg_iadd X 95 (nI ((x * 6) + k)) d_Am_blend_94 (nI_add _ _) rfl ?_
      refine mg_lload X 97 d_Am_blend_95 (lv_at hl 1 rfl) rfl ?_
      refine mg_ldc2 X 100 1000000000 d_Am_blend_97 cw_Am_15 rfl rfl ?_
      refine mg_lrem X 101 d_Am_blend_100 (a1.1) (by omega) (by omega) rfl ?_
      refine mg_last X hK hw 102 1 [mg_ob h 0 [.ref (q)], mg_al K q (n * 6) (va_up u ((x * 6) + k) (((((16 - r) * (u ((x * 6) + k))) + (r * (u ((y * 6) + k)))) + c1) % 1000000000))] rfl (by omega) (by omega) d_Am_blend_101 rfl rfl (fun H locs hw => ?_)
      refine mg_aload_n X 103 d_Am_blend_102 (lv_at hl 4 rfl) rfl ?_
      refine mg_get X hK hw 106 0 0 f_Am_11 rfl rfl d_Am_blend_103 rfl ?_
      refine mg_iload_n X 107 d_Am_blend_106 (lv_at hl 6 rfl) rfl ?_
      refine mg_bipush X 109 6 d_Am_blend_107 mg_cb_6 rfl ?_
      refine mg_imul X 110 (nI (y * 6)) d_Am_blend_109 (pk_mul _ _) rfl ?_
      refine mg_iload X 112 d_Am_blend_110 (lv_at hl 11 rfl) rfl ?_
      refine mg_iadd X 113 (nI ((y * 6) + k)) d_Am_blend_112 (nI_add _ _) rfl ?_
      refine mg_lload X 115 d_Am_blend_113 (lv_at hl 0 rfl) rfl ?_
      refine mg_ldc2 X 118 1000000000 d_Am_blend_115 cw_Am_15 rfl rfl ?_
      refine mg_lrem X 119 d_Am_blend_118 (a1.2) (by omega) (by omega) rfl ?_
      refine mg_last X hK hw 120 1 [mg_ob h 0 [.ref (q)], mg_al K q (n * 6) (va_up (va_up u ((x * 6) + k) (((((16 - r) * (u ((x * 6) + k))) + (r * (u ((y * 6) + k)))) + c1) % 1000000000)) ((y * 6) + k) ((((r * (u ((x * 6) + k))) + ((16 - r) * (u ((y * 6) + k)))) + c2) % 1000000000))] rfl (by omega) (by omega) d_Am_blend_119 rfl rfl (fun H locs hw => ?_)
      refine mg_lload X 122 d_Am_blend_120 (lv_at hl 1 rfl) rfl ?_
      refine mg_ldc2 X 125 1000000000 d_Am_blend_122 cw_Am_15 rfl rfl ?_
      refine mg_ldiv X 126 d_Am_blend_125 (a1.1) (by omega) (by omega) rfl ?_
      refine mg_lstore X 128 [(5, .long (lN (((((16 - r) * (u ((x * 6) + k))) + (r * (u ((y * 6) + k)))) + c1) / 1000000000))), (16, .long (lN (((r * (u ((x * 6) + k))) + ((16 - r) * (u ((y * 6) + k)))) + c2))), (14, .long (lN ((((16 - r) * (u ((x * 6) + k))) + (r * (u ((y * 6) + k)))) + c1))), (12, .long (lN (u ((y * 6) + k)))), (10, .long (lN (u ((x * 6) + k)))), (0, .ref (h)), (1, .int (nI (x))), (2, .int (nI (y))), (3, .int (nI (r))), (4, .int (nI (16 - r))), (7, .long (lN (c2))), (9, .int (nI (k)))] d_Am_blend_126 hl (by decide) rfl rfl (fun ls hl => ?_)
      refine mg_lload X 130 d_Am_blend_128 (lv_at hl 1 rfl) rfl ?_
      refine mg_ldc2 X 133 1000000000 d_Am_blend_130 cw_Am_15 rfl rfl ?_
      refine mg_ldiv X 134 d_Am_blend_133 (a1.2) (by omega) (by omega) rfl ?_
      refine mg_lstore X 136 [(7, .long (lN ((((r * (u ((x * 6) + k))) + ((16 - r) * (u ((y * 6) + k)))) + c2) / 1000000000))), (5, .long (lN (((((16 - r) * (u ((x * 6) + k))) + (r * (u ((y * 6) + k)))) + c1) / 1000000000))), (16, .long (lN (((r * (u ((x * 6) + k))) + ((16 - r) * (u ((y * 6) + k)))) + c2))), (14, .long (lN ((((16 - r) * (u ((x * 6) + k))) + (r * (u ((y * 6) + k)))) + c1))), (12, .long (lN (u ((y * 6) + k)))), (10, .long (lN (u ((x * 6) + k)))), (0, .ref (h)), (1, .int (nI (x))), (2, .int (nI (y))), (3, .int (nI (r))), (4, .int (nI (16 - r))), (9, .int (nI (k)))] d_Am_blend_134 hl (by decide) rfl rfl (fun ls hl => ?_)
      refine mg_iinc X 139 [(9, .int (nI (k + 1))), (7, .long (lN ((((r * (u ((x * 6) + k))) + ((16 - r) * (u ((y * 6) + k)))) + c2) / 1000000000))), (5, .long (lN (((((16 - r) * (u ((x * 6) + k))) + (r * (u ((y * 6) + k)))) + c1) / 1000000000))), (16, .long (lN (((r * (u ((x * 6) + k))) + ((16 - r) * (u ((y * 6) + k)))) + c2))), (14, .long (lN ((((16 - r) * (u ((x * 6) + k))) + (r * (u ((y * 6) + k)))) + c1))), (12, .long (lN (u ((y * 6) + k)))), (10, .long (lN (u ((x * 6) + k)))), (0, .ref (h)), (1, .int (nI (x))), (2, .int (nI (y))), (3, .int (nI (r))), (4, .int (nI (16 - r)))] (k + 1) d_Am_blend_136 hl (k := 11) rfl (mg_inc1 _) (by decide) rfl rfl (fun ls hl => ?_)
      refine mg_goto X 15 d_Am_blend_139 (by decide) ?_
      have hl : lv_has ls 18 [(0, .ref (h)), (1, .int (nI (x))), (2, .int (nI (y))), (3, .int (nI (r))), (4, .int (nI (16 - r))), (5, .long (lN (((((16 - r) * (u ((x * 6) + k))) + (r * (u ((y * 6) + k)))) + c1) / 1000000000))), (7, .long (lN ((((r * (u ((x * 6) + k))) + ((16 - r) * (u ((y * 6) + k)))) + c2) / 1000000000))), (9, .int (nI (k + 1)))] := lv_sub hl [7, 8, 9, 10, 11, 2, 1, 0] rfl
      exact ih15 _ (by omega) (k + 1) (((((16 - r) * (u ((x * 6) + k))) + (r * (u ((y * 6) + k)))) + c1) / 1000000000) ((((r * (u ((x * 6) + k))) + ((16 - r) * (u ((y * 6) + k)))) + c2) / 1000000000) (va_up (va_up u ((x * 6) + k) (((((16 - r) * (u ((x * 6) + k))) + (r * (u ((y * 6) + k)))) + c1) % 1000000000)) ((y * 6) + k) ((((r * (u ((x * 6) + k))) + ((16 - r) * (u ((y * 6) + k)))) + c2) % 1000000000)) rfl (am_blS hI hx hy hxy hr16 hb) (by omega) ls _ _ hl hw
  have hl : lv_has ls 18 [(0, .ref (h)), (1, .int (nI (x))), (2, .int (nI (y))), (3, .int (nI (r))), (4, .int (nI (16 - r))), (5, .long (lN (0))), (7, .long (lN (0))), (9, .int (nI (0)))] := lv_sub hl [4, 5, 6, 7, 3, 2, 1, 0] rfl
  exact L15 _ 0 0 0 d rfl (am_bl0 hR.1) (by omega) ls _ _ hl hw

set_option maxRecDepth 100000 in
set_option maxHeartbeats 4000000 in
theorem k_Am_isZero (l : Launch) (D : va_G) (K : Nat → ClassId) (h : Nat) (q : Nat) (n : Nat) (i : Nat) (d : Nat → Nat) (V : Nat → Nat) (hn : n ≤ 64) (hR : am_R n d V) (hi : i < n) : mg_Mi l D K y_Am_isZero b_Am_isZero 3 (.boolean) ({ frames := 0, cells := 0, slots := 0, locals := 0 }) [.ref (h), .int (nI (i))] [mg_ob h 0 [.ref (q)], mg_al K q (n * 6) d] (fun (r : Int32) (_ : Unit) => r = nI (ft_c (V i = 0))) (fun (_ : Unit) => [mg_ob h 0 [.ref (q)], mg_al K q (n * 6) d]) := by
  intro sz
  refine mg_entry (Qc := fun A => va_Qi (fun (r : Int32) (_ : Unit) => r = nI (ft_c (V i = 0))) (mg_B D A (fun (_ : Unit) => [mg_ob h 0 [.ref (q)], mg_al K q (n * 6) d])) A) (by decide) (Nat.le_of_ble_eq_true rfl) ?_
  intro p e s m args below meth c A ls X hr hlk hnm hA hK hw hl
  have hl : lv_has ls 3 [(0, .ref (h)), (1, .int (nI (i)))] := hl
  refine mg_iconst X 1 0 d_Am_isZero_0 mg_ci_0 rfl ?_
  refine mg_istore_n X 2 [(2, .int (nI (0))), (0, .ref (h)), (1, .int (nI (i)))] d_Am_isZero_1 hl (by decide) rfl rfl (fun ls hl => ?_)
  have L2 : ∀ (n0 : Nat) (k : Nat), n0 = 6 - k → (∀ j, j < k → d (i * 6 + j) = 0) → (k ≤ 6) → ∀ (ls : Array Slot) (H : Heap) (locs : List Loc), lv_has ls 3 [(0, .ref (h)), (1, .int (nI (i))), (2, .int (nI (k)))] → mg_H D A s.heap H locs [mg_ob h 0 [.ref (q)], mg_al K q (n * 6) d] → W p l e ({ frames := 0, cells := 0, slots := 0, locals := 0 }) s m args below meth c H locs 0 0 (MQ below (va_Qi (fun (r : Int32) (_ : Unit) => r = nI (ft_c (V i = 0))) (mg_B D A (fun (_ : Unit) => [mg_ob h 0 [.ref (q)], mg_al K q (n * 6) d])) A) args s (0) (0) A) (F0 m 2 ls []) := by
    intro n0
    induction n0 using Nat.strongRecOn with
    | ind n0 ih2 =>
    intro k hm2 hI hk ls H locs hl hw
    refine mg_iload_n X 3 d_Am_isZero_2 (lv_at hl 2 rfl) rfl ?_
    refine mg_bipush X 5 6 d_Am_isZero_3 mg_cb_6 rfl ?_
    refine mg_icmp_ge X 32 8 (by omega) (by omega) d_Am_isZero_5 (by decide) rfl (fun hb => ?_) (fun hb => ?_)
    · -- pc 5 t
      refine mg_iconst X 33 1 d_Am_isZero_32 mg_ci_1 rfl ?_
      exact mg_iret X hr hlk (mg_nz (by omega)) (()) (by rw [ft_c1 (am_zero hR hi (fun j hj => hI j (by omega)))]) hw d_Am_isZero_33
    · -- pc 5 f
      have a1 := hR.1 (i * 6 + k) (by omega)
      refine mg_aload_n X 9 d_Am_isZero_8 (lv_at hl 0 rfl) rfl ?_
      refine mg_get X hK hw 12 0 0 f_Am_11 rfl rfl d_Am_isZero_9 rfl ?_
      refine mg_iload_n X 13 d_Am_isZero_12 (lv_at hl 1 rfl) rfl ?_
      refine mg_bipush X 15 6 d_Am_isZero_13 mg_cb_6 rfl ?_
      refine mg_imul X 16 (nI (i * 6)) d_Am_isZero_15 (pk_mul _ _) rfl ?_
      refine mg_iload_n X 17 d_Am_isZero_16 (lv_at hl 2 rfl) rfl ?_
      refine mg_iadd X 18 (nI ((i * 6) + k)) d_Am_isZero_17 (nI_add _ _) rfl ?_
      refine mg_lald X hK hw 19 1 rfl (by omega) (by omega) d_Am_isZero_18 rfl ?_
      refine mg_lconst X 20 0 d_Am_isZero_19 rfl rfl ?_
      refine mg_lcmp_eq X 26 24 (by omega) (by omega) d_Am_isZero_20 d_Am_isZero_21 (by decide) rfl (fun hz => ?_) (fun hz => ?_)
      · -- pc 20 t
        refine mg_iinc X 29 [(2, .int (nI (k + 1))), (0, .ref (h)), (1, .int (nI (i)))] (k + 1) d_Am_isZero_26 hl (k := 2) rfl (mg_inc1 _) (by decide) rfl rfl (fun ls hl => ?_)
        refine mg_goto X 2 d_Am_isZero_29 (by decide) ?_
        have hl : lv_has ls 3 [(0, .ref (h)), (1, .int (nI (i))), (2, .int (nI (k + 1)))] := lv_sub hl [1, 2, 0] rfl
        exact ih2 _ (by omega) (k + 1) rfl (fun j hj => by rcases (show j < k ∨ j = k by omega) with h9 | h9; exact hI j h9; rw [h9]; exact hz) (by omega) ls _ _ hl hw
      · -- pc 20 f
        refine mg_iconst X 25 0 d_Am_isZero_24 mg_ci_0 rfl ?_
        exact mg_iret X hr hlk (mg_nz (by omega)) (()) (by rw [ft_c0 (am_nonzero hR hi hb hz)]) hw d_Am_isZero_25
  have hl : lv_has ls 3 [(0, .ref (h)), (1, .int (nI (i))), (2, .int (nI (0)))] := lv_sub hl [1, 2, 0] rfl
  exact L2 _ 0 rfl (fun j hj => absurd hj (Nat.not_lt_zero j)) (by omega) ls _ _ hl hw

set_option maxRecDepth 100000 in
set_option maxHeartbeats 4000000 in
theorem k_Am_compare (l : Launch) (D : va_G) (K : Nat → ClassId) (h : Nat) (q : Nat) (n : Nat) (x : Nat) (y : Nat) (d : Nat → Nat) (V : Nat → Nat) (hn : n ≤ 64) (hR : am_R n d V) (hx : x < n) (hy : y < n) : mg_Mi l D K y_Am_compare b_Am_compare 8 (.int) ({ frames := 0, cells := 0, slots := 0, locals := 0 }) [.ref (h), .int (nI (x)), .int (nI (y))] [mg_ob h 0 [.ref (q)], mg_al K q (n * 6) d] (fun (r : Int32) (_ : Unit) => r = nI (mg_cmp (V x) (V y))) (fun (_ : Unit) => [mg_ob h 0 [.ref (q)], mg_al K q (n * 6) d]) := by
  intro sz
  refine mg_entry (Qc := fun A => va_Qi (fun (r : Int32) (_ : Unit) => r = nI (mg_cmp (V x) (V y))) (mg_B D A (fun (_ : Unit) => [mg_ob h 0 [.ref (q)], mg_al K q (n * 6) d])) A) (by decide) (Nat.le_of_ble_eq_true rfl) ?_
  intro p e s m args below meth c A ls X hr hlk hnm hA hK hw hl
  have hl : lv_has ls 8 [(0, .ref (h)), (1, .int (nI (x))), (2, .int (nI (y)))] := hl
  refine mg_iconst X 1 5 d_Am_compare_0 mg_ci_5 rfl ?_
  refine mg_istore_n X 2 [(3, .int (nI (5))), (0, .ref (h)), (1, .int (nI (x))), (2, .int (nI (y)))] d_Am_compare_1 hl (by decide) rfl rfl (fun ls hl => ?_)
  have L2 : ∀ (n0 : Nat) (k1 : Nat), n0 = k1 → (∀ j, k1 ≤ j → j < 6 → d (x * 6 + j) = d (y * 6 + j)) → (k1 ≤ 6) → ∀ (ls : Array Slot) (H : Heap) (locs : List Loc), lv_has ls 8 [(0, .ref (h)), (1, .int (nI (x))), (2, .int (nI (y))), (3, .int (mg_dn k1))] → mg_H D A s.heap H locs [mg_ob h 0 [.ref (q)], mg_al K q (n * 6) d] → W p l e ({ frames := 0, cells := 0, slots := 0, locals := 0 }) s m args below meth c H locs 0 0 (MQ below (va_Qi (fun (r : Int32) (_ : Unit) => r = nI (mg_cmp (V x) (V y))) (mg_B D A (fun (_ : Unit) => [mg_ob h 0 [.ref (q)], mg_al K q (n * 6) d])) A) args s (0) (0) A) (F0 m 2 ls []) := by
    intro n0
    induction n0 using Nat.strongRecOn with
    | ind n0 ih2 =>
    intro k1 hm2 hI hk ls H locs hl hw
    cases k1 with
    | zero =>
      have hl : lv_has ls 8 [(0, .ref (h)), (1, .int (nI (x))), (2, .int (nI (y))), (3, .int (nI (4294967295)))] := hl
      refine mg_iload_n X 3 d_Am_compare_2 (lv_at hl 3 rfl) rfl ?_
      refine mg_iflt_y X 60 d_Am_compare_3 (by decide) ?_
      refine mg_iconst X 61 0 d_Am_compare_60 mg_ci_0 rfl ?_
      exact mg_iret X hr hlk (rfl) (()) (by rw [am_cmp_eq hR hx hy (fun j hj => hI j (by omega) hj)]) hw d_Am_compare_61
    | succ k =>
      have hl : lv_has ls 8 [(0, .ref (h)), (1, .int (nI (x))), (2, .int (nI (y))), (3, .int (nI (k)))] := hl
      refine mg_iload_n X 3 d_Am_compare_2 (lv_at hl 3 rfl) rfl ?_
      refine mg_iflt_n X 6 (by omega) (tgt := 60) d_Am_compare_3 (by decide) rfl ?_
      refine mg_aload_n X 7 d_Am_compare_6 (lv_at hl 0 rfl) rfl ?_
      refine mg_get X hK hw 10 0 0 f_Am_11 rfl rfl d_Am_compare_7 rfl ?_
      refine mg_iload_n X 11 d_Am_compare_10 (lv_at hl 1 rfl) rfl ?_
      refine mg_bipush X 13 6 d_Am_compare_11 mg_cb_6 rfl ?_
      refine mg_imul X 14 (nI (x * 6)) d_Am_compare_13 (pk_mul _ _) rfl ?_
      refine mg_iload_n X 15 d_Am_compare_14 (lv_at hl 3 rfl) rfl ?_
      refine mg_iadd X 16 (nI ((x * 6) + k)) d_Am_compare_15 (nI_add _ _) rfl ?_
      refine mg_lald X hK hw 17 1 rfl (by omega) (by omega) d_Am_compare_16 rfl ?_
      refine mg_lstore X 19 [(4, .long (lN (d ((x * 6) + k)))), (0, .ref (h)), (1, .int (nI (x))), (2, .int (nI (y))), (3, .int (nI (k)))] d_Am_compare_17 hl (by decide) rfl rfl (fun ls hl => ?_)
      refine mg_aload_n X 20 d_Am_compare_19 (lv_at hl 1 rfl) rfl ?_
      refine mg_get X hK hw 23 0 0 f_Am_11 rfl rfl d_Am_compare_20 rfl ?_
      refine mg_iload_n X 24 d_Am_compare_23 (lv_at hl 3 rfl) rfl ?_
      refine mg_bipush X 26 6 d_Am_compare_24 mg_cb_6 rfl ?_
      refine mg_imul X 27 (nI (y * 6)) d_Am_compare_26 (pk_mul _ _) rfl ?_
      refine mg_iload_n X 28 d_Am_compare_27 (lv_at hl 4 rfl) rfl ?_
      refine mg_iadd X 29 (nI ((y * 6) + k)) d_Am_compare_28 (nI_add _ _) rfl ?_
      refine mg_lald X hK hw 30 1 rfl (by omega) (by omega) d_Am_compare_29 rfl ?_
      refine mg_lstore X 32 [(6, .long (lN (d ((y * 6) + k)))), (4, .long (lN (d ((x * 6) + k)))), (0, .ref (h)), (1, .int (nI (x))), (2, .int (nI (y))), (3, .int (nI (k)))] d_Am_compare_30 hl (by decide) rfl rfl (fun ls hl => ?_)
      refine mg_lload X 34 d_Am_compare_32 (lv_at hl 1 rfl) rfl ?_
      refine mg_lload X 36 d_Am_compare_34 (lv_at hl 0 rfl) rfl ?_
      refine mg_lcmp_eq X 54 40 (by have := hR.1 (x * 6 + k) (by omega); omega) (by have := hR.1 (y * 6 + k) (by omega); omega) d_Am_compare_36 d_Am_compare_37 (by decide) rfl (fun hz => ?_) (fun hz => ?_)
      · -- pc 36 t
        refine mg_iincD X 57 [(3, .int (mg_dn k)), (6, .long (lN (d ((y * 6) + k)))), (4, .long (lN (d ((x * 6) + k)))), (0, .ref (h)), (1, .int (nI (x))), (2, .int (nI (y)))] d_Am_compare_54 hl (k := 5) rfl (by decide) rfl rfl (fun ls hl => ?_)
        refine mg_goto X 2 d_Am_compare_57 (by decide) ?_
        have hl : lv_has ls 8 [(0, .ref (h)), (1, .int (nI (x))), (2, .int (nI (y))), (3, .int (mg_dn k))] := lv_sub hl [3, 4, 5, 0] rfl
        exact ih2 _ (by omega) k rfl (fun j h1 h2 => by rcases (show k + 1 ≤ j ∨ j = k by omega) with h9 | h9; exact hI j h9 h2; rw [h9]; exact hz) (by omega) ls _ _ hl hw
      · -- pc 36 f
        refine mg_lload X 42 d_Am_compare_40 (lv_at hl 1 rfl) rfl ?_
        refine mg_lload X 44 d_Am_compare_42 (lv_at hl 0 rfl) rfl ?_
        refine mg_lcmp_le X 52 48 (by have := hR.1 (x * 6 + k) (by omega); omega) (by have := hR.1 (y * 6 + k) (by omega); omega) d_Am_compare_44 d_Am_compare_45 (by decide) rfl (fun hg => ?_) (fun hg => ?_)
        · -- pc 44 t
          refine mg_iconst X 53 4294967295 d_Am_compare_52 mg_ci_m1 rfl ?_
          exact mg_iret X hr hlk (rfl) (()) (by rw [am_cmp_lt hR hx hy (show k < 6 by omega) (fun j h1 h2 => hI j (by omega) h2) (by omega)]) hw d_Am_compare_53
        · -- pc 44 f
          refine mg_iconst X 49 1 d_Am_compare_48 mg_ci_1 rfl ?_
          refine mg_goto X 53 d_Am_compare_49 (by decide) ?_
          exact mg_iret X hr hlk (rfl) (()) (by rw [am_cmp_gt hR hx hy (show k < 6 by omega) (fun j h1 h2 => hI j (by omega) h2) hg]) hw d_Am_compare_53
  have hl : lv_has ls 8 [(0, .ref (h)), (1, .int (nI (x))), (2, .int (nI (y))), (3, .int (nI (5)))] := lv_sub hl [1, 2, 3, 0] rfl
  exact L2 _ (5 + 1) rfl (fun j h1 h2 => by omega) (by omega) ls _ _ hl hw
