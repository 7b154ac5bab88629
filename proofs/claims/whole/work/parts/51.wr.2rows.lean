set_option maxRecDepth 100000 in
set_option maxHeartbeats 4000000 in
theorem k_Am_write (l : Launch) (D : va_G) (K : Nat → ClassId) (h : Nat) (q : Nat) (n : Nat) (i : Nat) (qp : Nat) (d : Nat → Nat) (V : Nat → Nat) (pg : Nat → Nat) (hn : n ≤ 64) (hR : am_R n d V) (hi : i < n) (hV : V i < 10 ^ 54) : mg_MiS l D K y_Am_write b_Am_write 8 (.int) ({ frames := 0, cells := 0, slots := 0, locals := 0 }) [.ref (h), .int (nI (i)), .ref (qp)] [mg_ob h 0 [.ref (q)], mg_al K q (n * 6) d, mg_ac K qp 54 pg] (fun (r : Int32) (uu : (Nat) × (Nat → Nat)) => r = nI uu.1 ∧ de_ok (V i) uu.1 ∧ uu.1 ≤ 54 ∧ (∀ j, j < uu.1 → uu.2 j = de_d (V i) (uu.1 - 1 - j))) (fun (uu : (Nat) × (Nat → Nat)) => [mg_ob h 0 [.ref (q)], mg_al K q (n * 6) d, mg_ac K qp 54 uu.2]) := by
  intro sz
  refine mg_entryS (Qc := fun A => va_Qi (fun (r : Int32) (uu : (Nat) × (Nat → Nat)) => r = nI uu.1 ∧ de_ok (V i) uu.1 ∧ uu.1 ≤ 54 ∧ (∀ j, j < uu.1 → uu.2 j = de_d (V i) (uu.1 - 1 - j))) (mg_B D A (fun (uu : (Nat) × (Nat → Nat)) => [mg_ob h 0 [.ref (q)], mg_al K q (n * 6) d, mg_ac K qp 54 uu.2])) A) (by decide) (Nat.le_of_ble_eq_true rfl) ?_
  intro p e s m args below meth c A ls X hr hlk hnm hA hK hw hSt hl
  have hl : lv_has ls 8 [(0, .ref (h)), (1, .int (nI (i))), (2, .ref (qp))] := hl
  obtain ⟨tt, hZ, hTt⟩ := hSt.2.2.1
  refine mg_iconst X 1 0 d_Am_write_0 mg_ci_0 rfl ?_
  refine mg_istore_n X 2 [(3, .int (nI (0))), (0, .ref (h)), (1, .int (nI (i))), (2, .ref (qp))] d_Am_write_1 hl (by decide) rfl rfl (fun ls hl => ?_)
  refine mg_bipush X 4 53 d_Am_write_2 mg_cb_53 rfl ?_
  refine mg_istore X 6 [(4, .int (nI (53))), (3, .int (nI (0))), (0, .ref (h)), (1, .int (nI (i))), (2, .ref (qp))] d_Am_write_4 hl (by decide) rfl rfl (fun ls hl => ?_)
  have L6 : ∀ (n0 : Nat) (k1 : Nat) (wn : Nat) (pg2 : Nat → Nat), n0 = k1 → (wr_I (V i) k1 wn pg2) → (k1 ≤ 54) → ∀ (ls : Array Slot) (H : Heap) (locs : List Loc), lv_has ls 8 [(0, .ref (h)), (1, .int (nI (i))), (2, .ref (qp)), (3, .int (nI (wn))), (4, .int (mg_dn k1))] → mg_H D A s.heap H locs [mg_ob h 0 [.ref (q)], mg_al K q (n * 6) d, mg_ac K qp 54 pg2] → W p l e ({ frames := 0, cells := 0, slots := 0, locals := 0 }) s m args below meth c H locs 0 0 (MQ below (va_Qi (fun (r : Int32) (uu : (Nat) × (Nat → Nat)) => r = nI uu.1 ∧ de_ok (V i) uu.1 ∧ uu.1 ≤ 54 ∧ (∀ j, j < uu.1 → uu.2 j = de_d (V i) (uu.1 - 1 - j))) (mg_B D A (fun (uu : (Nat) × (Nat → Nat)) => [mg_ob h 0 [.ref (q)], mg_al K q (n * 6) d, mg_ac K qp 54 uu.2])) A) args s (0) (0) A) (F0 m 6 ls []) := by
    intro n0
    induction n0 using Nat.strongRecOn with
    | ind n0 ih6 =>
    intro k1 wn pg2 hm6 hI hk1 ls H locs hl hw
    cases k1 with
    | zero =>
      have hl : lv_has ls 8 [(0, .ref (h)), (1, .int (nI (i))), (2, .ref (qp)), (3, .int (nI (wn))), (4, .int (nI (4294967295)))] := hl
      refine mg_iload X 8 d_Am_write_6 (lv_at hl 4 rfl) rfl ?_
      refine mg_iflt_y X 80 d_Am_write_8 (by decide) ?_
      refine mg_iload_n X 81 d_Am_write_80 (lv_at hl 3 rfl) rfl ?_
      exact mg_iret X hr hlk (rfl) ((wn, pg2)) (⟨rfl, wr_F hI⟩) hw d_Am_write_81
    | succ k =>
      have hl : lv_has ls 8 [(0, .ref (h)), (1, .int (nI (i))), (2, .ref (qp)), (3, .int (nI (wn))), (4, .int (nI (k)))] := hl
      refine mg_iload X 8 d_Am_write_6 (lv_at hl 4 rfl) rfl ?_
      refine mg_iflt_n X 11 (by omega) (tgt := 80) d_Am_write_8 (by decide) rfl ?_
      have hb54 := hI.2.2
      have hdg := wr_dg hR hi (show k < 54 by omega)
      have hpl := hR.1 (i * 6 + k / 9) (by omega)
      have h10 : 10 ^ (k % 9) ≤ 10 ^ 8 := Nat.pow_le_pow_right (by decide) (by omega)
      have h1p : 0 < 10 ^ (k % 9) := Nat.pow_pos (by decide)
      have hdl := Nat.mod_lt (d (i * 6 + k / 9) / 10 ^ (k % 9)) (show 0 < 10 by decide)
      have hql := Nat.div_le_self (d (i * 6 + k / 9)) (10 ^ (k % 9))
      refine mg_aload_n X 12 d_Am_write_11 (lv_at hl 0 rfl) rfl ?_
      refine mg_get X hK hw 15 0 0 f_Am_11 rfl rfl d_Am_write_12 rfl ?_
      refine mg_iload_n X 16 d_Am_write_15 (lv_at hl 1 rfl) rfl ?_
      refine mg_bipush X 18 6 d_Am_write_16 mg_cb_6 rfl ?_
      refine mg_imul X 19 (nI (i * 6)) d_Am_write_18 (pk_mul _ _) rfl ?_
      refine mg_iload X 21 d_Am_write_19 (lv_at hl 4 rfl) rfl ?_
      refine mg_bipush X 23 9 d_Am_write_21 mg_cb_9 rfl ?_
      refine mg_idiv X 24 d_Am_write_23 (by omega) (by omega) (by omega) rfl ?_
      refine mg_iadd X 25 (nI ((i * 6) + (k / 9))) d_Am_write_24 (nI_add _ _) rfl ?_
      refine mg_lald X hK hw 26 1 rfl (by omega) (by omega) d_Am_write_25 rfl ?_
      refine mg_lstore X 28 [(5, .long (lN (d ((i * 6) + (k / 9))))), (0, .ref (h)), (1, .int (nI (i))), (2, .ref (qp)), (3, .int (nI (wn))), (4, .int (nI (k)))] d_Am_write_26 hl (by decide) rfl rfl (fun ls hl => ?_)
      refine mg_lload X 30 d_Am_write_28 (lv_at hl 0 rfl) rfl ?_
      refine mg_gets X hw hZ 33 sf_Am_17 d_Am_write_30 rfl ?_
      refine mg_iload X 35 d_Am_write_33 (lv_at hl 5 rfl) rfl ?_
      refine mg_bipush X 37 9 d_Am_write_35 mg_cb_9 rfl ?_
      refine mg_irem X 38 d_Am_write_37 (by omega) (by omega) (by omega) rfl ?_
      refine mg_tens X hw hTt 39 (Nat.mod_lt _ (by decide)) d_Am_write_38 rfl ?_
      refine mg_i2l X 40 d_Am_write_39 (by omega) rfl ?_
      refine mg_ldiv X 41 d_Am_write_40 (by omega) (by omega) (by omega) rfl ?_
      refine mg_ldc2 X 44 10 d_Am_write_41 cw_Am_21 rfl rfl ?_
      refine mg_lrem X 45 d_Am_write_44 (by omega) (by omega) (by omega) rfl ?_
      refine mg_l2i X 46 d_Am_write_45 rfl ?_
      refine mg_istore X 48 [(7, .int (nI (((d ((i * 6) + (k / 9))) / (10 ^ (k % 9))) % 10))), (5, .long (lN (d ((i * 6) + (k / 9))))), (0, .ref (h)), (1, .int (nI (i))), (2, .ref (qp)), (3, .int (nI (wn))), (4, .int (nI (k)))] d_Am_write_46 hl (by decide) rfl rfl (fun ls hl => ?_)
      refine mg_iload X 50 d_Am_write_48 (lv_at hl 0 rfl) rfl ?_
      refine mg_if_ne X 62 53 (by omega) d_Am_write_50 (by decide) rfl (fun hd0 => ?_) (fun hd0 => ?_)
      · -- pc 50 t
        refine mg_aload_n X 63 d_Am_write_62 (lv_at hl 4 rfl) rfl ?_
        refine mg_iload_n X 64 d_Am_write_63 (lv_at hl 5 rfl) rfl ?_
        refine mg_bipush X 66 48 d_Am_write_64 mg_cb_48 rfl ?_
        refine mg_iload X 68 d_Am_write_66 (lv_at hl 0 rfl) rfl ?_
        refine mg_iadd X 69 (nI (48 + (((d ((i * 6) + (k / 9))) / (10 ^ (k % 9))) % 10))) d_Am_write_68 (nI_add _ _) rfl ?_
        refine mg_i2c X 70 d_Am_write_69 (by omega) rfl ?_
        refine mg_cast X hK hw 71 2 [mg_ob h 0 [.ref (q)], mg_al K q (n * 6) d, mg_ac K qp 54 (va_up pg2 wn (48 + (((d ((i * 6) + (k / 9))) / (10 ^ (k % 9))) % 10)))] rfl (by omega) (by omega) (by omega) d_Am_write_70 rfl rfl (fun H locs hw => ?_)
        refine mg_iinc X 74 [(3, .int (nI (wn + 1))), (7, .int (nI (((d ((i * 6) + (k / 9))) / (10 ^ (k % 9))) % 10))), (5, .long (lN (d ((i * 6) + (k / 9))))), (0, .ref (h)), (1, .int (nI (i))), (2, .ref (qp)), (4, .int (nI (k)))] (wn + 1) d_Am_write_71 hl (k := 5) rfl (mg_inc1 _) (by decide) rfl rfl (fun ls hl => ?_)
        refine mg_iincD X 77 [(4, .int (mg_dn k)), (3, .int (nI (wn + 1))), (7, .int (nI (((d ((i * 6) + (k / 9))) / (10 ^ (k % 9))) % 10))), (5, .long (lN (d ((i * 6) + (k / 9))))), (0, .ref (h)), (1, .int (nI (i))), (2, .ref (qp))] d_Am_write_74 hl (k := 6) rfl (by decide) rfl rfl (fun ls hl => ?_)
        refine mg_goto X 6 d_Am_write_77 (by decide) ?_
        have hl : lv_has ls 8 [(0, .ref (h)), (1, .int (nI (i))), (2, .ref (qp)), (3, .int (nI (wn + 1))), (4, .int (mg_dn k))] := lv_sub hl [4, 5, 6, 1, 0] rfl
        exact ih6 _ (by omega) k (wn + 1) (va_up pg2 wn (48 + (((d ((i * 6) + (k / 9))) / (10 ^ (k % 9))) % 10))) rfl (wr_y hI hdg (by omega)) (by omega) ls _ _ hl hw
      · -- pc 50 f
        refine mg_iload_n X 54 d_Am_write_53 (lv_at hl 5 rfl) rfl ?_
        refine mg_if_gt X 62 57 (by omega) d_Am_write_54 (by decide) rfl (fun hw0 => ?_) (fun hw0 => ?_)
        · -- pc 54 t
          refine mg_aload_n X 63 d_Am_write_62 (lv_at hl 4 rfl) rfl ?_
          refine mg_iload_n X 64 d_Am_write_63 (lv_at hl 5 rfl) rfl ?_
          refine mg_bipush X 66 48 d_Am_write_64 mg_cb_48 rfl ?_
          refine mg_iload X 68 d_Am_write_66 (lv_at hl 0 rfl) rfl ?_
          refine mg_iadd X 69 (nI (48 + (((d ((i * 6) + (k / 9))) / (10 ^ (k % 9))) % 10))) d_Am_write_68 (nI_add _ _) rfl ?_
          refine mg_i2c X 70 d_Am_write_69 (by omega) rfl ?_
          refine mg_cast X hK hw 71 2 [mg_ob h 0 [.ref (q)], mg_al K q (n * 6) d, mg_ac K qp 54 (va_up pg2 wn (48 + (((d ((i * 6) + (k / 9))) / (10 ^ (k % 9))) % 10)))] rfl (by omega) (by omega) (by omega) d_Am_write_70 rfl rfl (fun H locs hw => ?_)
          refine mg_iinc X 74 [(3, .int (nI (wn + 1))), (7, .int (nI (((d ((i * 6) + (k / 9))) / (10 ^ (k % 9))) % 10))), (5, .long (lN (d ((i * 6) + (k / 9))))), (0, .ref (h)), (1, .int (nI (i))), (2, .ref (qp)), (4, .int (nI (k)))] (wn + 1) d_Am_write_71 hl (k := 5) rfl (mg_inc1 _) (by decide) rfl rfl (fun ls hl => ?_)
          refine mg_iincD X 77 [(4, .int (mg_dn k)), (3, .int (nI (wn + 1))), (7, .int (nI (((d ((i * 6) + (k / 9))) / (10 ^ (k % 9))) % 10))), (5, .long (lN (d ((i * 6) + (k / 9))))), (0, .ref (h)), (1, .int (nI (i))), (2, .ref (qp))] d_Am_write_74 hl (k := 6) rfl (by decide) rfl rfl (fun ls hl => ?_)
          refine mg_goto X 6 d_Am_write_77 (by decide) ?_
          have hl : lv_has ls 8 [(0, .ref (h)), (1, .int (nI (i))), (2, .ref (qp)), (3, .int (nI (wn + 1))), (4, .int (mg_dn k))] := lv_sub hl [4, 5, 6, 1, 0] rfl
          exact ih6 _ (by omega) k (wn + 1) (va_up pg2 wn (48 + (((d ((i * 6) + (k / 9))) / (10 ^ (k % 9))) % 10))) rfl (wr_y hI hdg (by omega)) (by omega) ls _ _ hl hw
        · -- pc 54 f
          refine mg_iload X 59 d_Am_write_57 (lv_at hl 6 rfl) rfl ?_
          refine mg_if_ne X 74 62 (by omega) d_Am_write_59 (by decide) rfl (fun hk0 => ?_) (fun hk0 => ?_)
          · -- pc 59 t
            refine mg_iincD X 77 [(4, .int (mg_dn k)), (7, .int (nI (((d ((i * 6) + (k / 9))) / (10 ^ (k % 9))) % 10))), (5, .long (lN (d ((i * 6) + (k / 9))))), (0, .ref (h)), (1, .int (nI (i))), (2, .ref (qp)), (3, .int (nI (wn)))] d_Am_write_74 hl (k := 6) rfl (by decide) rfl rfl (fun ls hl => ?_)
            refine mg_goto X 6 d_Am_write_77 (by decide) ?_
            have hl : lv_has ls 8 [(0, .ref (h)), (1, .int (nI (i))), (2, .ref (qp)), (3, .int (nI (wn))), (4, .int (mg_dn k))] := lv_sub hl [3, 4, 5, 6, 0] rfl
            exact ih6 _ (by omega) k wn pg2 rfl (wr_n hI hdg (by omega) (by omega) (by omega)) (by omega) ls _ _ hl hw
          · -- pc 59 f
            refine mg_aload_n X 63 d_Am_write_62 (lv_at hl 4 rfl) rfl ?_
            refine mg_iload_n X 64 d_Am_write_63 (lv_at hl 5 rfl) rfl ?_
            refine mg_bipush X 66 48 d_Am_write_64 mg_cb_48 rfl ?_
            refine mg_iload X 68 d_Am_write_66 (lv_at hl 0 rfl) rfl ?_
            refine mg_iadd X 69 (nI (48 + (((d ((i * 6) + (k / 9))) / (10 ^ (k % 9))) % 10))) d_Am_write_68 (nI_add _ _) rfl ?_
            refine mg_i2c X 70 d_Am_write_69 (by omega) rfl ?_
            refine mg_cast X hK hw 71 2 [mg_ob h 0 [.ref (q)], mg_al K q (n * 6) d, mg_ac K qp 54 (va_up pg2 wn (48 + (((d ((i * 6) + (k / 9))) / (10 ^ (k % 9))) % 10)))] rfl (by omega) (by omega) (by omega) d_Am_write_70 rfl rfl (fun H locs hw => ?_)
            refine mg_iinc X 74 [(3, .int (nI (wn + 1))), (7, .int (nI (((d ((i * 6) + (k / 9))) / (10 ^ (k % 9))) % 10))), (5, .long (lN (d ((i * 6) + (k / 9))))), (0, .ref (h)), (1, .int (nI (i))), (2, .ref (qp)), (4, .int (nI (k)))] (wn + 1) d_Am_write_71 hl (k := 5) rfl (mg_inc1 _) (by decide) rfl rfl (fun ls hl => ?_)
            refine mg_iincD X 77 [(4, .int (mg_dn k)), (3, .int (nI (wn + 1))), (7, .int (nI (((d ((i * 6) + (k / 9))) / (10 ^ (k % 9))) % 10))), (5, .long (lN (d ((i * 6) + (k / 9))))), (0, .ref (h)), (1, .int (nI (i))), (2, .ref (qp))] d_Am_write_74 hl (k := 6) rfl (by decide) rfl rfl (fun ls hl => ?_)
            refine mg_goto X 6 d_Am_write_77 (by decide) ?_
            have hl : lv_has ls 8 [(0, .ref (h)), (1, .int (nI (i))), (2, .ref (qp)), (3, .int (nI (wn + 1))), (4, .int (mg_dn k))] := lv_sub hl [4, 5, 6, 1, 0] rfl
            exact ih6 _ (by omega) k (wn + 1) (va_up pg2 wn (48 + (((d ((i * 6) + (k / 9))) / (10 ^ (k % 9))) % 10))) rfl (wr_y hI hdg (by omega)) (by omega) ls _ _ hl hw
  have hl : lv_has ls 8 [(0, .ref (h)), (1, .int (nI (i))), (2, .ref (qp)), (3, .int (nI (0))), (4, .int (nI (53)))] := lv_sub hl [2, 3, 4, 1, 0] rfl
  exact L6 _ (53 + 1) 0 pg rfl (wr_0 hV) (by omega) ls _ _ hl hw
