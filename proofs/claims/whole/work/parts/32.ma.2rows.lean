set_option maxRecDepth 100000 in
set_option maxHeartbeats 4000000 in
theorem k_Ma_gaps (l : Launch) (D : va_G) (K : Nat → ClassId) (hM : Nat) (qw : Nat) (qra : Nat) (qo : Nat) (qt : Nat) (nm : Nat) (sg : Nat) (hn : nm ≤ 4) : mg_Mi l D K y_Ma_gaps b_Ma_gaps 1 (.int) ({ frames := 0, cells := 0, slots := 0, locals := 0 }) [.ref (hM)] [mg_ob hM 2 [.ref (qw), .ref (qra), .ref (qo), .ref (qt), .int (nI (nm)), .int (nI (sg))]] (fun (r : Int32) (_ : Unit) => r = nI (nm - 1)) (fun (_ : Unit) => [mg_ob hM 2 [.ref (qw), .ref (qra), .ref (qo), .ref (qt), .int (nI (nm)), .int (nI (sg))]]) := by
  intro sz
  refine mg_entry (Qc := fun A => va_Qi (fun (r : Int32) (_ : Unit) => r = nI (nm - 1)) (mg_B D A (fun (_ : Unit) => [mg_ob hM 2 [.ref (qw), .ref (qra), .ref (qo), .ref (qt), .int (nI (nm)), .int (nI (sg))]])) A) (by decide) (Nat.le_of_ble_eq_true rfl) ?_
  intro p e s m args below meth c A ls X hr hlk hnm hA hK hw hl
  have hl : lv_has ls 1 [(0, .ref (hM))] := hl
  refine mg_aload_n X 1 d_Ma_gaps_0 (lv_at hl 0 rfl) rfl ?_
  refine mg_get X hK hw 4 0 4 f_Ma_24 rfl rfl d_Ma_gaps_1 rfl ?_
  refine mg_if_le X 16 7 (by omega) d_Ma_gaps_4 (by decide) rfl (fun hz => ?_) (fun hz => ?_)
  · -- pc 4 t
    refine mg_iconst X 17 0 d_Ma_gaps_16 mg_ci_0 rfl ?_
    exact mg_iret X hr hlk (rfl) (()) (by rw [show nm - 1 = 0 by omega]) hw d_Ma_gaps_17
  · -- pc 4 f
    refine mg_aload_n X 8 d_Ma_gaps_7 (lv_at hl 0 rfl) rfl ?_
    refine mg_get X hK hw 11 0 4 f_Ma_24 rfl rfl d_Ma_gaps_8 rfl ?_
    refine mg_iconst X 12 1 d_Ma_gaps_11 mg_ci_1 rfl ?_
    refine mg_isub X 13 (nI (nm - 1)) d_Ma_gaps_12 (pk_sub (by omega)) rfl ?_
    refine mg_goto X 17 d_Ma_gaps_13 (by decide) ?_
    exact mg_iret X hr hlk (rfl) (()) (rfl) hw d_Ma_gaps_17

set_option maxRecDepth 100000 in
set_option maxHeartbeats 4000000 in
theorem k_Ma_hasMarker (l : Launch) (D : va_G) (K : Nat → ClassId) (hM : Nat) (qw : Nat) (qra : Nat) (qo : Nat) (qt : Nat) (nm : Nat) (sg : Nat) (x : Int32) (hn : nm ≤ 4) : mg_Mi l D K y_Ma_hasMarker b_Ma_hasMarker 2 (.boolean) ({ frames := 0, cells := 0, slots := 0, locals := 0 }) [.ref (hM), .int (x)] [mg_ob hM 2 [.ref (qw), .ref (qra), .ref (qo), .ref (qt), .int (nI (nm)), .int (nI (sg))]] (fun (r : Int32) (_ : Unit) => r = nI (ft_c (mg_lt x (nm)))) (fun (_ : Unit) => [mg_ob hM 2 [.ref (qw), .ref (qra), .ref (qo), .ref (qt), .int (nI (nm)), .int (nI (sg))]]) := by
  intro sz
  refine mg_entry (Qc := fun A => va_Qi (fun (r : Int32) (_ : Unit) => r = nI (ft_c (mg_lt x (nm)))) (mg_B D A (fun (_ : Unit) => [mg_ob hM 2 [.ref (qw), .ref (qra), .ref (qo), .ref (qt), .int (nI (nm)), .int (nI (sg))]])) A) (by decide) (Nat.le_of_ble_eq_true rfl) ?_
  intro p e s m args below meth c A ls X hr hlk hnm hA hK hw hl
  have hl : lv_has ls 2 [(0, .ref (hM)), (1, .int (x))] := hl
  refine mg_iload_n X 1 d_Ma_hasMarker_0 (lv_at hl 1 rfl) rfl ?_
  refine mg_iflt_r X 16 4 d_Ma_hasMarker_1 (by decide) rfl (fun hneg => ?_) (fun j hj ej => ?_)
  · -- pc 1 t
    refine mg_iconst X 17 0 d_Ma_hasMarker_16 mg_ci_0 rfl ?_
    exact mg_iret X hr hlk (mg_nz (by omega)) (()) (by rw [ft_c0 (mg_lt_neg hneg (by omega))]) hw d_Ma_hasMarker_17
  · -- pc 1 f
    subst ej
    refine mg_iload_n X 5 d_Ma_hasMarker_4 (lv_at hl 1 rfl) rfl ?_
    refine mg_aload_n X 6 d_Ma_hasMarker_5 (lv_at hl 0 rfl) rfl ?_
    refine mg_get X hK hw 9 0 4 f_Ma_24 rfl rfl d_Ma_hasMarker_6 rfl ?_
    refine mg_icmp_ge X 16 12 (by omega) (by omega) d_Ma_hasMarker_9 (by decide) rfl (fun hc => ?_) (fun hc => ?_)
    · -- pc 9 t
      refine mg_iconst X 17 0 d_Ma_hasMarker_16 mg_ci_0 rfl ?_
      exact mg_iret X hr hlk (mg_nz (by omega)) (()) (by rw [ft_c0 (mg_lt_ge hj hc)]) hw d_Ma_hasMarker_17
    · -- pc 9 f
      refine mg_iconst X 13 1 d_Ma_hasMarker_12 mg_ci_1 rfl ?_
      refine mg_goto X 17 d_Ma_hasMarker_13 (by decide) ?_
      exact mg_iret X hr hlk (mg_nz (by omega)) (()) (by rw [ft_c1 (mg_lt_in hc)]) hw d_Ma_hasMarker_17

set_option maxRecDepth 100000 in
set_option maxHeartbeats 4000000 in
theorem k_Ma_hasGap (l : Launch) (D : va_G) (K : Nat → ClassId) (hM : Nat) (qw : Nat) (qra : Nat) (qo : Nat) (qt : Nat) (nm : Nat) (sg : Nat) (x : Int32) (hn : nm ≤ 4) : mg_Mi l D K y_Ma_hasGap b_Ma_hasGap 2 (.boolean) ({ frames := 1, cells := 0, slots := 0, locals := 20 }) [.ref (hM), .int (x)] [mg_ob hM 2 [.ref (qw), .ref (qra), .ref (qo), .ref (qt), .int (nI (nm)), .int (nI (sg))]] (fun (r : Int32) (_ : Unit) => r = nI (ft_c (mg_lt x (nm - 1)))) (fun (_ : Unit) => [mg_ob hM 2 [.ref (qw), .ref (qra), .ref (qo), .ref (qt), .int (nI (nm)), .int (nI (sg))]]) := by
  intro sz
  refine mg_entry (Qc := fun A => va_Qi (fun (r : Int32) (_ : Unit) => r = nI (ft_c (mg_lt x (nm - 1)))) (mg_B D A (fun (_ : Unit) => [mg_ob hM 2 [.ref (qw), .ref (qra), .ref (qo), .ref (qt), .int (nI (nm)), .int (nI (sg))]])) A) (by decide) (Nat.le_of_ble_eq_true rfl) ?_
  intro p e s m args below meth c A ls X hr hlk hnm hA hK hw hl
  have hl : lv_has ls 2 [(0, .ref (hM)), (1, .int (x))] := hl
  refine mg_iload_n X 1 d_Ma_hasGap_0 (lv_at hl 1 rfl) rfl ?_
  refine mg_iflt_r X 16 4 d_Ma_hasGap_1 (by decide) rfl (fun hneg => ?_) (fun j hj ej => ?_)
  · -- pc 1 t
    refine mg_iconst X 17 0 d_Ma_hasGap_16 mg_ci_0 rfl ?_
    exact mg_iret X hr hlk (mg_nz (by omega)) (()) (by rw [ft_c0 (mg_lt_neg hneg (by omega))]) hw d_Ma_hasGap_17
  · -- pc 1 f
    subst ej
    refine mg_iload_n X 5 d_Ma_hasGap_4 (lv_at hl 1 rfl) rfl ?_
    refine mg_aload_n X 6 d_Ma_hasGap_5 (lv_at hl 0 rfl) rfl ?_
    refine mg_callVi X hK hw hA 9 [0] 0 (fun _ => [mg_ob hM 2 [.ref (qw), .ref (qra), .ref (qo), .ref (qt), .int (nI (nm)), .int (nI (sg))]]) rfl rfl (k_Ma_gaps l D K hM qw qra qo qt nm sg (by omega)) g_Ma_31 ⟨by decide, by decide⟩ ⟨rfl, rfl⟩ rfl rfl rfl hl.1 (rest := [.int (nI (j))]) (As := []) rfl (Nat.le_of_ble_eq_true rfl) d_Ma_hasGap_6 ⟨Nat.zero_le _, Nat.zero_le _⟩ (fun _ => rfl) (fun _ => rfl) rfl ?_
    intro r _ H locs hp2 hw
    subst hp2
    refine mg_icmp_ge X 16 12 (by omega) (by omega) d_Ma_hasGap_9 (by decide) rfl (fun hc => ?_) (fun hc => ?_)
    · -- pc 9 t
      refine mg_iconst X 17 0 d_Ma_hasGap_16 mg_ci_0 rfl ?_
      exact mg_iret X hr hlk (mg_nz (by omega)) (()) (by rw [ft_c0 (mg_lt_ge hj hc)]) hw d_Ma_hasGap_17
    · -- pc 9 f
      refine mg_iconst X 13 1 d_Ma_hasGap_12 mg_ci_1 rfl ?_
      refine mg_goto X 17 d_Ma_hasGap_13 (by decide) ?_
      exact mg_iret X hr hlk (mg_nz (by omega)) (()) (by rw [ft_c1 (mg_lt_in hc)]) hw d_Ma_hasGap_17

set_option maxRecDepth 100000 in
set_option maxHeartbeats 4000000 in
theorem k_Ma_add (l : Launch) (D : va_G) (K : Nat → ClassId) (hM : Nat) (qw : Nat) (qra : Nat) (qo : Nat) (qt : Nat) (nm : Nat) (sg : Nat) (wt : Nat → Nat) (rt : Nat → Nat) (a1 : Nat) (a2 : Nat) (a3 : Nat) (hn : nm < 4) : mg_Mi l D K y_Ma_add b_Ma_add 5 (.int) ({ frames := 0, cells := 0, slots := 0, locals := 0 }) [.ref (hM), .int (nI (a1)), .int (nI (a2)), .int (nI (a3))] [mg_ob hM 2 [.ref (qw), .ref (qra), .ref (qo), .ref (qt), .int (nI (nm)), .int (nI (sg))], mg_ai K qw 12 wt, mg_ai K qra 3 rt] (fun (r : Int32) (u : (Nat → Nat)) => r = nI nm ∧ u = ma_rt nm rt) (fun (u : (Nat → Nat)) => [mg_ob hM 2 [.ref (qw), .ref (qra), .ref (qo), .ref (qt), .int (nI (nm + 1)), .int (nI (sg))], mg_ai K qw 12 (va_up (va_up (va_up wt (nm * 3) a1) (nm * 3 + 1) a2) (nm * 3 + 2) a3), mg_ai K qra 3 u]) := by
  intro sz
  refine mg_entry (Qc := fun A => va_Qi (fun (r : Int32) (u : (Nat → Nat)) => r = nI nm ∧ u = ma_rt nm rt) (mg_B D A (fun (u : (Nat → Nat)) => [mg_ob hM 2 [.ref (qw), .ref (qra), .ref (qo), .ref (qt), .int (nI (nm + 1)), .int (nI (sg))], mg_ai K qw 12 (va_up (va_up (va_up wt (nm * 3) a1) (nm * 3 + 1) a2) (nm * 3 + 2) a3), mg_ai K qra 3 u])) A) (by decide) (Nat.le_of_ble_eq_true rfl) ?_
  intro p e s m args below meth c A ls X hr hlk hnm hA hK hw hl
  have hl : lv_has ls 5 [(0, .ref (hM)), (1, .int (nI (a1))), (2, .int (nI (a2))), (3, .int (nI (a3)))] := hl
  refine mg_aload_n X 1 d_Ma_add_0 (lv_at hl 0 rfl) rfl ?_
  refine mg_get X hK hw 4 0 4 f_Ma_24 rfl rfl d_Ma_add_1 rfl ?_
  refine mg_istore X 6 [(4, .int (nI (nm))), (0, .ref (hM)), (1, .int (nI (a1))), (2, .int (nI (a2))), (3, .int (nI (a3)))] d_Ma_add_4 hl (by decide) rfl rfl (fun ls hl => ?_)
  refine mg_aload_n X 7 d_Ma_add_6 (lv_at hl 1 rfl) rfl ?_
  refine mg_get X hK hw 10 0 0 f_Ma_9 rfl rfl d_Ma_add_7 rfl ?_
  refine mg_iload X 12 d_Ma_add_10 (lv_at hl 0 rfl) rfl ?_
  refine mg_iconst X 13 3 d_Ma_add_12 mg_ci_3 rfl ?_
  refine mg_imul X 14 (nI (nm * 3)) d_Ma_add_13 (pk_mul _ _) rfl ?_
  refine mg_iload_n X 15 d_Ma_add_14 (lv_at hl 2 rfl) rfl ?_
  refine mg_iast X hK hw 16 1 [mg_ob hM 2 [.ref (qw), .ref (qra), .ref (qo), .ref (qt), .int (nI (nm)), .int (nI (sg))], mg_ai K qw 12 (va_up wt (nm * 3) a1), mg_ai K qra 3 rt] rfl (by omega) (by omega) d_Ma_add_15 rfl rfl (fun H locs hw => ?_)
  refine mg_aload_n X 17 d_Ma_add_16 (lv_at hl 1 rfl) rfl ?_
  refine mg_get X hK hw 20 0 0 f_Ma_9 rfl rfl d_Ma_add_17 rfl ?_
  refine mg_iload X 22 d_Ma_add_20 (lv_at hl 0 rfl) rfl ?_
  refine mg_iconst X 23 3 d_Ma_add_22 mg_ci_3 rfl ?_
  refine mg_imul X 24 (nI (nm * 3)) d_Ma_add_23 (pk_mul _ _) rfl ?_
  refine mg_iconst X 25 1 d_Ma_add_24 mg_ci_1 rfl ?_
  refine mg_iadd X 26 (nI ((nm * 3) + 1)) d_Ma_add_25 (nI_add _ _) rfl ?_
  refine mg_iload_n X 27 d_Ma_add_26 (lv_at hl 3 rfl) rfl ?_
  refine mg_iast X hK hw 28 1 [mg_ob hM 2 [.ref (qw), .ref (qra), .ref (qo), .ref (qt), .int (nI (nm)), .int (nI (sg))], mg_ai K qw 12 (va_up (va_up wt (nm * 3) a1) ((nm * 3) + 1) a2), mg_ai K qra 3 rt] rfl (by omega) (by omega) d_Ma_add_27 rfl rfl (fun H locs hw => ?_)
  refine mg_aload_n X 29 d_Ma_add_28 (lv_at hl 1 rfl) rfl ?_
  refine mg_get X hK hw 32 0 0 f_Ma_9 rfl rfl d_Ma_add_29 rfl ?_
  refine mg_iload X 34 d_Ma_add_32 (lv_at hl 0 rfl) rfl ?_
  refine mg_iconst X 35 3 d_Ma_add_34 mg_ci_3 rfl ?_
  refine mg_imul X 36 (nI (nm * 3)) d_Ma_add_35 (pk_mul _ _) rfl ?_
  refine mg_iconst X 37 2 d_Ma_add_36 mg_ci_2 rfl ?_
  refine mg_iadd X 38 (nI ((nm * 3) + 2)) d_Ma_add_37 (nI_add _ _) rfl ?_
  refine mg_iload_n X 39 d_Ma_add_38 (lv_at hl 4 rfl) rfl ?_
  refine mg_iast X hK hw 40 1 [mg_ob hM 2 [.ref (qw), .ref (qra), .ref (qo), .ref (qt), .int (nI (nm)), .int (nI (sg))], mg_ai K qw 12 (va_up (va_up (va_up wt (nm * 3) a1) ((nm * 3) + 1) a2) ((nm * 3) + 2) a3), mg_ai K qra 3 rt] rfl (by omega) (by omega) d_Ma_add_39 rfl rfl (fun H locs hw => ?_)
  refine mg_iload X 42 d_Ma_add_40 (lv_at hl 0 rfl) rfl ?_
  refine mg_if_le X 56 45 (by omega) d_Ma_add_42 (by decide) rfl (fun hz => ?_) (fun hz => ?_)
  · -- pc 42 t
    refine mg_aload_n X 57 d_Ma_add_56 (lv_at hl 1 rfl) rfl ?_
    refine mg_dup X 58 d_Ma_add_57 rfl rfl ?_
    refine mg_get X hK hw 61 0 4 f_Ma_24 rfl rfl d_Ma_add_58 rfl ?_
    refine mg_iconst X 62 1 d_Ma_add_61 mg_ci_1 rfl ?_
    refine mg_iadd X 63 (nI (nm + 1)) d_Ma_add_62 (nI_add _ _) rfl ?_
    refine mg_put X hK hw 66 0 4 [mg_ob hM 2 [.ref (qw), .ref (qra), .ref (qo), .ref (qt), .int (nI (nm + 1)), .int (nI (sg))], mg_ai K qw 12 (va_up (va_up (va_up wt (nm * 3) a1) ((nm * 3) + 1) a2) ((nm * 3) + 2) a3), mg_ai K qra 3 rt] fp_Ma_24 rfl (Nat.le_of_ble_eq_true rfl) rfl rfl d_Ma_add_63 rfl rfl (fun H locs hw => ?_)
    refine mg_iload X 68 d_Ma_add_66 (lv_at hl 0 rfl) rfl ?_
    exact mg_iret X hr hlk (rfl) (rt) (⟨rfl, by unfold ma_rt; rw [if_neg (by omega)]⟩) hw d_Ma_add_68
  · -- pc 42 f
    refine mg_aload_n X 46 d_Ma_add_45 (lv_at hl 1 rfl) rfl ?_
    refine mg_get X hK hw 49 0 1 f_Ma_15 rfl rfl d_Ma_add_46 rfl ?_
    refine mg_iload X 51 d_Ma_add_49 (lv_at hl 0 rfl) rfl ?_
    refine mg_iconst X 52 1 d_Ma_add_51 mg_ci_1 rfl ?_
    refine mg_isub X 53 (nI (nm - 1)) d_Ma_add_52 (pk_sub (by omega)) rfl ?_
    refine mg_bipush X 55 8 d_Ma_add_53 mg_cb_8 rfl ?_
    refine mg_iast X hK hw 56 2 [mg_ob hM 2 [.ref (qw), .ref (qra), .ref (qo), .ref (qt), .int (nI (nm)), .int (nI (sg))], mg_ai K qw 12 (va_up (va_up (va_up wt (nm * 3) a1) ((nm * 3) + 1) a2) ((nm * 3) + 2) a3), mg_ai K qra 3 (va_up rt (nm - 1) 8)] rfl (by omega) (by omega) d_Ma_add_55 rfl rfl (fun H locs hw => ?_)
    refine mg_aload_n X 57 d_Ma_add_56 (lv_at hl 1 rfl) rfl ?_
    refine mg_dup X 58 d_Ma_add_57 rfl rfl ?_
    refine mg_get X hK hw 61 0 4 f_Ma_24 rfl rfl d_Ma_add_58 rfl ?_
    refine mg_iconst X 62 1 d_Ma_add_61 mg_ci_1 rfl ?_
    refine mg_iadd X 63 (nI (nm + 1)) d_Ma_add_62 (nI_add _ _) rfl ?_
    refine mg_put X hK hw 66 0 4 [mg_ob hM 2 [.ref (qw), .ref (qra), .ref (qo), .ref (qt), .int (nI (nm + 1)), .int (nI (sg))], mg_ai K qw 12 (va_up (va_up (va_up wt (nm * 3) a1) ((nm * 3) + 1) a2) ((nm * 3) + 2) a3), mg_ai K qra 3 (va_up rt (nm - 1) 8)] fp_Ma_24 rfl (Nat.le_of_ble_eq_true rfl) rfl rfl d_Ma_add_63 rfl rfl (fun H locs hw => ?_)
    refine mg_iload X 68 d_Ma_add_66 (lv_at hl 0 rfl) rfl ?_
    exact mg_iret X hr hlk (rfl) (va_up rt (nm - 1) 8) (⟨rfl, by unfold ma_rt; rw [if_pos hz]⟩) hw d_Ma_add_68

set_option maxRecDepth 100000 in
set_option maxHeartbeats 4000000 in
theorem k_Ma_weightOf (l : Launch) (D : va_G) (K : Nat → ClassId) (hM : Nat) (qw : Nat) (qra : Nat) (qo : Nat) (qt : Nat) (nm : Nat) (sg : Nat) (wt : Nat → Nat) (mk : Nat) (le : Nat) (hm : mk < 4) (hle : le ≤ 3) : mg_Mi l D K y_Ma_weightOf b_Ma_weightOf 3 (.int) ({ frames := 0, cells := 0, slots := 0, locals := 0 }) [.ref (hM), .int (nI (mk)), .int (nI (le))] [mg_ob hM 2 [.ref (qw), .ref (qra), .ref (qo), .ref (qt), .int (nI (nm)), .int (nI (sg))], mg_ai K qw 12 wt] (fun (r : Int32) (_ : Unit) => r = nI (if le = 0 then 8 else ma_wt wt mk le)) (fun (_ : Unit) => [mg_ob hM 2 [.ref (qw), .ref (qra), .ref (qo), .ref (qt), .int (nI (nm)), .int (nI (sg))], mg_ai K qw 12 wt]) := by
  intro sz
  refine mg_entry (Qc := fun A => va_Qi (fun (r : Int32) (_ : Unit) => r = nI (if le = 0 then 8 else ma_wt wt mk le)) (mg_B D A (fun (_ : Unit) => [mg_ob hM 2 [.ref (qw), .ref (qra), .ref (qo), .ref (qt), .int (nI (nm)), .int (nI (sg))], mg_ai K qw 12 wt])) A) (by decide) (Nat.le_of_ble_eq_true rfl) ?_
  intro p e s m args below meth c A ls X hr hlk hnm hA hK hw hl
  have hl : lv_has ls 3 [(0, .ref (hM)), (1, .int (nI (mk))), (2, .int (nI (le)))] := hl
  refine mg_iload_n X 1 d_Ma_weightOf_0 (lv_at hl 2 rfl) rfl ?_
  refine mg_if_ne X 9 4 (by omega) d_Ma_weightOf_1 (by decide) rfl (fun hz => ?_) (fun hz => ?_)
  · -- pc 1 t
    refine mg_aload_n X 10 d_Ma_weightOf_9 (lv_at hl 0 rfl) rfl ?_
    refine mg_get X hK hw 13 0 0 f_Ma_9 rfl rfl d_Ma_weightOf_10 rfl ?_
    refine mg_iload_n X 14 d_Ma_weightOf_13 (lv_at hl 1 rfl) rfl ?_
    refine mg_iconst X 15 3 d_Ma_weightOf_14 mg_ci_3 rfl ?_
    refine mg_imul X 16 (nI (mk * 3)) d_Ma_weightOf_15 (pk_mul _ _) rfl ?_
    refine mg_iload_n X 17 d_Ma_weightOf_16 (lv_at hl 2 rfl) rfl ?_
    refine mg_iadd X 18 (nI ((mk * 3) + le)) d_Ma_weightOf_17 (nI_add _ _) rfl ?_
    refine mg_iconst X 19 1 d_Ma_weightOf_18 mg_ci_1 rfl ?_
    refine mg_isub X 20 (nI (((mk * 3) + le) - 1)) d_Ma_weightOf_19 (pk_sub (by omega)) rfl ?_
    refine mg_iald X hK hw 21 1 rfl (by omega) (by omega) d_Ma_weightOf_20 rfl ?_
    exact mg_iret X hr hlk (rfl) (()) (by rw [if_neg hz]; rfl) hw d_Ma_weightOf_21
  · -- pc 1 f
    refine mg_bipush X 6 8 d_Ma_weightOf_4 mg_cb_8 rfl ?_
    refine mg_goto X 21 d_Ma_weightOf_6 (by decide) ?_
    exact mg_iret X hr hlk (rfl) (()) (by rw [if_pos hz]) hw d_Ma_weightOf_21

set_option maxRecDepth 100000 in
set_option maxHeartbeats 4000000 in
theorem k_Ma_isSeen (l : Launch) (D : va_G) (K : Nat → ClassId) (hM : Nat) (qw : Nat) (qra : Nat) (qo : Nat) (qt : Nat) (nm : Nat) (sg : Nat) (ol : Nat → Nat) (pe : Nat) (mk : Nat) (hm : mk < 4) (hpe : pe < 6) (hol : ∀ k, k < 24 → ol k ≤ 3) : mg_Mi l D K y_Ma_isSeen b_Ma_isSeen 3 (.boolean) ({ frames := 0, cells := 0, slots := 0, locals := 0 }) [.ref (hM), .int (nI (pe)), .int (nI (mk))] [mg_ob hM 2 [.ref (qw), .ref (qra), .ref (qo), .ref (qt), .int (nI (nm)), .int (nI (sg))], mg_ai K qo 24 ol] (fun (r : Int32) (_ : Unit) => r = nI (ft_c (ol (mk * 6 + pe) ≠ 0))) (fun (_ : Unit) => [mg_ob hM 2 [.ref (qw), .ref (qra), .ref (qo), .ref (qt), .int (nI (nm)), .int (nI (sg))], mg_ai K qo 24 ol]) := by
  intro sz
  refine mg_entry (Qc := fun A => va_Qi (fun (r : Int32) (_ : Unit) => r = nI (ft_c (ol (mk * 6 + pe) ≠ 0))) (mg_B D A (fun (_ : Unit) => [mg_ob hM 2 [.ref (qw), .ref (qra), .ref (qo), .ref (qt), .int (nI (nm)), .int (nI (sg))], mg_ai K qo 24 ol])) A) (by decide) (Nat.le_of_ble_eq_true rfl) ?_
  intro p e s m args below meth c A ls X hr hlk hnm hA hK hw hl
  have hl : lv_has ls 3 [(0, .ref (hM)), (1, .int (nI (pe))), (2, .int (nI (mk)))] := hl
  refine mg_aload_n X 1 d_Ma_isSeen_0 (lv_at hl 0 rfl) rfl ?_
  refine mg_get X hK hw 4 0 2 f_Ma_18 rfl rfl d_Ma_isSeen_1 rfl ?_
  refine mg_iload_n X 5 d_Ma_isSeen_4 (lv_at hl 2 rfl) rfl ?_
  refine mg_bipush X 7 6 d_Ma_isSeen_5 mg_cb_6 rfl ?_
  refine mg_imul X 8 (nI (mk * 6)) d_Ma_isSeen_7 (pk_mul _ _) rfl ?_
  refine mg_iload_n X 9 d_Ma_isSeen_8 (lv_at hl 1 rfl) rfl ?_
  refine mg_iadd X 10 (nI ((mk * 6) + pe)) d_Ma_isSeen_9 (nI_add _ _) rfl ?_
  refine mg_iald X hK hw 11 1 rfl (by omega) (by omega) d_Ma_isSeen_10 rfl ?_
  refine mg_if_eq X 18 14 (by have := hol (mk * 6 + pe) (by omega); omega) d_Ma_isSeen_11 (by decide) rfl (fun hz => ?_) (fun hz => ?_)
  · -- pc 11 t
    refine mg_iconst X 19 0 d_Ma_isSeen_18 mg_ci_0 rfl ?_
    exact mg_iret X hr hlk (mg_nz (by omega)) (()) (by rw [ft_c0 (fun q => q hz)]) hw d_Ma_isSeen_19
  · -- pc 11 f
    refine mg_iconst X 15 1 d_Ma_isSeen_14 mg_ci_1 rfl ?_
    refine mg_goto X 19 d_Ma_isSeen_15 (by decide) ?_
    exact mg_iret X hr hlk (mg_nz (by omega)) (()) (by rw [ft_c1 hz]) hw d_Ma_isSeen_19

set_option maxRecDepth 100000 in
set_option maxHeartbeats 4000000 in
theorem k_Ma_oneLetter (l : Launch) (D : va_G) (K : Nat → ClassId) (hM : Nat) (qw : Nat) (qra : Nat) (qo : Nat) (qt : Nat) (nm : Nat) (sg : Nat) (ol : Nat → Nat) (pe : Nat) (mk : Nat) (hm : mk < 4) (hpe : pe < 6) : mg_Mi l D K y_Ma_oneLetter b_Ma_oneLetter 3 (.int) ({ frames := 0, cells := 0, slots := 0, locals := 0 }) [.ref (hM), .int (nI (pe)), .int (nI (mk))] [mg_ob hM 2 [.ref (qw), .ref (qra), .ref (qo), .ref (qt), .int (nI (nm)), .int (nI (sg))], mg_ai K qo 24 ol] (fun (r : Int32) (_ : Unit) => r = nI (ol (mk * 6 + pe))) (fun (_ : Unit) => [mg_ob hM 2 [.ref (qw), .ref (qra), .ref (qo), .ref (qt), .int (nI (nm)), .int (nI (sg))], mg_ai K qo 24 ol]) := by
  intro sz
  refine mg_entry (Qc := fun A => va_Qi (fun (r : Int32) (_ : Unit) => r = nI (ol (mk * 6 + pe))) (mg_B D A (fun (_ : Unit) => [mg_ob hM 2 [.ref (qw), .ref (qra), .ref (qo), .ref (qt), .int (nI (nm)), .int (nI (sg))], mg_ai K qo 24 ol])) A) (by decide) (Nat.le_of_ble_eq_true rfl) ?_
  intro p e s m args below meth c A ls X hr hlk hnm hA hK hw hl
  have hl : lv_has ls 3 [(0, .ref (hM)), (1, .int (nI (pe))), (2, .int (nI (mk)))] := hl
  refine mg_aload_n X 1 d_Ma_oneLetter_0 (lv_at hl 0 rfl) rfl ?_
  refine mg_get X hK hw 4 0 2 f_Ma_18 rfl rfl d_Ma_oneLetter_1 rfl ?_
  refine mg_iload_n X 5 d_Ma_oneLetter_4 (lv_at hl 2 rfl) rfl ?_
  refine mg_bipush X 7 6 d_Ma_oneLetter_5 mg_cb_6 rfl ?_
  refine mg_imul X 8 (nI (mk * 6)) d_Ma_oneLetter_7 (pk_mul _ _) rfl ?_
  refine mg_iload_n X 9 d_Ma_oneLetter_8 (lv_at hl 1 rfl) rfl ?_
  refine mg_iadd X 10 (nI ((mk * 6) + pe)) d_Ma_oneLetter_9 (nI_add _ _) rfl ?_
  refine mg_iald X hK hw 11 1 rfl (by omega) (by omega) d_Ma_oneLetter_10 rfl ?_
  exact mg_iret X hr hlk (rfl) (()) (rfl) hw d_Ma_oneLetter_11

set_option maxRecDepth 100000 in
set_option maxHeartbeats 4000000 in
theorem k_Ma_otherLetter (l : Launch) (D : va_G) (K : Nat → ClassId) (hM : Nat) (qw : Nat) (qra : Nat) (qo : Nat) (qt : Nat) (nm : Nat) (sg : Nat) (tl : Nat → Nat) (pe : Nat) (mk : Nat) (hm : mk < 4) (hpe : pe < 6) : mg_Mi l D K y_Ma_otherLetter b_Ma_otherLetter 3 (.int) ({ frames := 0, cells := 0, slots := 0, locals := 0 }) [.ref (hM), .int (nI (pe)), .int (nI (mk))] [mg_ob hM 2 [.ref (qw), .ref (qra), .ref (qo), .ref (qt), .int (nI (nm)), .int (nI (sg))], mg_ai K qt 24 tl] (fun (r : Int32) (_ : Unit) => r = nI (tl (mk * 6 + pe))) (fun (_ : Unit) => [mg_ob hM 2 [.ref (qw), .ref (qra), .ref (qo), .ref (qt), .int (nI (nm)), .int (nI (sg))], mg_ai K qt 24 tl]) := by
  intro sz
  refine mg_entry (Qc := fun A => va_Qi (fun (r : Int32) (_ : Unit) => r = nI (tl (mk * 6 + pe))) (mg_B D A (fun (_ : Unit) => [mg_ob hM 2 [.ref (qw), .ref (qra), .ref (qo), .ref (qt), .int (nI (nm)), .int (nI (sg))], mg_ai K qt 24 tl])) A) (by decide) (Nat.le_of_ble_eq_true rfl) ?_
  intro p e s m args below meth c A ls X hr hlk hnm hA hK hw hl
  have hl : lv_has ls 3 [(0, .ref (hM)), (1, .int (nI (pe))), (2, .int (nI (mk)))] := hl
  refine mg_aload_n X 1 d_Ma_otherLetter_0 (lv_at hl 0 rfl) rfl ?_
  refine mg_get X hK hw 4 0 3 f_Ma_21 rfl rfl d_Ma_otherLetter_1 rfl ?_
  refine mg_iload_n X 5 d_Ma_otherLetter_4 (lv_at hl 2 rfl) rfl ?_
  refine mg_bipush X 7 6 d_Ma_otherLetter_5 mg_cb_6 rfl ?_
  refine mg_imul X 8 (nI (mk * 6)) d_Ma_otherLetter_7 (pk_mul _ _) rfl ?_
  refine mg_iload_n X 9 d_Ma_otherLetter_8 (lv_at hl 1 rfl) rfl ?_
  refine mg_iadd X 10 (nI ((mk * 6) + pe)) d_Ma_otherLetter_9 (nI_add _ _) rfl ?_
  refine mg_iald X hK hw 11 1 rfl (by omega) (by omega) d_Ma_otherLetter_10 rfl ?_
  exact mg_iret X hr hlk (rfl) (()) (rfl) hw d_Ma_otherLetter_11

set_option maxRecDepth 100000 in
set_option maxHeartbeats 4000000 in
theorem k_Ma_putSighting (l : Launch) (D : va_G) (K : Nat → ClassId) (hM : Nat) (qw : Nat) (qra : Nat) (qo : Nat) (qt : Nat) (nm : Nat) (sg : Nat) (ol : Nat → Nat) (tl : Nat → Nat) (pe : Nat) (mk : Nat) (a1 : Nat) (a2 : Nat) (hm : mk < 4) (hpe : pe < 6) (hol : ∀ k, k < 24 → ol k ≤ 3) (hg : sg ≤ 24) (hg1 : ol (mk * 6 + pe) ≠ 0 → 1 ≤ sg) : mg_Mv l D K y_Ma_putSighting b_Ma_putSighting 5 ({ frames := 1, cells := 0, slots := 0, locals := 22 }) [.ref (hM), .int (nI (pe)), .int (nI (mk)), .int (nI (a1)), .int (nI (a2))] [mg_ob hM 2 [.ref (qw), .ref (qra), .ref (qo), .ref (qt), .int (nI (nm)), .int (nI (sg))], mg_ai K qo 24 ol, mg_ai K qt 24 tl] (fun (g2 : (Nat)) => g2 = (if ol (mk * 6 + pe) = 0 then sg + 1 else sg)) (fun (g2 : (Nat)) => [mg_ob hM 2 [.ref (qw), .ref (qra), .ref (qo), .ref (qt), .int (nI (nm)), .int (nI (g2))], mg_ai K qo 24 (va_up ol (mk * 6 + pe) a1), mg_ai K qt 24 (va_up tl (mk * 6 + pe) a2)]) := by
  intro sz
  refine mg_entry (Qc := fun A => va_Qv (fun (g2 : (Nat)) => g2 = (if ol (mk * 6 + pe) = 0 then sg + 1 else sg)) (mg_B D A (fun (g2 : (Nat)) => [mg_ob hM 2 [.ref (qw), .ref (qra), .ref (qo), .ref (qt), .int (nI (nm)), .int (nI (g2))], mg_ai K qo 24 (va_up ol (mk * 6 + pe) a1), mg_ai K qt 24 (va_up tl (mk * 6 + pe) a2)])) A) (by decide) (Nat.le_of_ble_eq_true rfl) ?_
  intro p e s m args below meth c A ls X hr hlk hnm hA hK hw hl
  have hl : lv_has ls 5 [(0, .ref (hM)), (1, .int (nI (pe))), (2, .int (nI (mk))), (3, .int (nI (a1))), (4, .int (nI (a2)))] := hl
  refine mg_aload_n X 1 d_Ma_putSighting_0 (lv_at hl 0 rfl) rfl ?_
  refine mg_iload_n X 2 d_Ma_putSighting_1 (lv_at hl 1 rfl) rfl ?_
  refine mg_iload_n X 3 d_Ma_putSighting_2 (lv_at hl 2 rfl) rfl ?_
  refine mg_callVi X hK hw hA 6 [0, 1] 0 (fun _ => [mg_ob hM 2 [.ref (qw), .ref (qra), .ref (qo), .ref (qt), .int (nI (nm)), .int (nI (sg))], mg_ai K qo 24 ol, mg_ai K qt 24 tl]) rfl rfl (k_Ma_isSeen l D K hM qw qra qo qt nm sg ol pe mk (by omega) (by omega) (hol)) g_Ma_35 ⟨by decide, by decide⟩ ⟨rfl, rfl⟩ rfl rfl rfl hl.1 (rest := []) (As := [.int (nI (pe)), .int (nI (mk))]) rfl (Nat.le_of_ble_eq_true rfl) d_Ma_putSighting_3 ⟨Nat.zero_le _, Nat.zero_le _⟩ (fun _ => rfl) (fun _ => rfl) rfl ?_
  intro r _ H locs hp2 hw
  subst hp2
  refine mg_bif_ne X 19 9 d_Ma_putSighting_6 (by decide) rfl (fun hz => ?_) (fun hz => ?_)
  · -- pc 6 t
    refine mg_aload_n X 20 d_Ma_putSighting_19 (lv_at hl 0 rfl) rfl ?_
    refine mg_get X hK hw 23 0 2 f_Ma_18 rfl rfl d_Ma_putSighting_20 rfl ?_
    refine mg_iload_n X 24 d_Ma_putSighting_23 (lv_at hl 2 rfl) rfl ?_
    refine mg_bipush X 26 6 d_Ma_putSighting_24 mg_cb_6 rfl ?_
    refine mg_imul X 27 (nI (mk * 6)) d_Ma_putSighting_26 (pk_mul _ _) rfl ?_
    refine mg_iload_n X 28 d_Ma_putSighting_27 (lv_at hl 1 rfl) rfl ?_
    refine mg_iadd X 29 (nI ((mk * 6) + pe)) d_Ma_putSighting_28 (nI_add _ _) rfl ?_
    refine mg_iload_n X 30 d_Ma_putSighting_29 (lv_at hl 3 rfl) rfl ?_
    refine mg_iast X hK hw 31 1 [mg_ob hM 2 [.ref (qw), .ref (qra), .ref (qo), .ref (qt), .int (nI (nm)), .int (nI (sg))], mg_ai K qo 24 (va_up ol ((mk * 6) + pe) a1), mg_ai K qt 24 tl] rfl (by omega) (by omega) d_Ma_putSighting_30 rfl rfl (fun H locs hw => ?_)
    refine mg_aload_n X 32 d_Ma_putSighting_31 (lv_at hl 0 rfl) rfl ?_
    refine mg_get X hK hw 35 0 3 f_Ma_21 rfl rfl d_Ma_putSighting_32 rfl ?_
    refine mg_iload_n X 36 d_Ma_putSighting_35 (lv_at hl 2 rfl) rfl ?_
    refine mg_bipush X 38 6 d_Ma_putSighting_36 mg_cb_6 rfl ?_
    refine mg_imul X 39 (nI (mk * 6)) d_Ma_putSighting_38 (pk_mul _ _) rfl ?_
    refine mg_iload_n X 40 d_Ma_putSighting_39 (lv_at hl 1 rfl) rfl ?_
    refine mg_iadd X 41 (nI ((mk * 6) + pe)) d_Ma_putSighting_40 (nI_add _ _) rfl ?_
    refine mg_iload X 43 d_Ma_putSighting_41 (lv_at hl 4 rfl) rfl ?_
    refine mg_iast X hK hw 44 2 [mg_ob hM 2 [.ref (qw), .ref (qra), .ref (qo), .ref (qt), .int (nI (nm)), .int (nI (sg))], mg_ai K qo 24 (va_up ol ((mk * 6) + pe) a1), mg_ai K qt 24 (va_up tl ((mk * 6) + pe) a2)] rfl (by omega) (by omega) d_Ma_putSighting_43 rfl rfl (fun H locs hw => ?_)
    exact mg_vret X hr hlk (sg) (by rw [if_neg hz]) hw d_Ma_putSighting_44
  · -- pc 6 f
    refine mg_aload_n X 10 d_Ma_putSighting_9 (lv_at hl 0 rfl) rfl ?_
    refine mg_dup X 11 d_Ma_putSighting_10 rfl rfl ?_
    refine mg_get X hK hw 14 0 5 f_Ma_28 rfl rfl d_Ma_putSighting_11 rfl ?_
    refine mg_iconst X 15 1 d_Ma_putSighting_14 mg_ci_1 rfl ?_
    refine mg_iadd X 16 (nI (sg + 1)) d_Ma_putSighting_15 (nI_add _ _) rfl ?_
    refine mg_put X hK hw 19 0 5 [mg_ob hM 2 [.ref (qw), .ref (qra), .ref (qo), .ref (qt), .int (nI (nm)), .int (nI (sg + 1))], mg_ai K qo 24 ol, mg_ai K qt 24 tl] fp_Ma_28 rfl (Nat.le_of_ble_eq_true rfl) rfl rfl d_Ma_putSighting_16 rfl rfl (fun H locs hw => ?_)
    refine mg_aload_n X 20 d_Ma_putSighting_19 (lv_at hl 0 rfl) rfl ?_
    refine mg_get X hK hw 23 0 2 f_Ma_18 rfl rfl d_Ma_putSighting_20 rfl ?_
    refine mg_iload_n X 24 d_Ma_putSighting_23 (lv_at hl 2 rfl) rfl ?_
    refine mg_bipush X 26 6 d_Ma_putSighting_24 mg_cb_6 rfl ?_
    refine mg_imul X 27 (nI (mk * 6)) d_Ma_putSighting_26 (pk_mul _ _) rfl ?_
    refine mg_iload_n X 28 d_Ma_putSighting_27 (lv_at hl 1 rfl) rfl ?_
    refine mg_iadd X 29 (nI ((mk * 6) + pe)) d_Ma_putSighting_28 (nI_add _ _) rfl ?_
    refine mg_iload_n X 30 d_Ma_putSighting_29 (lv_at hl 3 rfl) rfl ?_
    refine mg_iast X hK hw 31 1 [mg_ob hM 2 [.ref (qw), .ref (qra), .ref (qo), .ref (qt), .int (nI (nm)), .int (nI (sg + 1))], mg_ai K qo 24 (va_up ol ((mk * 6) + pe) a1), mg_ai K qt 24 tl] rfl (by omega) (by omega) d_Ma_putSighting_30 rfl rfl (fun H locs hw => ?_)
    refine mg_aload_n X 32 d_Ma_putSighting_31 (lv_at hl 0 rfl) rfl ?_
    refine mg_get X hK hw 35 0 3 f_Ma_21 rfl rfl d_Ma_putSighting_32 rfl ?_
    refine mg_iload_n X 36 d_Ma_putSighting_35 (lv_at hl 2 rfl) rfl ?_
    refine mg_bipush X 38 6 d_Ma_putSighting_36 mg_cb_6 rfl ?_
    refine mg_imul X 39 (nI (mk * 6)) d_Ma_putSighting_38 (pk_mul _ _) rfl ?_
    refine mg_iload_n X 40 d_Ma_putSighting_39 (lv_at hl 1 rfl) rfl ?_
    refine mg_iadd X 41 (nI ((mk * 6) + pe)) d_Ma_putSighting_40 (nI_add _ _) rfl ?_
    refine mg_iload X 43 d_Ma_putSighting_41 (lv_at hl 4 rfl) rfl ?_
    refine mg_iast X hK hw 44 2 [mg_ob hM 2 [.ref (qw), .ref (qra), .ref (qo), .ref (qt), .int (nI (nm)), .int (nI (sg + 1))], mg_ai K qo 24 (va_up ol ((mk * 6) + pe) a1), mg_ai K qt 24 (va_up tl ((mk * 6) + pe) a2)] rfl (by omega) (by omega) d_Ma_putSighting_43 rfl rfl (fun H locs hw => ?_)
    exact mg_vret X hr hlk (sg + 1) (by rw [if_pos (Classical.not_not.mp hz)]) hw d_Ma_putSighting_44

set_option maxRecDepth 100000 in
set_option maxHeartbeats 4000000 in
theorem k_Ma_dropSighting (l : Launch) (D : va_G) (K : Nat → ClassId) (hM : Nat) (qw : Nat) (qra : Nat) (qo : Nat) (qt : Nat) (nm : Nat) (sg : Nat) (ol : Nat → Nat) (tl : Nat → Nat) (pe : Nat) (mk : Nat) (hm : mk < 4) (hpe : pe < 6) (hol : ∀ k, k < 24 → ol k ≤ 3) (hg : sg ≤ 24) (hg1 : ol (mk * 6 + pe) ≠ 0 → 1 ≤ sg) : mg_Mv l D K y_Ma_dropSighting b_Ma_dropSighting 3 ({ frames := 1, cells := 0, slots := 0, locals := 22 }) [.ref (hM), .int (nI (pe)), .int (nI (mk))] [mg_ob hM 2 [.ref (qw), .ref (qra), .ref (qo), .ref (qt), .int (nI (nm)), .int (nI (sg))], mg_ai K qo 24 ol, mg_ai K qt 24 tl] (fun (g2 : (Nat)) => g2 = (if ol (mk * 6 + pe) = 0 then sg else sg - 1)) (fun (g2 : (Nat)) => [mg_ob hM 2 [.ref (qw), .ref (qra), .ref (qo), .ref (qt), .int (nI (nm)), .int (nI (g2))], mg_ai K qo 24 (va_up ol (mk * 6 + pe) 0), mg_ai K qt 24 (va_up tl (mk * 6 + pe) 0)]) := by
  intro sz
  refine mg_entry (Qc := fun A => va_Qv (fun (g2 : (Nat)) => g2 = (if ol (mk * 6 + pe) = 0 then sg else sg - 1)) (mg_B D A (fun (g2 : (Nat)) => [mg_ob hM 2 [.ref (qw), .ref (qra), .ref (qo), .ref (qt), .int (nI (nm)), .int (nI (g2))], mg_ai K qo 24 (va_up ol (mk * 6 + pe) 0), mg_ai K qt 24 (va_up tl (mk * 6 + pe) 0)])) A) (by decide) (Nat.le_of_ble_eq_true rfl) ?_
  intro p e s m args below meth c A ls X hr hlk hnm hA hK hw hl
  have hl : lv_has ls 3 [(0, .ref (hM)), (1, .int (nI (pe))), (2, .int (nI (mk)))] := hl
  refine mg_aload_n X 1 d_Ma_dropSighting_0 (lv_at hl 0 rfl) rfl ?_
  refine mg_iload_n X 2 d_Ma_dropSighting_1 (lv_at hl 1 rfl) rfl ?_
  refine mg_iload_n X 3 d_Ma_dropSighting_2 (lv_at hl 2 rfl) rfl ?_
  refine mg_callVi X hK hw hA 6 [0, 1] 0 (fun _ => [mg_ob hM 2 [.ref (qw), .ref (qra), .ref (qo), .ref (qt), .int (nI (nm)), .int (nI (sg))], mg_ai K qo 24 ol, mg_ai K qt 24 tl]) rfl rfl (k_Ma_isSeen l D K hM qw qra qo qt nm sg ol pe mk (by omega) (by omega) (hol)) g_Ma_35 ⟨by decide, by decide⟩ ⟨rfl, rfl⟩ rfl rfl rfl hl.1 (rest := []) (As := [.int (nI (pe)), .int (nI (mk))]) rfl (Nat.le_of_ble_eq_true rfl) d_Ma_dropSighting_3 ⟨Nat.zero_le _, Nat.zero_le _⟩ (fun _ => rfl) (fun _ => rfl) rfl ?_
  intro r _ H locs hp2 hw
  subst hp2
  refine mg_bif_eq X 19 9 d_Ma_dropSighting_6 (by decide) rfl (fun hz => ?_) (fun hz => ?_)
  · -- pc 6 t
    refine mg_aload_n X 20 d_Ma_dropSighting_19 (lv_at hl 0 rfl) rfl ?_
    refine mg_get X hK hw 23 0 2 f_Ma_18 rfl rfl d_Ma_dropSighting_20 rfl ?_
    refine mg_iload_n X 24 d_Ma_dropSighting_23 (lv_at hl 2 rfl) rfl ?_
    refine mg_bipush X 26 6 d_Ma_dropSighting_24 mg_cb_6 rfl ?_
    refine mg_imul X 27 (nI (mk * 6)) d_Ma_dropSighting_26 (pk_mul _ _) rfl ?_
    refine mg_iload_n X 28 d_Ma_dropSighting_27 (lv_at hl 1 rfl) rfl ?_
    refine mg_iadd X 29 (nI ((mk * 6) + pe)) d_Ma_dropSighting_28 (nI_add _ _) rfl ?_
    refine mg_iconst X 30 0 d_Ma_dropSighting_29 mg_ci_0 rfl ?_
    refine mg_iast X hK hw 31 1 [mg_ob hM 2 [.ref (qw), .ref (qra), .ref (qo), .ref (qt), .int (nI (nm)), .int (nI (sg))], mg_ai K qo 24 (va_up ol ((mk * 6) + pe) 0), mg_ai K qt 24 tl] rfl (by omega) (by omega) d_Ma_dropSighting_30 rfl rfl (fun H locs hw => ?_)
    refine mg_aload_n X 32 d_Ma_dropSighting_31 (lv_at hl 0 rfl) rfl ?_
    refine mg_get X hK hw 35 0 3 f_Ma_21 rfl rfl d_Ma_dropSighting_32 rfl ?_
    refine mg_iload_n X 36 d_Ma_dropSighting_35 (lv_at hl 2 rfl) rfl ?_
    refine mg_bipush X 38 6 d_Ma_dropSighting_36 mg_cb_6 rfl ?_
    refine mg_imul X 39 (nI (mk * 6)) d_Ma_dropSighting_38 (pk_mul _ _) rfl ?_
    refine mg_iload_n X 40 d_Ma_dropSighting_39 (lv_at hl 1 rfl) rfl ?_
    refine mg_iadd X 41 (nI ((mk * 6) + pe)) d_Ma_dropSighting_40 (nI_add _ _) rfl ?_
    refine mg_iconst X 42 0 d_Ma_dropSighting_41 mg_ci_0 rfl ?_
    refine mg_iast X hK hw 43 2 [mg_ob hM 2 [.ref (qw), .ref (qra), .ref (qo), .ref (qt), .int (nI (nm)), .int (nI (sg))], mg_ai K qo 24 (va_up ol ((mk * 6) + pe) 0), mg_ai K qt 24 (va_up tl ((mk * 6) + pe) 0)] rfl (by omega) (by omega) d_Ma_dropSighting_42 rfl rfl (fun H locs hw => ?_)
    exact mg_vret X hr hlk (sg) (by rw [if_pos (Classical.not_not.mp hz)]) hw d_Ma_dropSighting_43
  · -- pc 6 f
    refine mg_aload_n X 10 d_Ma_dropSighting_9 (lv_at hl 0 rfl) rfl ?_
    refine mg_dup X 11 d_Ma_dropSighting_10 rfl rfl ?_
    refine mg_get X hK hw 14 0 5 f_Ma_28 rfl rfl d_Ma_dropSighting_11 rfl ?_
    refine mg_iconst X 15 1 d_Ma_dropSighting_14 mg_ci_1 rfl ?_
    refine mg_isub X 16 (nI (sg - 1)) d_Ma_dropSighting_15 (pk_sub (hg1 hz)) rfl ?_
    refine mg_put X hK hw 19 0 5 [mg_ob hM 2 [.ref (qw), .ref (qra), .ref (qo), .ref (qt), .int (nI (nm)), .int (nI (sg - 1))], mg_ai K qo 24 ol, mg_ai K qt 24 tl] fp_Ma_28 rfl (Nat.le_of_ble_eq_true rfl) rfl rfl d_Ma_dropSighting_16 rfl rfl (fun H locs hw => ?_)
    refine mg_aload_n X 20 d_Ma_dropSighting_19 (lv_at hl 0 rfl) rfl ?_
    refine mg_get X hK hw 23 0 2 f_Ma_18 rfl rfl d_Ma_dropSighting_20 rfl ?_
    refine mg_iload_n X 24 d_Ma_dropSighting_23 (lv_at hl 2 rfl) rfl ?_
    refine mg_bipush X 26 6 d_Ma_dropSighting_24 mg_cb_6 rfl ?_
    refine mg_imul X 27 (nI (mk * 6)) d_Ma_dropSighting_26 (pk_mul _ _) rfl ?_
    refine mg_iload_n X 28 d_Ma_dropSighting_27 (lv_at hl 1 rfl) rfl ?_
    refine mg_iadd X 29 (nI ((mk * 6) + pe)) d_Ma_dropSighting_28 (nI_add _ _) rfl ?_
    refine mg_iconst X 30 0 d_Ma_dropSighting_29 mg_ci_0 rfl ?_
    refine mg_iast X hK hw 31 1 [mg_ob hM 2 [.ref (qw), .ref (qra), .ref (qo), .ref (qt), .int (nI (nm)), .int (nI (sg - 1))], mg_ai K qo 24 (va_up ol ((mk * 6) + pe) 0), mg_ai K qt 24 tl] rfl (by omega) (by omega) d_Ma_dropSighting_30 rfl rfl (fun H locs hw => ?_)
    refine mg_aload_n X 32 d_Ma_dropSighting_31 (lv_at hl 0 rfl) rfl ?_
    refine mg_get X hK hw 35 0 3 f_Ma_21 rfl rfl d_Ma_dropSighting_32 rfl ?_
    refine mg_iload_n X 36 d_Ma_dropSighting_35 (lv_at hl 2 rfl) rfl ?_
    refine mg_bipush X 38 6 d_Ma_dropSighting_36 mg_cb_6 rfl ?_
    refine mg_imul X 39 (nI (mk * 6)) d_Ma_dropSighting_38 (pk_mul _ _) rfl ?_
    refine mg_iload_n X 40 d_Ma_dropSighting_39 (lv_at hl 1 rfl) rfl ?_
    refine mg_iadd X 41 (nI ((mk * 6) + pe)) d_Ma_dropSighting_40 (nI_add _ _) rfl ?_
    refine mg_iconst X 42 0 d_Ma_dropSighting_41 mg_ci_0 rfl ?_
    refine mg_iast X hK hw 43 2 [mg_ob hM 2 [.ref (qw), .ref (qra), .ref (qo), .ref (qt), .int (nI (nm)), .int (nI (sg - 1))], mg_ai K qo 24 (va_up ol ((mk * 6) + pe) 0), mg_ai K qt 24 (va_up tl ((mk * 6) + pe) 0)] rfl (by omega) (by omega) d_Ma_dropSighting_42 rfl rfl (fun H locs hw => ?_)
    exact mg_vret X hr hlk (sg - 1) (by rw [if_neg hz]) hw d_Ma_dropSighting_43
