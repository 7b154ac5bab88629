set_option maxRecDepth 100000 in
set_option maxHeartbeats 4000000 in
theorem k_Mo_turnedN (l : Launch) (D : va_G) (K : Nat → ClassId) (mh : Nat) (qor : Nat) (qfa : Nat) (qmo : Nat) (qwt : Nat) (qrt : Nat) (qnw : Nat) (qsn : Nat) (qlt : Nat) (qkn : Nat) (qft : Nat) (qbf : Nat) (qbh : Nat) (qjt : Nat) (qot : Nat) (qsm : Nat) (qpt : Nat) (qpr : Nat) (qch : Nat) (qbt : Nat) (qpg : Nat) (flt : Nat) (np : Nat) (nf : Nat) (nc : Nat) (nm : Nat) (wr : Nat) (m1 : Int32) (b1 : Int32) (hnp : np = nf + nc) (hnf : nf ≤ 3) (hnc : nc ≤ 3) (hnm4 : nm ≤ 4) (hx : ¬ (mg_lt m1 nm ∧ mg_lt b1 (2 * nc))) : mg_Mi l D K y_Mo_turned b_Mo_turned 4 (.int) ({ frames := 1, cells := 0, slots := 0, locals := 21 }) [.ref (mh), .int (m1), .int (b1)] [mg_ob mh 6 [.int (nI (flt)), .int (nI (np)), .int (nI (nf)), .int (nI (nc)), .ref (qor), .ref (qfa), .ref (qmo), .int (nI (nm)), .ref (qwt), .ref (qrt), .ref (qnw), .ref (qsn), .ref (qlt), .ref (qkn), .ref (qft), .ref (qbf), .ref (qbh), .ref (qjt), .ref (qot), .ref (qsm), .ref (qpt), .ref (qpr), .ref (qch), .ref (qbt), .int (nI (wr)), .ref (qpg)]] (fun (r : Int32) (_ : Unit) => r = nI (0)) (fun (_ : Unit) => [mg_ob mh 6 [.int (nI (1)), .int (nI (np)), .int (nI (nf)), .int (nI (nc)), .ref (qor), .ref (qfa), .ref (qmo), .int (nI (nm)), .ref (qwt), .ref (qrt), .ref (qnw), .ref (qsn), .ref (qlt), .ref (qkn), .ref (qft), .ref (qbf), .ref (qbh), .ref (qjt), .ref (qot), .ref (qsm), .ref (qpt), .ref (qpr), .ref (qch), .ref (qbt), .int (nI (wr)), .ref (qpg)]]) := by
  intro sz
  refine mg_entry (Qc := fun A => va_Qi (fun (r : Int32) (_ : Unit) => r = nI (0)) (mg_B D A (fun (_ : Unit) => [mg_ob mh 6 [.int (nI (1)), .int (nI (np)), .int (nI (nf)), .int (nI (nc)), .ref (qor), .ref (qfa), .ref (qmo), .int (nI (nm)), .ref (qwt), .ref (qrt), .ref (qnw), .ref (qsn), .ref (qlt), .ref (qkn), .ref (qft), .ref (qbf), .ref (qbh), .ref (qjt), .ref (qot), .ref (qsm), .ref (qpt), .ref (qpr), .ref (qch), .ref (qbt), .int (nI (wr)), .ref (qpg)]])) A) (by decide) (Nat.le_of_ble_eq_true rfl) ?_
  intro p e s m args below meth c A ls X hr hlk hnm hA hK hw hl
  have hl : lv_has ls 4 [(0, .ref (mh)), (1, .int (m1)), (2, .int (b1))] := hl
  refine mg_aload_n X 1 d_Mo_turned_0 (lv_at hl 0 rfl) rfl ?_
  refine mg_iload_n X 2 d_Mo_turned_1 (lv_at hl 1 rfl) rfl ?_
  refine mg_callVi X hK hw hA 5 [0] 0 (fun _ => [mg_ob mh 6 [.int (nI (flt)), .int (nI (np)), .int (nI (nf)), .int (nI (nc)), .ref (qor), .ref (qfa), .ref (qmo), .int (nI (nm)), .ref (qwt), .ref (qrt), .ref (qnw), .ref (qsn), .ref (qlt), .ref (qkn), .ref (qft), .ref (qbf), .ref (qbh), .ref (qjt), .ref (qot), .ref (qsm), .ref (qpt), .ref (qpr), .ref (qch), .ref (qbt), .int (nI (wr)), .ref (qpg)]]) rfl rfl (k_Mo_isMarker l D K mh qor qfa qmo qwt qrt qnw qsn qlt qkn qft qbf qbh qjt qot qsm qpt qpr qch qbt qpg flt np nf nc nm wr m1 (by omega)) g_Mo_109 ⟨by decide, by decide⟩ ⟨rfl, rfl⟩ rfl rfl rfl hl.1 (rest := []) (As := [.int (m1)]) rfl (Nat.le_of_ble_eq_true rfl) d_Mo_turned_2 ⟨Nat.zero_le _, Nat.zero_le _⟩ (fun _ => rfl) (fun _ => rfl) rfl ?_
  intro r _ H locs hp2 hw
  subst hp2
  refine mg_bif_eq X 26 8 d_Mo_turned_5 (by decide) rfl (fun b3 => ?_) (fun b3 => ?_)
  · -- pc 5 t
    refine mg_iconst X 27 0 d_Mo_turned_26 mg_ci_0 rfl ?_
    refine mg_istore_n X 28 [(3, .int (nI (0))), (0, .ref (mh)), (1, .int (m1)), (2, .int (b1))] d_Mo_turned_27 hl (by decide) rfl rfl (fun ls hl => ?_)
    refine mg_aload_n X 29 d_Mo_turned_28 (lv_at hl 1 rfl) rfl ?_
    refine mg_iload_n X 30 d_Mo_turned_29 (lv_at hl 0 rfl) rfl ?_
    refine mg_if_eq X 37 33 (by decide) d_Mo_turned_30 (by decide) rfl (fun _ => ?_) (fun b4 => absurd b4 (by decide))
    refine mg_iconst X 38 1 d_Mo_turned_37 mg_ci_1 rfl ?_
    refine mg_callVi X hK hw hA 41 [0] 0 (fun _ => [mg_ob mh 6 [.int (nI (1)), .int (nI (np)), .int (nI (nf)), .int (nI (nc)), .ref (qor), .ref (qfa), .ref (qmo), .int (nI (nm)), .ref (qwt), .ref (qrt), .ref (qnw), .ref (qsn), .ref (qlt), .ref (qkn), .ref (qft), .ref (qbf), .ref (qbh), .ref (qjt), .ref (qot), .ref (qsm), .ref (qpt), .ref (qpr), .ref (qch), .ref (qbt), .int (nI (wr)), .ref (qpg)]]) rfl rfl (k_Mo_refused l D K mh qor qfa qmo qwt qrt qnw qsn qlt qkn qft qbf qbh qjt qot qsm qpt qpr qch qbt qpg flt np nf nc nm wr 1 (by omega)) g_Mo_96 ⟨by decide, by decide⟩ ⟨rfl, rfl⟩ rfl rfl rfl hl.1 (rest := []) (As := [.int (nI (1))]) rfl (Nat.le_of_ble_eq_true rfl) d_Mo_turned_38 ⟨Nat.zero_le _, Nat.zero_le _⟩ (fun _ => rfl) (fun _ => rfl) rfl ?_
    intro r _ H locs hp6 hw
    subst hp6
    refine mg_bif_eq X 48 44 d_Mo_turned_41 (by decide) rfl (fun b7 => absurd b7 (by decide)) (fun _ => ?_)
    refine mg_iconst X 45 0 d_Mo_turned_44 mg_ci_0 rfl ?_
    refine mg_goto X 56 d_Mo_turned_45 (by decide) ?_
    exact mg_iret X hr hlk (rfl) (()) (rfl) hw d_Mo_turned_56
  · -- pc 5 f
    obtain ⟨jm1, hm1, rfl⟩ := b3
    refine mg_iload_n X 9 d_Mo_turned_8 (lv_at hl 2 rfl) rfl ?_
    refine mg_iflt_r X 26 12 d_Mo_turned_9 (by decide) rfl (fun b8 => ?_) (fun j hj ej => ?_)
    · -- pc 9 t
      refine mg_iconst X 27 0 d_Mo_turned_26 mg_ci_0 rfl ?_
      refine mg_istore_n X 28 [(3, .int (nI (0))), (0, .ref (mh)), (1, .int (nI (jm1))), (2, .int (b1))] d_Mo_turned_27 hl (by decide) rfl rfl (fun ls hl => ?_)
      refine mg_aload_n X 29 d_Mo_turned_28 (lv_at hl 1 rfl) rfl ?_
      refine mg_iload_n X 30 d_Mo_turned_29 (lv_at hl 0 rfl) rfl ?_
      refine mg_if_eq X 37 33 (by decide) d_Mo_turned_30 (by decide) rfl (fun _ => ?_) (fun b9 => absurd b9 (by decide))
      refine mg_iconst X 38 1 d_Mo_turned_37 mg_ci_1 rfl ?_
      refine mg_callVi X hK hw hA 41 [0] 0 (fun _ => [mg_ob mh 6 [.int (nI (1)), .int (nI (np)), .int (nI (nf)), .int (nI (nc)), .ref (qor), .ref (qfa), .ref (qmo), .int (nI (nm)), .ref (qwt), .ref (qrt), .ref (qnw), .ref (qsn), .ref (qlt), .ref (qkn), .ref (qft), .ref (qbf), .ref (qbh), .ref (qjt), .ref (qot), .ref (qsm), .ref (qpt), .ref (qpr), .ref (qch), .ref (qbt), .int (nI (wr)), .ref (qpg)]]) rfl rfl (k_Mo_refused l D K mh qor qfa qmo qwt qrt qnw qsn qlt qkn qft qbf qbh qjt qot qsm qpt qpr qch qbt qpg flt np nf nc nm wr 1 (by omega)) g_Mo_96 ⟨by decide, by decide⟩ ⟨rfl, rfl⟩ rfl rfl rfl hl.1 (rest := []) (As := [.int (nI (1))]) rfl (Nat.le_of_ble_eq_true rfl) d_Mo_turned_38 ⟨Nat.zero_le _, Nat.zero_le _⟩ (fun _ => rfl) (fun _ => rfl) rfl ?_
      intro r _ H locs hp11 hw
      subst hp11
      refine mg_bif_eq X 48 44 d_Mo_turned_41 (by decide) rfl (fun b12 => absurd b12 (by decide)) (fun _ => ?_)
      refine mg_iconst X 45 0 d_Mo_turned_44 mg_ci_0 rfl ?_
      refine mg_goto X 56 d_Mo_turned_45 (by decide) ?_
      exact mg_iret X hr hlk (rfl) (()) (rfl) hw d_Mo_turned_56
    · -- pc 9 f
      subst ej
      refine mg_iload_n X 13 d_Mo_turned_12 (lv_at hl 2 rfl) rfl ?_
      refine mg_iconst X 14 2 d_Mo_turned_13 mg_ci_2 rfl ?_
      refine mg_aload_n X 15 d_Mo_turned_14 (lv_at hl 0 rfl) rfl ?_
      refine mg_get X hK hw 18 0 3 f_Mo_86 rfl rfl d_Mo_turned_15 rfl ?_
      refine mg_imul X 19 (nI (2 * nc)) d_Mo_turned_18 (pk_mul _ _) rfl ?_
      refine mg_icmp_ge X 26 22 (by omega) (by omega) d_Mo_turned_19 (by decide) rfl (fun h9 => ?_) (fun h9 => ?_)
      · -- pc 19 t
        refine mg_iconst X 27 0 d_Mo_turned_26 mg_ci_0 rfl ?_
        refine mg_istore_n X 28 [(3, .int (nI (0))), (0, .ref (mh)), (1, .int (nI (jm1))), (2, .int (nI (j)))] d_Mo_turned_27 hl (by decide) rfl rfl (fun ls hl => ?_)
        refine mg_aload_n X 29 d_Mo_turned_28 (lv_at hl 1 rfl) rfl ?_
        refine mg_iload_n X 30 d_Mo_turned_29 (lv_at hl 0 rfl) rfl ?_
        refine mg_if_eq X 37 33 (by decide) d_Mo_turned_30 (by decide) rfl (fun _ => ?_) (fun b13 => absurd b13 (by decide))
        refine mg_iconst X 38 1 d_Mo_turned_37 mg_ci_1 rfl ?_
        refine mg_callVi X hK hw hA 41 [0] 0 (fun _ => [mg_ob mh 6 [.int (nI (1)), .int (nI (np)), .int (nI (nf)), .int (nI (nc)), .ref (qor), .ref (qfa), .ref (qmo), .int (nI (nm)), .ref (qwt), .ref (qrt), .ref (qnw), .ref (qsn), .ref (qlt), .ref (qkn), .ref (qft), .ref (qbf), .ref (qbh), .ref (qjt), .ref (qot), .ref (qsm), .ref (qpt), .ref (qpr), .ref (qch), .ref (qbt), .int (nI (wr)), .ref (qpg)]]) rfl rfl (k_Mo_refused l D K mh qor qfa qmo qwt qrt qnw qsn qlt qkn qft qbf qbh qjt qot qsm qpt qpr qch qbt qpg flt np nf nc nm wr 1 (by omega)) g_Mo_96 ⟨by decide, by decide⟩ ⟨rfl, rfl⟩ rfl rfl rfl hl.1 (rest := []) (As := [.int (nI (1))]) rfl (Nat.le_of_ble_eq_true rfl) d_Mo_turned_38 ⟨Nat.zero_le _, Nat.zero_le _⟩ (fun _ => rfl) (fun _ => rfl) rfl ?_
        intro r _ H locs hp15 hw
        subst hp15
        refine mg_bif_eq X 48 44 d_Mo_turned_41 (by decide) rfl (fun b16 => absurd b16 (by decide)) (fun _ => ?_)
        refine mg_iconst X 45 0 d_Mo_turned_44 mg_ci_0 rfl ?_
        refine mg_goto X 56 d_Mo_turned_45 (by decide) ?_
        exact mg_iret X hr hlk (rfl) (()) (rfl) hw d_Mo_turned_56
      · -- pc 19 f
        exact absurd ⟨⟨jm1, hm1, rfl⟩, ⟨j, h9, rfl⟩⟩ hx

set_option maxRecDepth 100000 in
set_option maxHeartbeats 4000000 in
theorem k_Mo_sharedN (l : Launch) (D : va_G) (K : Nat → ClassId) (mh : Nat) (qor : Nat) (qfa : Nat) (qmo : Nat) (qwt : Nat) (qrt : Nat) (qnw : Nat) (qsn : Nat) (qlt : Nat) (qkn : Nat) (qft : Nat) (qbf : Nat) (qbh : Nat) (qjt : Nat) (qot : Nat) (qsm : Nat) (qpt : Nat) (qpr : Nat) (qch : Nat) (qbt : Nat) (qpg : Nat) (flt : Nat) (np : Nat) (nf : Nat) (nc : Nat) (nm : Nat) (wr : Nat) (m1 : Int32) (p1 : Int32) (p2 : Int32) (hnp6 : np ≤ 6) (hnm4 : nm ≤ 4) (hx : ¬ (mg_lt m1 nm ∧ mg_lt p1 np ∧ mg_lt p2 np)) : mg_Mi l D K y_Mo_shared b_Mo_shared 5 (.int) ({ frames := 1, cells := 0, slots := 0, locals := 21 }) [.ref (mh), .int (m1), .int (p1), .int (p2)] [mg_ob mh 6 [.int (nI (flt)), .int (nI (np)), .int (nI (nf)), .int (nI (nc)), .ref (qor), .ref (qfa), .ref (qmo), .int (nI (nm)), .ref (qwt), .ref (qrt), .ref (qnw), .ref (qsn), .ref (qlt), .ref (qkn), .ref (qft), .ref (qbf), .ref (qbh), .ref (qjt), .ref (qot), .ref (qsm), .ref (qpt), .ref (qpr), .ref (qch), .ref (qbt), .int (nI (wr)), .ref (qpg)]] (fun (r : Int32) (_ : Unit) => r = nI (0)) (fun (_ : Unit) => [mg_ob mh 6 [.int (nI (1)), .int (nI (np)), .int (nI (nf)), .int (nI (nc)), .ref (qor), .ref (qfa), .ref (qmo), .int (nI (nm)), .ref (qwt), .ref (qrt), .ref (qnw), .ref (qsn), .ref (qlt), .ref (qkn), .ref (qft), .ref (qbf), .ref (qbh), .ref (qjt), .ref (qot), .ref (qsm), .ref (qpt), .ref (qpr), .ref (qch), .ref (qbt), .int (nI (wr)), .ref (qpg)]]) := by
  intro sz
  refine mg_entry (Qc := fun A => va_Qi (fun (r : Int32) (_ : Unit) => r = nI (0)) (mg_B D A (fun (_ : Unit) => [mg_ob mh 6 [.int (nI (1)), .int (nI (np)), .int (nI (nf)), .int (nI (nc)), .ref (qor), .ref (qfa), .ref (qmo), .int (nI (nm)), .ref (qwt), .ref (qrt), .ref (qnw), .ref (qsn), .ref (qlt), .ref (qkn), .ref (qft), .ref (qbf), .ref (qbh), .ref (qjt), .ref (qot), .ref (qsm), .ref (qpt), .ref (qpr), .ref (qch), .ref (qbt), .int (nI (wr)), .ref (qpg)]])) A) (by decide) (Nat.le_of_ble_eq_true rfl) ?_
  intro p e s m args below meth c A ls X hr hlk hnm hA hK hw hl
  have hl : lv_has ls 5 [(0, .ref (mh)), (1, .int (m1)), (2, .int (p1)), (3, .int (p2))] := hl
  refine mg_aload_n X 1 d_Mo_shared_0 (lv_at hl 0 rfl) rfl ?_
  refine mg_iload_n X 2 d_Mo_shared_1 (lv_at hl 1 rfl) rfl ?_
  refine mg_callVi X hK hw hA 5 [0] 0 (fun _ => [mg_ob mh 6 [.int (nI (flt)), .int (nI (np)), .int (nI (nf)), .int (nI (nc)), .ref (qor), .ref (qfa), .ref (qmo), .int (nI (nm)), .ref (qwt), .ref (qrt), .ref (qnw), .ref (qsn), .ref (qlt), .ref (qkn), .ref (qft), .ref (qbf), .ref (qbh), .ref (qjt), .ref (qot), .ref (qsm), .ref (qpt), .ref (qpr), .ref (qch), .ref (qbt), .int (nI (wr)), .ref (qpg)]]) rfl rfl (k_Mo_isMarker l D K mh qor qfa qmo qwt qrt qnw qsn qlt qkn qft qbf qbh qjt qot qsm qpt qpr qch qbt qpg flt np nf nc nm wr m1 (by omega)) g_Mo_109 ⟨by decide, by decide⟩ ⟨rfl, rfl⟩ rfl rfl rfl hl.1 (rest := []) (As := [.int (m1)]) rfl (Nat.le_of_ble_eq_true rfl) d_Mo_shared_2 ⟨Nat.zero_le _, Nat.zero_le _⟩ (fun _ => rfl) (fun _ => rfl) rfl ?_
  intro r _ H locs hp2 hw
  subst hp2
  refine mg_bif_eq X 28 8 d_Mo_shared_5 (by decide) rfl (fun b3 => ?_) (fun b3 => ?_)
  · -- pc 5 t
    refine mg_iconst X 29 0 d_Mo_shared_28 mg_ci_0 rfl ?_
    refine mg_istore X 31 [(4, .int (nI (0))), (0, .ref (mh)), (1, .int (m1)), (2, .int (p1)), (3, .int (p2))] d_Mo_shared_29 hl (by decide) rfl rfl (fun ls hl => ?_)
    refine mg_aload_n X 32 d_Mo_shared_31 (lv_at hl 1 rfl) rfl ?_
    refine mg_iload X 34 d_Mo_shared_32 (lv_at hl 0 rfl) rfl ?_
    refine mg_if_eq X 41 37 (by decide) d_Mo_shared_34 (by decide) rfl (fun _ => ?_) (fun b4 => absurd b4 (by decide))
    refine mg_iconst X 42 1 d_Mo_shared_41 mg_ci_1 rfl ?_
    refine mg_callVi X hK hw hA 45 [0] 0 (fun _ => [mg_ob mh 6 [.int (nI (1)), .int (nI (np)), .int (nI (nf)), .int (nI (nc)), .ref (qor), .ref (qfa), .ref (qmo), .int (nI (nm)), .ref (qwt), .ref (qrt), .ref (qnw), .ref (qsn), .ref (qlt), .ref (qkn), .ref (qft), .ref (qbf), .ref (qbh), .ref (qjt), .ref (qot), .ref (qsm), .ref (qpt), .ref (qpr), .ref (qch), .ref (qbt), .int (nI (wr)), .ref (qpg)]]) rfl rfl (k_Mo_refused l D K mh qor qfa qmo qwt qrt qnw qsn qlt qkn qft qbf qbh qjt qot qsm qpt qpr qch qbt qpg flt np nf nc nm wr 1 (by omega)) g_Mo_96 ⟨by decide, by decide⟩ ⟨rfl, rfl⟩ rfl rfl rfl hl.1 (rest := []) (As := [.int (nI (1))]) rfl (Nat.le_of_ble_eq_true rfl) d_Mo_shared_42 ⟨Nat.zero_le _, Nat.zero_le _⟩ (fun _ => rfl) (fun _ => rfl) rfl ?_
    intro r _ H locs hp6 hw
    subst hp6
    refine mg_bif_eq X 52 48 d_Mo_shared_45 (by decide) rfl (fun b7 => absurd b7 (by decide)) (fun _ => ?_)
    refine mg_iconst X 49 0 d_Mo_shared_48 mg_ci_0 rfl ?_
    refine mg_goto X 60 d_Mo_shared_49 (by decide) ?_
    exact mg_iret X hr hlk (rfl) (()) (rfl) hw d_Mo_shared_60
  · -- pc 5 f
    obtain ⟨jm1, hm1, rfl⟩ := b3
    refine mg_aload_n X 9 d_Mo_shared_8 (lv_at hl 0 rfl) rfl ?_
    refine mg_iload_n X 10 d_Mo_shared_9 (lv_at hl 2 rfl) rfl ?_
    refine mg_callVi X hK hw hA 13 [0] 0 (fun _ => [mg_ob mh 6 [.int (nI (flt)), .int (nI (np)), .int (nI (nf)), .int (nI (nc)), .ref (qor), .ref (qfa), .ref (qmo), .int (nI (nm)), .ref (qwt), .ref (qrt), .ref (qnw), .ref (qsn), .ref (qlt), .ref (qkn), .ref (qft), .ref (qbf), .ref (qbh), .ref (qjt), .ref (qot), .ref (qsm), .ref (qpt), .ref (qpr), .ref (qch), .ref (qbt), .int (nI (wr)), .ref (qpg)]]) rfl rfl (k_Mo_isPerson l D K mh qor qfa qmo qwt qrt qnw qsn qlt qkn qft qbf qbh qjt qot qsm qpt qpr qch qbt qpg flt np nf nc nm wr p1 (by omega)) g_Mo_103 ⟨by decide, by decide⟩ ⟨rfl, rfl⟩ rfl rfl rfl hl.1 (rest := []) (As := [.int (p1)]) rfl (Nat.le_of_ble_eq_true rfl) d_Mo_shared_10 ⟨Nat.zero_le _, Nat.zero_le _⟩ (fun _ => rfl) (fun _ => rfl) rfl ?_
    intro r _ H locs hp9 hw
    subst hp9
    refine mg_bif_eq X 28 16 d_Mo_shared_13 (by decide) rfl (fun b10 => ?_) (fun b10 => ?_)
    · -- pc 13 t
      refine mg_iconst X 29 0 d_Mo_shared_28 mg_ci_0 rfl ?_
      refine mg_istore X 31 [(4, .int (nI (0))), (0, .ref (mh)), (1, .int (nI (jm1))), (2, .int (p1)), (3, .int (p2))] d_Mo_shared_29 hl (by decide) rfl rfl (fun ls hl => ?_)
      refine mg_aload_n X 32 d_Mo_shared_31 (lv_at hl 1 rfl) rfl ?_
      refine mg_iload X 34 d_Mo_shared_32 (lv_at hl 0 rfl) rfl ?_
      refine mg_if_eq X 41 37 (by decide) d_Mo_shared_34 (by decide) rfl (fun _ => ?_) (fun b11 => absurd b11 (by decide))
      refine mg_iconst X 42 1 d_Mo_shared_41 mg_ci_1 rfl ?_
      refine mg_callVi X hK hw hA 45 [0] 0 (fun _ => [mg_ob mh 6 [.int (nI (1)), .int (nI (np)), .int (nI (nf)), .int (nI (nc)), .ref (qor), .ref (qfa), .ref (qmo), .int (nI (nm)), .ref (qwt), .ref (qrt), .ref (qnw), .ref (qsn), .ref (qlt), .ref (qkn), .ref (qft), .ref (qbf), .ref (qbh), .ref (qjt), .ref (qot), .ref (qsm), .ref (qpt), .ref (qpr), .ref (qch), .ref (qbt), .int (nI (wr)), .ref (qpg)]]) rfl rfl (k_Mo_refused l D K mh qor qfa qmo qwt qrt qnw qsn qlt qkn qft qbf qbh qjt qot qsm qpt qpr qch qbt qpg flt np nf nc nm wr 1 (by omega)) g_Mo_96 ⟨by decide, by decide⟩ ⟨rfl, rfl⟩ rfl rfl rfl hl.1 (rest := []) (As := [.int (nI (1))]) rfl (Nat.le_of_ble_eq_true rfl) d_Mo_shared_42 ⟨Nat.zero_le _, Nat.zero_le _⟩ (fun _ => rfl) (fun _ => rfl) rfl ?_
      intro r _ H locs hp13 hw
      subst hp13
      refine mg_bif_eq X 52 48 d_Mo_shared_45 (by decide) rfl (fun b14 => absurd b14 (by decide)) (fun _ => ?_)
      refine mg_iconst X 49 0 d_Mo_shared_48 mg_ci_0 rfl ?_
      refine mg_goto X 60 d_Mo_shared_49 (by decide) ?_
      exact mg_iret X hr hlk (rfl) (()) (rfl) hw d_Mo_shared_60
    · -- pc 13 f
      obtain ⟨jp1, hp1, rfl⟩ := b10
      refine mg_aload_n X 17 d_Mo_shared_16 (lv_at hl 0 rfl) rfl ?_
      refine mg_iload_n X 18 d_Mo_shared_17 (lv_at hl 3 rfl) rfl ?_
      refine mg_callVi X hK hw hA 21 [0] 0 (fun _ => [mg_ob mh 6 [.int (nI (flt)), .int (nI (np)), .int (nI (nf)), .int (nI (nc)), .ref (qor), .ref (qfa), .ref (qmo), .int (nI (nm)), .ref (qwt), .ref (qrt), .ref (qnw), .ref (qsn), .ref (qlt), .ref (qkn), .ref (qft), .ref (qbf), .ref (qbh), .ref (qjt), .ref (qot), .ref (qsm), .ref (qpt), .ref (qpr), .ref (qch), .ref (qbt), .int (nI (wr)), .ref (qpg)]]) rfl rfl (k_Mo_isPerson l D K mh qor qfa qmo qwt qrt qnw qsn qlt qkn qft qbf qbh qjt qot qsm qpt qpr qch qbt qpg flt np nf nc nm wr p2 (by omega)) g_Mo_103 ⟨by decide, by decide⟩ ⟨rfl, rfl⟩ rfl rfl rfl hl.1 (rest := []) (As := [.int (p2)]) rfl (Nat.le_of_ble_eq_true rfl) d_Mo_shared_18 ⟨Nat.zero_le _, Nat.zero_le _⟩ (fun _ => rfl) (fun _ => rfl) rfl ?_
      intro r _ H locs hp16 hw
      subst hp16
      refine mg_bif_eq X 28 24 d_Mo_shared_21 (by decide) rfl (fun b17 => ?_) (fun b17 => ?_)
      · -- pc 21 t
        refine mg_iconst X 29 0 d_Mo_shared_28 mg_ci_0 rfl ?_
        refine mg_istore X 31 [(4, .int (nI (0))), (0, .ref (mh)), (1, .int (nI (jm1))), (2, .int (nI (jp1))), (3, .int (p2))] d_Mo_shared_29 hl (by decide) rfl rfl (fun ls hl => ?_)
        refine mg_aload_n X 32 d_Mo_shared_31 (lv_at hl 1 rfl) rfl ?_
        refine mg_iload X 34 d_Mo_shared_32 (lv_at hl 0 rfl) rfl ?_
        refine mg_if_eq X 41 37 (by decide) d_Mo_shared_34 (by decide) rfl (fun _ => ?_) (fun b18 => absurd b18 (by decide))
        refine mg_iconst X 42 1 d_Mo_shared_41 mg_ci_1 rfl ?_
        refine mg_callVi X hK hw hA 45 [0] 0 (fun _ => [mg_ob mh 6 [.int (nI (1)), .int (nI (np)), .int (nI (nf)), .int (nI (nc)), .ref (qor), .ref (qfa), .ref (qmo), .int (nI (nm)), .ref (qwt), .ref (qrt), .ref (qnw), .ref (qsn), .ref (qlt), .ref (qkn), .ref (qft), .ref (qbf), .ref (qbh), .ref (qjt), .ref (qot), .ref (qsm), .ref (qpt), .ref (qpr), .ref (qch), .ref (qbt), .int (nI (wr)), .ref (qpg)]]) rfl rfl (k_Mo_refused l D K mh qor qfa qmo qwt qrt qnw qsn qlt qkn qft qbf qbh qjt qot qsm qpt qpr qch qbt qpg flt np nf nc nm wr 1 (by omega)) g_Mo_96 ⟨by decide, by decide⟩ ⟨rfl, rfl⟩ rfl rfl rfl hl.1 (rest := []) (As := [.int (nI (1))]) rfl (Nat.le_of_ble_eq_true rfl) d_Mo_shared_42 ⟨Nat.zero_le _, Nat.zero_le _⟩ (fun _ => rfl) (fun _ => rfl) rfl ?_
        intro r _ H locs hp20 hw
        subst hp20
        refine mg_bif_eq X 52 48 d_Mo_shared_45 (by decide) rfl (fun b21 => absurd b21 (by decide)) (fun _ => ?_)
        refine mg_iconst X 49 0 d_Mo_shared_48 mg_ci_0 rfl ?_
        refine mg_goto X 60 d_Mo_shared_49 (by decide) ?_
        exact mg_iret X hr hlk (rfl) (()) (rfl) hw d_Mo_shared_60
      · -- pc 21 f
        obtain ⟨jp2, hp2, rfl⟩ := b17
        exact absurd ⟨⟨jm1, hm1, rfl⟩, ⟨jp1, hp1, rfl⟩, ⟨jp2, hp2, rfl⟩⟩ hx

set_option maxRecDepth 100000 in
set_option maxHeartbeats 4000000 in
theorem k_Mo_likelyN (l : Launch) (D : va_G) (K : Nat → ClassId) (mh : Nat) (qor : Nat) (qfa : Nat) (qmo : Nat) (qwt : Nat) (qrt : Nat) (qnw : Nat) (qsn : Nat) (qlt : Nat) (qkn : Nat) (qft : Nat) (qbf : Nat) (qbh : Nat) (qjt : Nat) (qot : Nat) (qsm : Nat) (qpt : Nat) (qpr : Nat) (qch : Nat) (qbt : Nat) (qpg : Nat) (flt : Nat) (np : Nat) (nf : Nat) (nc : Nat) (nm : Nat) (wr : Nat) (m1 : Int32) (hnm4 : nm ≤ 4) (hx : ¬ mg_lt m1 nm) : mg_Mi l D K y_Mo_likely b_Mo_likely 4 (.int) ({ frames := 7, cells := 0, slots := 0, locals := 171 }) [.ref (mh), .int (m1)] [mg_ob mh 6 [.int (nI (flt)), .int (nI (np)), .int (nI (nf)), .int (nI (nc)), .ref (qor), .ref (qfa), .ref (qmo), .int (nI (nm)), .ref (qwt), .ref (qrt), .ref (qnw), .ref (qsn), .ref (qlt), .ref (qkn), .ref (qft), .ref (qbf), .ref (qbh), .ref (qjt), .ref (qot), .ref (qsm), .ref (qpt), .ref (qpr), .ref (qch), .ref (qbt), .int (nI (wr)), .ref (qpg)]] (fun (r : Int32) (_ : Unit) => r = nI (0)) (fun (_ : Unit) => [mg_ob mh 6 [.int (nI (1)), .int (nI (np)), .int (nI (nf)), .int (nI (nc)), .ref (qor), .ref (qfa), .ref (qmo), .int (nI (nm)), .ref (qwt), .ref (qrt), .ref (qnw), .ref (qsn), .ref (qlt), .ref (qkn), .ref (qft), .ref (qbf), .ref (qbh), .ref (qjt), .ref (qot), .ref (qsm), .ref (qpt), .ref (qpr), .ref (qch), .ref (qbt), .int (nI (wr)), .ref (qpg)]]) := by
  intro sz
  refine mg_entry (Qc := fun A => va_Qi (fun (r : Int32) (_ : Unit) => r = nI (0)) (mg_B D A (fun (_ : Unit) => [mg_ob mh 6 [.int (nI (1)), .int (nI (np)), .int (nI (nf)), .int (nI (nc)), .ref (qor), .ref (qfa), .ref (qmo), .int (nI (nm)), .ref (qwt), .ref (qrt), .ref (qnw), .ref (qsn), .ref (qlt), .ref (qkn), .ref (qft), .ref (qbf), .ref (qbh), .ref (qjt), .ref (qot), .ref (qsm), .ref (qpt), .ref (qpr), .ref (qch), .ref (qbt), .int (nI (wr)), .ref (qpg)]])) A) (by decide) (Nat.le_of_ble_eq_true rfl) ?_
  intro p e s m args below meth c A ls X hr hlk hnm hA hK hw hl
  have hl : lv_has ls 4 [(0, .ref (mh)), (1, .int (m1))] := hl
  refine mg_aload_n X 1 d_Mo_likely_0 (lv_at hl 0 rfl) rfl ?_
  refine mg_aload_n X 2 d_Mo_likely_1 (lv_at hl 0 rfl) rfl ?_
  refine mg_iload_n X 3 d_Mo_likely_2 (lv_at hl 1 rfl) rfl ?_
  refine mg_callVi X hK hw hA 6 [0] 0 (fun _ => [mg_ob mh 6 [.int (nI (flt)), .int (nI (np)), .int (nI (nf)), .int (nI (nc)), .ref (qor), .ref (qfa), .ref (qmo), .int (nI (nm)), .ref (qwt), .ref (qrt), .ref (qnw), .ref (qsn), .ref (qlt), .ref (qkn), .ref (qft), .ref (qbf), .ref (qbh), .ref (qjt), .ref (qot), .ref (qsm), .ref (qpt), .ref (qpr), .ref (qch), .ref (qbt), .int (nI (wr)), .ref (qpg)]]) rfl rfl (k_Mo_isMarker l D K mh qor qfa qmo qwt qrt qnw qsn qlt qkn qft qbf qbh qjt qot qsm qpt qpr qch qbt qpg flt np nf nc nm wr m1 (by omega)) g_Mo_109 ⟨by decide, by decide⟩ ⟨rfl, rfl⟩ rfl rfl rfl hl.1 (rest := [.ref (mh)]) (As := [.int (m1)]) rfl (Nat.le_of_ble_eq_true rfl) d_Mo_likely_3 ⟨Nat.zero_le _, Nat.zero_le _⟩ (fun _ => rfl) (fun _ => rfl) rfl ?_
  intro r _ H locs hp2 hw
  subst hp2
  refine mg_bif_eq X 13 9 d_Mo_likely_6 (by decide) rfl (fun _ => ?_) (fun b3 => absurd b3 (hx))
  refine mg_iconst X 14 1 d_Mo_likely_13 mg_ci_1 rfl ?_
  refine mg_callVi X hK hw hA 17 [0] 0 (fun _ => [mg_ob mh 6 [.int (nI (1)), .int (nI (np)), .int (nI (nf)), .int (nI (nc)), .ref (qor), .ref (qfa), .ref (qmo), .int (nI (nm)), .ref (qwt), .ref (qrt), .ref (qnw), .ref (qsn), .ref (qlt), .ref (qkn), .ref (qft), .ref (qbf), .ref (qbh), .ref (qjt), .ref (qot), .ref (qsm), .ref (qpt), .ref (qpr), .ref (qch), .ref (qbt), .int (nI (wr)), .ref (qpg)]]) rfl rfl (k_Mo_refused l D K mh qor qfa qmo qwt qrt qnw qsn qlt qkn qft qbf qbh qjt qot qsm qpt qpr qch qbt qpg flt np nf nc nm wr 1 (by omega)) g_Mo_96 ⟨by decide, by decide⟩ ⟨rfl, rfl⟩ rfl rfl rfl hl.1 (rest := []) (As := [.int (nI (1))]) rfl (Nat.le_of_ble_eq_true rfl) d_Mo_likely_14 ⟨Nat.zero_le _, Nat.zero_le _⟩ (fun _ => rfl) (fun _ => rfl) rfl ?_
  intro r _ H locs hp5 hw
  subst hp5
  refine mg_bif_eq X 22 20 d_Mo_likely_17 (by decide) rfl (fun b6 => absurd b6 (by decide)) (fun _ => ?_)
  refine mg_iconst X 21 0 d_Mo_likely_20 mg_ci_0 rfl ?_
  exact mg_iret X hr hlk (rfl) (()) (rfl) hw d_Mo_likely_21

set_option maxRecDepth 100000 in
set_option maxHeartbeats 4000000 in
theorem k_Mo_bestN (l : Launch) (D : va_G) (K : Nat → ClassId) (mh : Nat) (qor : Nat) (qfa : Nat) (qmo : Nat) (qwt : Nat) (qrt : Nat) (qnw : Nat) (qsn : Nat) (qlt : Nat) (qkn : Nat) (qft : Nat) (qbf : Nat) (qbh : Nat) (qjt : Nat) (qot : Nat) (qsm : Nat) (qpt : Nat) (qpr : Nat) (qch : Nat) (qbt : Nat) (qpg : Nat) (flt : Nat) (np : Nat) (nf : Nat) (nc : Nat) (nm : Nat) (wr : Nat) (g1 : Int32) (hnm4 : nm ≤ 4) (hx : ¬ mg_lt g1 (nm - 1)) : mg_Mi l D K y_Mo_best b_Mo_best 4 (.int) ({ frames := 6, cells := 0, slots := 0, locals := 151 }) [.ref (mh), .int (g1)] [mg_ob mh 6 [.int (nI (flt)), .int (nI (np)), .int (nI (nf)), .int (nI (nc)), .ref (qor), .ref (qfa), .ref (qmo), .int (nI (nm)), .ref (qwt), .ref (qrt), .ref (qnw), .ref (qsn), .ref (qlt), .ref (qkn), .ref (qft), .ref (qbf), .ref (qbh), .ref (qjt), .ref (qot), .ref (qsm), .ref (qpt), .ref (qpr), .ref (qch), .ref (qbt), .int (nI (wr)), .ref (qpg)]] (fun (r : Int32) (_ : Unit) => r = nI (0)) (fun (_ : Unit) => [mg_ob mh 6 [.int (nI (1)), .int (nI (np)), .int (nI (nf)), .int (nI (nc)), .ref (qor), .ref (qfa), .ref (qmo), .int (nI (nm)), .ref (qwt), .ref (qrt), .ref (qnw), .ref (qsn), .ref (qlt), .ref (qkn), .ref (qft), .ref (qbf), .ref (qbh), .ref (qjt), .ref (qot), .ref (qsm), .ref (qpt), .ref (qpr), .ref (qch), .ref (qbt), .int (nI (wr)), .ref (qpg)]]) := by
  intro sz
  refine mg_entry (Qc := fun A => va_Qi (fun (r : Int32) (_ : Unit) => r = nI (0)) (mg_B D A (fun (_ : Unit) => [mg_ob mh 6 [.int (nI (1)), .int (nI (np)), .int (nI (nf)), .int (nI (nc)), .ref (qor), .ref (qfa), .ref (qmo), .int (nI (nm)), .ref (qwt), .ref (qrt), .ref (qnw), .ref (qsn), .ref (qlt), .ref (qkn), .ref (qft), .ref (qbf), .ref (qbh), .ref (qjt), .ref (qot), .ref (qsm), .ref (qpt), .ref (qpr), .ref (qch), .ref (qbt), .int (nI (wr)), .ref (qpg)]])) A) (by decide) (Nat.le_of_ble_eq_true rfl) ?_
  intro p e s m args below meth c A ls X hr hlk hnm hA hK hw hl
  have hl : lv_has ls 4 [(0, .ref (mh)), (1, .int (g1))] := hl
  refine mg_aload_n X 1 d_Mo_best_0 (lv_at hl 0 rfl) rfl ?_
  refine mg_aload_n X 2 d_Mo_best_1 (lv_at hl 0 rfl) rfl ?_
  refine mg_iload_n X 3 d_Mo_best_2 (lv_at hl 1 rfl) rfl ?_
  refine mg_callVi X hK hw hA 6 [0] 0 (fun _ => [mg_ob mh 6 [.int (nI (flt)), .int (nI (np)), .int (nI (nf)), .int (nI (nc)), .ref (qor), .ref (qfa), .ref (qmo), .int (nI (nm)), .ref (qwt), .ref (qrt), .ref (qnw), .ref (qsn), .ref (qlt), .ref (qkn), .ref (qft), .ref (qbf), .ref (qbh), .ref (qjt), .ref (qot), .ref (qsm), .ref (qpt), .ref (qpr), .ref (qch), .ref (qbt), .int (nI (wr)), .ref (qpg)]]) rfl rfl (k_Mo_isGap l D K mh qor qfa qmo qwt qrt qnw qsn qlt qkn qft qbf qbh qjt qot qsm qpt qpr qch qbt qpg flt np nf nc nm wr g1 (by omega)) g_Mo_106 ⟨by decide, by decide⟩ ⟨rfl, rfl⟩ rfl rfl rfl hl.1 (rest := [.ref (mh)]) (As := [.int (g1)]) rfl (Nat.le_of_ble_eq_true rfl) d_Mo_best_3 ⟨Nat.zero_le _, Nat.zero_le _⟩ (fun _ => rfl) (fun _ => rfl) rfl ?_
  intro r _ H locs hp2 hw
  subst hp2
  refine mg_bif_eq X 13 9 d_Mo_best_6 (by decide) rfl (fun _ => ?_) (fun b3 => absurd b3 (hx))
  refine mg_iconst X 14 1 d_Mo_best_13 mg_ci_1 rfl ?_
  refine mg_callVi X hK hw hA 17 [0] 0 (fun _ => [mg_ob mh 6 [.int (nI (1)), .int (nI (np)), .int (nI (nf)), .int (nI (nc)), .ref (qor), .ref (qfa), .ref (qmo), .int (nI (nm)), .ref (qwt), .ref (qrt), .ref (qnw), .ref (qsn), .ref (qlt), .ref (qkn), .ref (qft), .ref (qbf), .ref (qbh), .ref (qjt), .ref (qot), .ref (qsm), .ref (qpt), .ref (qpr), .ref (qch), .ref (qbt), .int (nI (wr)), .ref (qpg)]]) rfl rfl (k_Mo_refused l D K mh qor qfa qmo qwt qrt qnw qsn qlt qkn qft qbf qbh qjt qot qsm qpt qpr qch qbt qpg flt np nf nc nm wr 1 (by omega)) g_Mo_96 ⟨by decide, by decide⟩ ⟨rfl, rfl⟩ rfl rfl rfl hl.1 (rest := []) (As := [.int (nI (1))]) rfl (Nat.le_of_ble_eq_true rfl) d_Mo_best_14 ⟨Nat.zero_le _, Nat.zero_le _⟩ (fun _ => rfl) (fun _ => rfl) rfl ?_
  intro r _ H locs hp5 hw
  subst hp5
  refine mg_bif_eq X 22 20 d_Mo_best_17 (by decide) rfl (fun b6 => absurd b6 (by decide)) (fun _ => ?_)
  refine mg_iconst X 21 0 d_Mo_best_20 mg_ci_0 rfl ?_
  exact mg_iret X hr hlk (rfl) (()) (rfl) hw d_Mo_best_21

set_option maxRecDepth 100000 in
set_option maxHeartbeats 4000000 in
theorem k_Mo_wouldN1 (l : Launch) (D : va_G) (K : Nat → ClassId) (mh : Nat) (qor : Nat) (qfa : Nat) (qmo : Nat) (qwt : Nat) (qrt : Nat) (qnw : Nat) (qsn : Nat) (qlt : Nat) (qkn : Nat) (qft : Nat) (qbf : Nat) (qbh : Nat) (qjt : Nat) (qot : Nat) (qsm : Nat) (qpt : Nat) (qpr : Nat) (qch : Nat) (qbt : Nat) (qpg : Nat) (flt : Nat) (np : Nat) (nf : Nat) (nc : Nat) (nm : Nat) (wr : Nat) (g1 : Int32) (k1 : Int32) (hnm4 : nm ≤ 4) (hx : ¬ mg_lt g1 (nm - 1)) : mg_Mi l D K y_Mo_would b_Mo_would 3 (.int) ({ frames := 6, cells := 0, slots := 0, locals := 151 }) [.ref (mh), .int (g1), .int (k1)] [mg_ob mh 6 [.int (nI (flt)), .int (nI (np)), .int (nI (nf)), .int (nI (nc)), .ref (qor), .ref (qfa), .ref (qmo), .int (nI (nm)), .ref (qwt), .ref (qrt), .ref (qnw), .ref (qsn), .ref (qlt), .ref (qkn), .ref (qft), .ref (qbf), .ref (qbh), .ref (qjt), .ref (qot), .ref (qsm), .ref (qpt), .ref (qpr), .ref (qch), .ref (qbt), .int (nI (wr)), .ref (qpg)]] (fun (r : Int32) (_ : Unit) => r = nI (0)) (fun (_ : Unit) => [mg_ob mh 6 [.int (nI (1)), .int (nI (np)), .int (nI (nf)), .int (nI (nc)), .ref (qor), .ref (qfa), .ref (qmo), .int (nI (nm)), .ref (qwt), .ref (qrt), .ref (qnw), .ref (qsn), .ref (qlt), .ref (qkn), .ref (qft), .ref (qbf), .ref (qbh), .ref (qjt), .ref (qot), .ref (qsm), .ref (qpt), .ref (qpr), .ref (qch), .ref (qbt), .int (nI (wr)), .ref (qpg)]]) := by
  intro sz
  refine mg_entry (Qc := fun A => va_Qi (fun (r : Int32) (_ : Unit) => r = nI (0)) (mg_B D A (fun (_ : Unit) => [mg_ob mh 6 [.int (nI (1)), .int (nI (np)), .int (nI (nf)), .int (nI (nc)), .ref (qor), .ref (qfa), .ref (qmo), .int (nI (nm)), .ref (qwt), .ref (qrt), .ref (qnw), .ref (qsn), .ref (qlt), .ref (qkn), .ref (qft), .ref (qbf), .ref (qbh), .ref (qjt), .ref (qot), .ref (qsm), .ref (qpt), .ref (qpr), .ref (qch), .ref (qbt), .int (nI (wr)), .ref (qpg)]])) A) (by decide) (Nat.le_of_ble_eq_true rfl) ?_
  intro p e s m args below meth c A ls X hr hlk hnm hA hK hw hl
  have hl : lv_has ls 3 [(0, .ref (mh)), (1, .int (g1)), (2, .int (k1))] := hl
  refine mg_aload_n X 1 d_Mo_would_0 (lv_at hl 0 rfl) rfl ?_
  refine mg_aload_n X 2 d_Mo_would_1 (lv_at hl 0 rfl) rfl ?_
  refine mg_iload_n X 3 d_Mo_would_2 (lv_at hl 1 rfl) rfl ?_
  refine mg_callVi X hK hw hA 6 [0] 0 (fun _ => [mg_ob mh 6 [.int (nI (flt)), .int (nI (np)), .int (nI (nf)), .int (nI (nc)), .ref (qor), .ref (qfa), .ref (qmo), .int (nI (nm)), .ref (qwt), .ref (qrt), .ref (qnw), .ref (qsn), .ref (qlt), .ref (qkn), .ref (qft), .ref (qbf), .ref (qbh), .ref (qjt), .ref (qot), .ref (qsm), .ref (qpt), .ref (qpr), .ref (qch), .ref (qbt), .int (nI (wr)), .ref (qpg)]]) rfl rfl (k_Mo_isGap l D K mh qor qfa qmo qwt qrt qnw qsn qlt qkn qft qbf qbh qjt qot qsm qpt qpr qch qbt qpg flt np nf nc nm wr g1 (by omega)) g_Mo_106 ⟨by decide, by decide⟩ ⟨rfl, rfl⟩ rfl rfl rfl hl.1 (rest := [.ref (mh)]) (As := [.int (g1)]) rfl (Nat.le_of_ble_eq_true rfl) d_Mo_would_3 ⟨Nat.zero_le _, Nat.zero_le _⟩ (fun _ => rfl) (fun _ => rfl) rfl ?_
  intro r _ H locs hp2 hw
  subst hp2
  refine mg_bif_ne X 13 9 d_Mo_would_6 (by decide) rfl (fun b3 => absurd b3 (hx)) (fun _ => ?_)
  refine mg_iconst X 10 1 d_Mo_would_9 mg_ci_1 rfl ?_
  refine mg_goto X 28 d_Mo_would_10 (by decide) ?_
  refine mg_callVi X hK hw hA 31 [0] 0 (fun _ => [mg_ob mh 6 [.int (nI (1)), .int (nI (np)), .int (nI (nf)), .int (nI (nc)), .ref (qor), .ref (qfa), .ref (qmo), .int (nI (nm)), .ref (qwt), .ref (qrt), .ref (qnw), .ref (qsn), .ref (qlt), .ref (qkn), .ref (qft), .ref (qbf), .ref (qbh), .ref (qjt), .ref (qot), .ref (qsm), .ref (qpt), .ref (qpr), .ref (qch), .ref (qbt), .int (nI (wr)), .ref (qpg)]]) rfl rfl (k_Mo_refused l D K mh qor qfa qmo qwt qrt qnw qsn qlt qkn qft qbf qbh qjt qot qsm qpt qpr qch qbt qpg flt np nf nc nm wr 1 (by omega)) g_Mo_96 ⟨by decide, by decide⟩ ⟨rfl, rfl⟩ rfl rfl rfl hl.1 (rest := []) (As := [.int (nI (1))]) rfl (Nat.le_of_ble_eq_true rfl) d_Mo_would_28 ⟨Nat.zero_le _, Nat.zero_le _⟩ (fun _ => rfl) (fun _ => rfl) rfl ?_
  intro r _ H locs hp5 hw
  subst hp5
  refine mg_bif_eq X 36 34 d_Mo_would_31 (by decide) rfl (fun b6 => absurd b6 (by decide)) (fun _ => ?_)
  refine mg_iconst X 35 0 d_Mo_would_34 mg_ci_0 rfl ?_
  exact mg_iret X hr hlk (rfl) (()) (rfl) hw d_Mo_would_35

set_option maxRecDepth 100000 in
set_option maxHeartbeats 4000000 in
theorem k_Mo_wouldN2 (l : Launch) (D : va_G) (K : Nat → ClassId) (mh : Nat) (qor : Nat) (qfa : Nat) (qmo : Nat) (qwt : Nat) (qrt : Nat) (qnw : Nat) (qsn : Nat) (qlt : Nat) (qkn : Nat) (qft : Nat) (qbf : Nat) (qbh : Nat) (qjt : Nat) (qot : Nat) (qsm : Nat) (qpt : Nat) (qpr : Nat) (qch : Nat) (qbt : Nat) (qpg : Nat) (flt : Nat) (np : Nat) (nf : Nat) (nc : Nat) (nm : Nat) (wr : Nat) (g1 : Nat) (k1 : Int32) (hnm4 : nm ≤ 4) (hg : g1 + 1 < nm) (hx : ¬ mg_lt k1 9) : mg_Mi l D K y_Mo_would b_Mo_would 3 (.int) ({ frames := 6, cells := 0, slots := 0, locals := 151 }) [.ref (mh), .int (nI (g1)), .int (k1)] [mg_ob mh 6 [.int (nI (flt)), .int (nI (np)), .int (nI (nf)), .int (nI (nc)), .ref (qor), .ref (qfa), .ref (qmo), .int (nI (nm)), .ref (qwt), .ref (qrt), .ref (qnw), .ref (qsn), .ref (qlt), .ref (qkn), .ref (qft), .ref (qbf), .ref (qbh), .ref (qjt), .ref (qot), .ref (qsm), .ref (qpt), .ref (qpr), .ref (qch), .ref (qbt), .int (nI (wr)), .ref (qpg)]] (fun (r : Int32) (_ : Unit) => r = nI (0)) (fun (_ : Unit) => [mg_ob mh 6 [.int (nI (2)), .int (nI (np)), .int (nI (nf)), .int (nI (nc)), .ref (qor), .ref (qfa), .ref (qmo), .int (nI (nm)), .ref (qwt), .ref (qrt), .ref (qnw), .ref (qsn), .ref (qlt), .ref (qkn), .ref (qft), .ref (qbf), .ref (qbh), .ref (qjt), .ref (qot), .ref (qsm), .ref (qpt), .ref (qpr), .ref (qch), .ref (qbt), .int (nI (wr)), .ref (qpg)]]) := by
  intro sz
  refine mg_entry (Qc := fun A => va_Qi (fun (r : Int32) (_ : Unit) => r = nI (0)) (mg_B D A (fun (_ : Unit) => [mg_ob mh 6 [.int (nI (2)), .int (nI (np)), .int (nI (nf)), .int (nI (nc)), .ref (qor), .ref (qfa), .ref (qmo), .int (nI (nm)), .ref (qwt), .ref (qrt), .ref (qnw), .ref (qsn), .ref (qlt), .ref (qkn), .ref (qft), .ref (qbf), .ref (qbh), .ref (qjt), .ref (qot), .ref (qsm), .ref (qpt), .ref (qpr), .ref (qch), .ref (qbt), .int (nI (wr)), .ref (qpg)]])) A) (by decide) (Nat.le_of_ble_eq_true rfl) ?_
  intro p e s m args below meth c A ls X hr hlk hnm hA hK hw hl
  have hl : lv_has ls 3 [(0, .ref (mh)), (1, .int (nI (g1))), (2, .int (k1))] := hl
  refine mg_aload_n X 1 d_Mo_would_0 (lv_at hl 0 rfl) rfl ?_
  refine mg_aload_n X 2 d_Mo_would_1 (lv_at hl 0 rfl) rfl ?_
  refine mg_iload_n X 3 d_Mo_would_2 (lv_at hl 1 rfl) rfl ?_
  refine mg_callVi X hK hw hA 6 [0] 0 (fun _ => [mg_ob mh 6 [.int (nI (flt)), .int (nI (np)), .int (nI (nf)), .int (nI (nc)), .ref (qor), .ref (qfa), .ref (qmo), .int (nI (nm)), .ref (qwt), .ref (qrt), .ref (qnw), .ref (qsn), .ref (qlt), .ref (qkn), .ref (qft), .ref (qbf), .ref (qbh), .ref (qjt), .ref (qot), .ref (qsm), .ref (qpt), .ref (qpr), .ref (qch), .ref (qbt), .int (nI (wr)), .ref (qpg)]]) rfl rfl (k_Mo_isGap l D K mh qor qfa qmo qwt qrt qnw qsn qlt qkn qft qbf qbh qjt qot qsm qpt qpr qch qbt qpg flt np nf nc nm wr (nI g1) (by omega)) g_Mo_106 ⟨by decide, by decide⟩ ⟨rfl, rfl⟩ rfl rfl rfl hl.1 (rest := [.ref (mh)]) (As := [.int (nI (g1))]) rfl (Nat.le_of_ble_eq_true rfl) d_Mo_would_3 ⟨Nat.zero_le _, Nat.zero_le _⟩ (fun _ => rfl) (fun _ => rfl) rfl ?_
  intro r _ H locs hp2 hw
  subst hp2
  refine mg_bif_ne X 13 9 d_Mo_would_6 (by decide) rfl (fun _ => ?_) (fun b3 => absurd (mg_lt_in (by omega)) b3)
  refine mg_iload_n X 14 d_Mo_would_13 (lv_at hl 2 rfl) rfl ?_
  refine mg_iflt_r X 23 17 d_Mo_would_14 (by decide) rfl (fun b4 => ?_) (fun j hj ej => ?_)
  · -- pc 14 t
    refine mg_iconst X 24 2 d_Mo_would_23 mg_ci_2 rfl ?_
    refine mg_goto X 28 d_Mo_would_24 (by decide) ?_
    refine mg_callVi X hK hw hA 31 [0] 0 (fun _ => [mg_ob mh 6 [.int (nI (2)), .int (nI (np)), .int (nI (nf)), .int (nI (nc)), .ref (qor), .ref (qfa), .ref (qmo), .int (nI (nm)), .ref (qwt), .ref (qrt), .ref (qnw), .ref (qsn), .ref (qlt), .ref (qkn), .ref (qft), .ref (qbf), .ref (qbh), .ref (qjt), .ref (qot), .ref (qsm), .ref (qpt), .ref (qpr), .ref (qch), .ref (qbt), .int (nI (wr)), .ref (qpg)]]) rfl rfl (k_Mo_refused l D K mh qor qfa qmo qwt qrt qnw qsn qlt qkn qft qbf qbh qjt qot qsm qpt qpr qch qbt qpg flt np nf nc nm wr 2 (by omega)) g_Mo_96 ⟨by decide, by decide⟩ ⟨rfl, rfl⟩ rfl rfl rfl hl.1 (rest := []) (As := [.int (nI (2))]) rfl (Nat.le_of_ble_eq_true rfl) d_Mo_would_28 ⟨Nat.zero_le _, Nat.zero_le _⟩ (fun _ => rfl) (fun _ => rfl) rfl ?_
    intro r _ H locs hp6 hw
    subst hp6
    refine mg_bif_eq X 36 34 d_Mo_would_31 (by decide) rfl (fun b7 => absurd b7 (by decide)) (fun _ => ?_)
    refine mg_iconst X 35 0 d_Mo_would_34 mg_ci_0 rfl ?_
    exact mg_iret X hr hlk (rfl) (()) (rfl) hw d_Mo_would_35
  · -- pc 14 f
    subst ej
    refine mg_iload_n X 18 d_Mo_would_17 (lv_at hl 2 rfl) rfl ?_
    refine mg_bipush X 20 8 d_Mo_would_18 mg_cb_8 rfl ?_
    refine mg_icmp_le X 27 23 (by omega) (by omega) d_Mo_would_20 (by decide) rfl (fun h8 => ?_) (fun h8 => ?_)
    · -- pc 20 t
      exact absurd (mg_lt_in (show j < 9 by omega)) hx
    · -- pc 20 f
      refine mg_iconst X 24 2 d_Mo_would_23 mg_ci_2 rfl ?_
      refine mg_goto X 28 d_Mo_would_24 (by decide) ?_
      refine mg_callVi X hK hw hA 31 [0] 0 (fun _ => [mg_ob mh 6 [.int (nI (2)), .int (nI (np)), .int (nI (nf)), .int (nI (nc)), .ref (qor), .ref (qfa), .ref (qmo), .int (nI (nm)), .ref (qwt), .ref (qrt), .ref (qnw), .ref (qsn), .ref (qlt), .ref (qkn), .ref (qft), .ref (qbf), .ref (qbh), .ref (qjt), .ref (qot), .ref (qsm), .ref (qpt), .ref (qpr), .ref (qch), .ref (qbt), .int (nI (wr)), .ref (qpg)]]) rfl rfl (k_Mo_refused l D K mh qor qfa qmo qwt qrt qnw qsn qlt qkn qft qbf qbh qjt qot qsm qpt qpr qch qbt qpg flt np nf nc nm wr 2 (by omega)) g_Mo_96 ⟨by decide, by decide⟩ ⟨rfl, rfl⟩ rfl rfl rfl hl.1 (rest := []) (As := [.int (nI (2))]) rfl (Nat.le_of_ble_eq_true rfl) d_Mo_would_28 ⟨Nat.zero_le _, Nat.zero_le _⟩ (fun _ => rfl) (fun _ => rfl) rfl ?_
      intro r _ H locs hp9 hw
      subst hp9
      refine mg_bif_eq X 36 34 d_Mo_would_31 (by decide) rfl (fun b10 => absurd b10 (by decide)) (fun _ => ?_)
      refine mg_iconst X 35 0 d_Mo_would_34 mg_ci_0 rfl ?_
      exact mg_iret X hr hlk (rfl) (()) (rfl) hw d_Mo_would_35

set_option maxRecDepth 100000 in
set_option maxHeartbeats 4000000 in
theorem k_Mo_jointN (l : Launch) (D : va_G) (K : Nat → ClassId) (mh : Nat) (qor : Nat) (qfa : Nat) (qmo : Nat) (qwt : Nat) (qrt : Nat) (qnw : Nat) (qsn : Nat) (qlt : Nat) (qkn : Nat) (qft : Nat) (qbf : Nat) (qbh : Nat) (qjt : Nat) (qot : Nat) (qsm : Nat) (qpt : Nat) (qpr : Nat) (qch : Nat) (qbt : Nat) (qpg : Nat) (flt : Nat) (np : Nat) (nf : Nat) (nc : Nat) (nm : Nat) (wr : Nat) (hx : nm = 0) : mg_Mi l D K y_Mo_joint b_Mo_joint 5 (.int) ({ frames := 6, cells := 0, slots := 0, locals := 151 }) [.ref (mh)] [mg_ob mh 6 [.int (nI (flt)), .int (nI (np)), .int (nI (nf)), .int (nI (nc)), .ref (qor), .ref (qfa), .ref (qmo), .int (nI (nm)), .ref (qwt), .ref (qrt), .ref (qnw), .ref (qsn), .ref (qlt), .ref (qkn), .ref (qft), .ref (qbf), .ref (qbh), .ref (qjt), .ref (qot), .ref (qsm), .ref (qpt), .ref (qpr), .ref (qch), .ref (qbt), .int (nI (wr)), .ref (qpg)]] (fun (r : Int32) (_ : Unit) => r = nI (0)) (fun (_ : Unit) => [mg_ob mh 6 [.int (nI (1)), .int (nI (np)), .int (nI (nf)), .int (nI (nc)), .ref (qor), .ref (qfa), .ref (qmo), .int (nI (nm)), .ref (qwt), .ref (qrt), .ref (qnw), .ref (qsn), .ref (qlt), .ref (qkn), .ref (qft), .ref (qbf), .ref (qbh), .ref (qjt), .ref (qot), .ref (qsm), .ref (qpt), .ref (qpr), .ref (qch), .ref (qbt), .int (nI (wr)), .ref (qpg)]]) := by
  intro sz
  refine mg_entry (Qc := fun A => va_Qi (fun (r : Int32) (_ : Unit) => r = nI (0)) (mg_B D A (fun (_ : Unit) => [mg_ob mh 6 [.int (nI (1)), .int (nI (np)), .int (nI (nf)), .int (nI (nc)), .ref (qor), .ref (qfa), .ref (qmo), .int (nI (nm)), .ref (qwt), .ref (qrt), .ref (qnw), .ref (qsn), .ref (qlt), .ref (qkn), .ref (qft), .ref (qbf), .ref (qbh), .ref (qjt), .ref (qot), .ref (qsm), .ref (qpt), .ref (qpr), .ref (qch), .ref (qbt), .int (nI (wr)), .ref (qpg)]])) A) (by decide) (Nat.le_of_ble_eq_true rfl) ?_
  intro p e s m args below meth c A ls X hr hlk hnm hA hK hw hl
  have hl : lv_has ls 5 [(0, .ref (mh))] := hl
  refine mg_aload_n X 1 d_Mo_joint_0 (lv_at hl 0 rfl) rfl ?_
  refine mg_aload_n X 2 d_Mo_joint_1 (lv_at hl 0 rfl) rfl ?_
  refine mg_get X hK hw 5 0 7 f_Mo_83 rfl rfl d_Mo_joint_2 rfl ?_
  refine mg_if_ne X 12 8 (by omega) d_Mo_joint_5 (by decide) rfl (fun b1 => absurd b1 (by omega)) (fun b1 => ?_)
  refine mg_iconst X 9 1 d_Mo_joint_8 mg_ci_1 rfl ?_
  refine mg_goto X 13 d_Mo_joint_9 (by decide) ?_
  refine mg_callVi X hK hw hA 16 [0] 0 (fun _ => [mg_ob mh 6 [.int (nI (1)), .int (nI (np)), .int (nI (nf)), .int (nI (nc)), .ref (qor), .ref (qfa), .ref (qmo), .int (nI (nm)), .ref (qwt), .ref (qrt), .ref (qnw), .ref (qsn), .ref (qlt), .ref (qkn), .ref (qft), .ref (qbf), .ref (qbh), .ref (qjt), .ref (qot), .ref (qsm), .ref (qpt), .ref (qpr), .ref (qch), .ref (qbt), .int (nI (wr)), .ref (qpg)]]) rfl rfl (k_Mo_refused l D K mh qor qfa qmo qwt qrt qnw qsn qlt qkn qft qbf qbh qjt qot qsm qpt qpr qch qbt qpg flt np nf nc nm wr 1 (by omega)) g_Mo_96 ⟨by decide, by decide⟩ ⟨rfl, rfl⟩ rfl rfl rfl hl.1 (rest := []) (As := [.int (nI (1))]) rfl (Nat.le_of_ble_eq_true rfl) d_Mo_joint_13 ⟨Nat.zero_le _, Nat.zero_le _⟩ (fun _ => rfl) (fun _ => rfl) rfl ?_
  intro r _ H locs hp3 hw
  subst hp3
  refine mg_bif_eq X 21 19 d_Mo_joint_16 (by decide) rfl (fun b4 => absurd b4 (by decide)) (fun _ => ?_)
  refine mg_iconst X 20 0 d_Mo_joint_19 mg_ci_0 rfl ?_
  exact mg_iret X hr hlk (rfl) (()) (rfl) hw d_Mo_joint_20

set_option maxRecDepth 100000 in
set_option maxHeartbeats 4000000 in
theorem k_Mo_oddsN1 (l : Launch) (D : va_G) (K : Nat → ClassId) (mh : Nat) (qor : Nat) (qfa : Nat) (qmo : Nat) (qwt : Nat) (qrt : Nat) (qnw : Nat) (qsn : Nat) (qlt : Nat) (qkn : Nat) (qft : Nat) (qbf : Nat) (qbh : Nat) (qjt : Nat) (qot : Nat) (qsm : Nat) (qpt : Nat) (qpr : Nat) (qch : Nat) (qbt : Nat) (qpg : Nat) (flt : Nat) (np : Nat) (nf : Nat) (nc : Nat) (nm : Nat) (wr : Nat) (n1 : Int32) (hx : ¬ mg_bt n1 1 1000) : mg_Mi l D K y_Mo_odds b_Mo_odds 3 (.int) ({ frames := 6, cells := 0, slots := 0, locals := 151 }) [.ref (mh), .int (n1)] [mg_ob mh 6 [.int (nI (flt)), .int (nI (np)), .int (nI (nf)), .int (nI (nc)), .ref (qor), .ref (qfa), .ref (qmo), .int (nI (nm)), .ref (qwt), .ref (qrt), .ref (qnw), .ref (qsn), .ref (qlt), .ref (qkn), .ref (qft), .ref (qbf), .ref (qbh), .ref (qjt), .ref (qot), .ref (qsm), .ref (qpt), .ref (qpr), .ref (qch), .ref (qbt), .int (nI (wr)), .ref (qpg)]] (fun (r : Int32) (_ : Unit) => r = nI (0)) (fun (_ : Unit) => [mg_ob mh 6 [.int (nI (1)), .int (nI (np)), .int (nI (nf)), .int (nI (nc)), .ref (qor), .ref (qfa), .ref (qmo), .int (nI (nm)), .ref (qwt), .ref (qrt), .ref (qnw), .ref (qsn), .ref (qlt), .ref (qkn), .ref (qft), .ref (qbf), .ref (qbh), .ref (qjt), .ref (qot), .ref (qsm), .ref (qpt), .ref (qpr), .ref (qch), .ref (qbt), .int (nI (wr)), .ref (qpg)]]) := by
  intro sz
  refine mg_entry (Qc := fun A => va_Qi (fun (r : Int32) (_ : Unit) => r = nI (0)) (mg_B D A (fun (_ : Unit) => [mg_ob mh 6 [.int (nI (1)), .int (nI (np)), .int (nI (nf)), .int (nI (nc)), .ref (qor), .ref (qfa), .ref (qmo), .int (nI (nm)), .ref (qwt), .ref (qrt), .ref (qnw), .ref (qsn), .ref (qlt), .ref (qkn), .ref (qft), .ref (qbf), .ref (qbh), .ref (qjt), .ref (qot), .ref (qsm), .ref (qpt), .ref (qpr), .ref (qch), .ref (qbt), .int (nI (wr)), .ref (qpg)]])) A) (by decide) (Nat.le_of_ble_eq_true rfl) ?_
  intro p e s m args below meth c A ls X hr hlk hnm hA hK hw hl
  have hl : lv_has ls 3 [(0, .ref (mh)), (1, .int (n1))] := hl
  refine mg_aload_n X 1 d_Mo_odds_0 (lv_at hl 0 rfl) rfl ?_
  refine mg_iload_n X 2 d_Mo_odds_1 (lv_at hl 1 rfl) rfl ?_
  refine mg_iconst X 3 1 d_Mo_odds_2 mg_ci_1 rfl ?_
  refine mg_icl_r X 13 6 (by decide) d_Mo_odds_3 (by decide) rfl (fun hlo => ?_) (fun j lj hj ej => ?_)
  · -- pc 3 t
    refine mg_iconst X 14 1 d_Mo_odds_13 mg_ci_1 rfl ?_
    refine mg_goto X 29 d_Mo_odds_14 (by decide) ?_
    refine mg_callVi X hK hw hA 32 [0] 0 (fun _ => [mg_ob mh 6 [.int (nI (1)), .int (nI (np)), .int (nI (nf)), .int (nI (nc)), .ref (qor), .ref (qfa), .ref (qmo), .int (nI (nm)), .ref (qwt), .ref (qrt), .ref (qnw), .ref (qsn), .ref (qlt), .ref (qkn), .ref (qft), .ref (qbf), .ref (qbh), .ref (qjt), .ref (qot), .ref (qsm), .ref (qpt), .ref (qpr), .ref (qch), .ref (qbt), .int (nI (wr)), .ref (qpg)]]) rfl rfl (k_Mo_refused l D K mh qor qfa qmo qwt qrt qnw qsn qlt qkn qft qbf qbh qjt qot qsm qpt qpr qch qbt qpg flt np nf nc nm wr 1 (by omega)) g_Mo_96 ⟨by decide, by decide⟩ ⟨rfl, rfl⟩ rfl rfl rfl hl.1 (rest := []) (As := [.int (nI (1))]) rfl (Nat.le_of_ble_eq_true rfl) d_Mo_odds_29 ⟨Nat.zero_le _, Nat.zero_le _⟩ (fun _ => rfl) (fun _ => rfl) rfl ?_
    intro r _ H locs hp2 hw
    subst hp2
    refine mg_bif_eq X 37 35 d_Mo_odds_32 (by decide) rfl (fun b3 => absurd b3 (by decide)) (fun _ => ?_)
    refine mg_iconst X 36 0 d_Mo_odds_35 mg_ci_0 rfl ?_
    exact mg_iret X hr hlk (rfl) (()) (rfl) hw d_Mo_odds_36
  · -- pc 3 f
    subst ej
    refine mg_iload_n X 7 d_Mo_odds_6 (lv_at hl 1 rfl) rfl ?_
    refine mg_sipush X 10 1000 d_Mo_odds_7 mg_cs_1000 rfl ?_
    refine mg_icmp_le X 17 13 (by omega) (by omega) d_Mo_odds_10 (by decide) rfl (fun h9 => ?_) (fun h9 => ?_)
    · -- pc 10 t
      exact absurd (mg_bt_in lj h9) hx
    · -- pc 10 f
      refine mg_iconst X 14 1 d_Mo_odds_13 mg_ci_1 rfl ?_
      refine mg_goto X 29 d_Mo_odds_14 (by decide) ?_
      refine mg_callVi X hK hw hA 32 [0] 0 (fun _ => [mg_ob mh 6 [.int (nI (1)), .int (nI (np)), .int (nI (nf)), .int (nI (nc)), .ref (qor), .ref (qfa), .ref (qmo), .int (nI (nm)), .ref (qwt), .ref (qrt), .ref (qnw), .ref (qsn), .ref (qlt), .ref (qkn), .ref (qft), .ref (qbf), .ref (qbh), .ref (qjt), .ref (qot), .ref (qsm), .ref (qpt), .ref (qpr), .ref (qch), .ref (qbt), .int (nI (wr)), .ref (qpg)]]) rfl rfl (k_Mo_refused l D K mh qor qfa qmo qwt qrt qnw qsn qlt qkn qft qbf qbh qjt qot qsm qpt qpr qch qbt qpg flt np nf nc nm wr 1 (by omega)) g_Mo_96 ⟨by decide, by decide⟩ ⟨rfl, rfl⟩ rfl rfl rfl hl.1 (rest := []) (As := [.int (nI (1))]) rfl (Nat.le_of_ble_eq_true rfl) d_Mo_odds_29 ⟨Nat.zero_le _, Nat.zero_le _⟩ (fun _ => rfl) (fun _ => rfl) rfl ?_
      intro r _ H locs hp5 hw
      subst hp5
      refine mg_bif_eq X 37 35 d_Mo_odds_32 (by decide) rfl (fun b6 => absurd b6 (by decide)) (fun _ => ?_)
      refine mg_iconst X 36 0 d_Mo_odds_35 mg_ci_0 rfl ?_
      exact mg_iret X hr hlk (rfl) (()) (rfl) hw d_Mo_odds_36

set_option maxRecDepth 100000 in
set_option maxHeartbeats 4000000 in
theorem k_Mo_oddsN2 (l : Launch) (D : va_G) (K : Nat → ClassId) (mh : Nat) (qor : Nat) (qfa : Nat) (qmo : Nat) (qwt : Nat) (qrt : Nat) (qnw : Nat) (qsn : Nat) (qlt : Nat) (qkn : Nat) (qft : Nat) (qbf : Nat) (qbh : Nat) (qjt : Nat) (qot : Nat) (qsm : Nat) (qpt : Nat) (qpr : Nat) (qch : Nat) (qbt : Nat) (qpg : Nat) (flt : Nat) (np : Nat) (nf : Nat) (nc : Nat) (nm : Nat) (wr : Nat) (n1 : Nat) (hn1 : 1 ≤ n1 ∧ n1 ≤ 1000) (hx : nm = 0) : mg_Mi l D K y_Mo_odds b_Mo_odds 3 (.int) ({ frames := 6, cells := 0, slots := 0, locals := 151 }) [.ref (mh), .int (nI (n1))] [mg_ob mh 6 [.int (nI (flt)), .int (nI (np)), .int (nI (nf)), .int (nI (nc)), .ref (qor), .ref (qfa), .ref (qmo), .int (nI (nm)), .ref (qwt), .ref (qrt), .ref (qnw), .ref (qsn), .ref (qlt), .ref (qkn), .ref (qft), .ref (qbf), .ref (qbh), .ref (qjt), .ref (qot), .ref (qsm), .ref (qpt), .ref (qpr), .ref (qch), .ref (qbt), .int (nI (wr)), .ref (qpg)]] (fun (r : Int32) (_ : Unit) => r = nI (0)) (fun (_ : Unit) => [mg_ob mh 6 [.int (nI (2)), .int (nI (np)), .int (nI (nf)), .int (nI (nc)), .ref (qor), .ref (qfa), .ref (qmo), .int (nI (nm)), .ref (qwt), .ref (qrt), .ref (qnw), .ref (qsn), .ref (qlt), .ref (qkn), .ref (qft), .ref (qbf), .ref (qbh), .ref (qjt), .ref (qot), .ref (qsm), .ref (qpt), .ref (qpr), .ref (qch), .ref (qbt), .int (nI (wr)), .ref (qpg)]]) := by
  intro sz
  refine mg_entry (Qc := fun A => va_Qi (fun (r : Int32) (_ : Unit) => r = nI (0)) (mg_B D A (fun (_ : Unit) => [mg_ob mh 6 [.int (nI (2)), .int (nI (np)), .int (nI (nf)), .int (nI (nc)), .ref (qor), .ref (qfa), .ref (qmo), .int (nI (nm)), .ref (qwt), .ref (qrt), .ref (qnw), .ref (qsn), .ref (qlt), .ref (qkn), .ref (qft), .ref (qbf), .ref (qbh), .ref (qjt), .ref (qot), .ref (qsm), .ref (qpt), .ref (qpr), .ref (qch), .ref (qbt), .int (nI (wr)), .ref (qpg)]])) A) (by decide) (Nat.le_of_ble_eq_true rfl) ?_
  intro p e s m args below meth c A ls X hr hlk hnm hA hK hw hl
  have hl : lv_has ls 3 [(0, .ref (mh)), (1, .int (nI (n1)))] := hl
  refine mg_aload_n X 1 d_Mo_odds_0 (lv_at hl 0 rfl) rfl ?_
  refine mg_iload_n X 2 d_Mo_odds_1 (lv_at hl 1 rfl) rfl ?_
  refine mg_iconst X 3 1 d_Mo_odds_2 mg_ci_1 rfl ?_
  refine mg_icmp_lt X 13 6 (by omega) (by omega) d_Mo_odds_3 (by decide) rfl (fun b1 => absurd b1 (by omega)) (fun b1 => ?_)
  refine mg_iload_n X 7 d_Mo_odds_6 (lv_at hl 1 rfl) rfl ?_
  refine mg_sipush X 10 1000 d_Mo_odds_7 mg_cs_1000 rfl ?_
  refine mg_icmp_le X 17 13 (by omega) (by omega) d_Mo_odds_10 (by decide) rfl (fun b2 => ?_) (fun b2 => absurd b2 (by omega))
  refine mg_aload_n X 18 d_Mo_odds_17 (lv_at hl 0 rfl) rfl ?_
  refine mg_get X hK hw 21 0 7 f_Mo_83 rfl rfl d_Mo_odds_18 rfl ?_
  refine mg_if_ne X 28 24 (by omega) d_Mo_odds_21 (by decide) rfl (fun b3 => absurd b3 (by omega)) (fun b3 => ?_)
  refine mg_iconst X 25 2 d_Mo_odds_24 mg_ci_2 rfl ?_
  refine mg_goto X 29 d_Mo_odds_25 (by decide) ?_
  refine mg_callVi X hK hw hA 32 [0] 0 (fun _ => [mg_ob mh 6 [.int (nI (2)), .int (nI (np)), .int (nI (nf)), .int (nI (nc)), .ref (qor), .ref (qfa), .ref (qmo), .int (nI (nm)), .ref (qwt), .ref (qrt), .ref (qnw), .ref (qsn), .ref (qlt), .ref (qkn), .ref (qft), .ref (qbf), .ref (qbh), .ref (qjt), .ref (qot), .ref (qsm), .ref (qpt), .ref (qpr), .ref (qch), .ref (qbt), .int (nI (wr)), .ref (qpg)]]) rfl rfl (k_Mo_refused l D K mh qor qfa qmo qwt qrt qnw qsn qlt qkn qft qbf qbh qjt qot qsm qpt qpr qch qbt qpg flt np nf nc nm wr 2 (by omega)) g_Mo_96 ⟨by decide, by decide⟩ ⟨rfl, rfl⟩ rfl rfl rfl hl.1 (rest := []) (As := [.int (nI (2))]) rfl (Nat.le_of_ble_eq_true rfl) d_Mo_odds_29 ⟨Nat.zero_le _, Nat.zero_le _⟩ (fun _ => rfl) (fun _ => rfl) rfl ?_
  intro r _ H locs hp5 hw
  subst hp5
  refine mg_bif_eq X 37 35 d_Mo_odds_32 (by decide) rfl (fun b6 => absurd b6 (by decide)) (fun _ => ?_)
  refine mg_iconst X 36 0 d_Mo_odds_35 mg_ci_0 rfl ?_
  exact mg_iret X hr hlk (rfl) (()) (rfl) hw d_Mo_odds_36

set_option maxRecDepth 100000 in
set_option maxHeartbeats 4000000 in
theorem k_Mo_turned (l : Launch) (D : va_G) (K : Nat → ClassId) (mh : Nat) (qor : Nat) (qfa : Nat) (qmo : Nat) (qwt : Nat) (qrt : Nat) (qnw : Nat) (qsn : Nat) (qlt : Nat) (qkn : Nat) (qft : Nat) (qbf : Nat) (qbh : Nat) (qjt : Nat) (qot : Nat) (qsm : Nat) (qpt : Nat) (qpr : Nat) (qch : Nat) (qbt : Nat) (qpg : Nat) (flt : Nat) (np : Nat) (nf : Nat) (nc : Nat) (nm : Nat) (wr : Nat) (rk : Nat → Nat) (fa : Nat → Nat) (mo : Nat → Nat) (mw : Nat → Nat) (sn : Nat → Nat) (lt : Nat → Nat) (wt : Nat → Nat) (ol : Nat → Nat) (tl : Nat → Nat) (kn : Nat → Nat) (ftb : Nat → Nat) (mr : Nat → Nat) (nw : Nat → Nat) (dB : Nat → Nat) (VB : Nat → Nat) (dE : Nat → Nat) (VE : Nat → Nat) (dJ : Nat → Nat) (VJ : Nat → Nat) (dS : Nat → Nat) (VS : Nat → Nat) (ch : Nat → Nat) (bt : Nat → Nat) (dO : Nat → Nat) (VO : Nat → Nat) (dP : Nat → Nat) (VP : Nat → Nat) (dQ : Nat → Nat) (VQ : Nat → Nat) (mk : Nat) (bi : Nat) (hF0 : fm_ok nf nc fa mo rk) (hnp : np = nf + nc) (hS : sn_ok ol tl) (hcd : ∀ q i, q < 6 → i < 4 → sn (4 * q + i) = mo_cd (ol (i * 6 + q)) (tl (i * 6 + q))) (hmw : ∀ i l, i < nm → 1 ≤ l → l ≤ 3 → mw (4 * i + l) = ma_wt wt i l) (hW8 : ∀ i, i < nm → ma_wt wt i 1 + ma_wt wt i 2 + ma_wt wt i 3 = 8) (hm4 : nm ≤ 4) (hkn : mo_kn nm (2 ^ (2 * nc)) kn ftb (fi_fit wt ol tl fa mo rk nf nc)) (hbt : ∀ x, x < 64 → bt x = li_bc 6 x) (hn16 : ∀ i, i < 4 → mr i ≤ 16) (hFb : ∀ i w, i < nm → w < 2 ^ (2 * nc) → fi_fit wt ol tl fa mo rk nf nc i w ≤ 2 ^ 18) (hRB : li_R 2048 dB VB) (hRE : li_R 2048 dE VE) (hRJ : li_R 8 dJ VJ) (hRS : li_R 8 dS VS) (hRO : li_R 8 dO VO) (hRP : li_R 8 dP VP) (hRQ : li_R 17 dQ VQ) (hm : mk < nm) (hbi : bi < 2 * nc) : mg_Mi l D K y_Mo_turned b_Mo_turned 4 (.int) ({ frames := 8, cells := 0, slots := 0, locals := 197 }) [.ref (mh), .int (nI (mk)), .int (nI (bi))] [mg_ob mh 6 [.int (nI (flt)), .int (nI (np)), .int (nI (nf)), .int (nI (nc)), .ref (qor), .ref (qfa), .ref (qmo), .int (nI (nm)), .ref (qwt), .ref (qrt), .ref (qnw), .ref (qsn), .ref (qlt), .ref (qkn), .ref (qft), .ref (qbf), .ref (qbh), .ref (qjt), .ref (qot), .ref (qsm), .ref (qpt), .ref (qpr), .ref (qch), .ref (qbt), .int (nI (wr)), .ref (qpg)], mg_ai K qor 6 rk, mg_ai K qfa 6 fa, mg_ai K qmo 6 mo, mg_ai K qwt 16 mw, mg_ai K qsn 24 sn, mg_ai K qlt 6 lt, mg_az K qkn 4 kn, mg_ai K qft 256 ftb, mg_ai K qrt 4 mr, mg_ai K qnw 4 nw, mg_al K qbf 2048 dB, mg_al K qbh 2048 dE, mg_al K qjt 8 dJ, mg_al K qsm 8 dS, mg_al K qch 7 ch, mg_ai K qbt 64 bt, mg_al K qot 8 dO, mg_al K qpt 8 dP, mg_al K qpr 17 dQ] (fun (r : Int32) (uu : (Nat → Nat) × (Nat → Nat) × (Nat → Nat) × (Nat → Nat) × (Nat → Nat) × (Nat → Nat) × (Nat → Nat) × (Nat → Nat) × (Nat → Nat) × (Nat → Nat) × (Nat → Nat) × (Nat → Nat) × (Nat → Nat) × (Nat → Nat) × (Nat → Nat) × (Nat → Nat) × (Nat → Nat) × (Nat → Nat)) => r = nI (su_quot (su_pick (fun w => w / 2 ^ bi % 2 = 1) (jn_pt (2 * nc) (su_pt mr nw 4) (fi_fit wt ol tl fa mo rk nf nc) (nm - 1) mk) (2 ^ (2 * nc))) 1000 (jn_J (2 * nc) (su_pt mr nw 4) (fi_fit wt ol tl fa mo rk nf nc) (nm - 1))) ∧ li_R 2048 uu.2.2.2.1 uu.2.2.2.2.1 ∧ li_R 2048 uu.2.2.2.2.2.1 uu.2.2.2.2.2.2.1 ∧ li_R 8 uu.2.2.2.2.2.2.2.2.2.2.1 uu.2.2.2.2.2.2.2.2.2.2.2.1 ∧ li_R 8 uu.2.2.2.2.2.2.2.1 uu.2.2.2.2.2.2.2.2.1 ∧ li_R 8 uu.2.2.2.2.2.2.2.2.2.2.2.2.1 uu.2.2.2.2.2.2.2.2.2.2.2.2.2.1 ∧ li_R 8 uu.2.2.2.2.2.2.2.2.2.2.2.2.2.2.1 uu.2.2.2.2.2.2.2.2.2.2.2.2.2.2.2.1 ∧ li_R 17 uu.2.2.2.2.2.2.2.2.2.2.2.2.2.2.2.2.1 uu.2.2.2.2.2.2.2.2.2.2.2.2.2.2.2.2.2 ∧ mo_kn nm (2 ^ (2 * nc)) uu.2.1 uu.2.2.1 (fi_fit wt ol tl fa mo rk nf nc)) (fun (uu : (Nat → Nat) × (Nat → Nat) × (Nat → Nat) × (Nat → Nat) × (Nat → Nat) × (Nat → Nat) × (Nat → Nat) × (Nat → Nat) × (Nat → Nat) × (Nat → Nat) × (Nat → Nat) × (Nat → Nat) × (Nat → Nat) × (Nat → Nat) × (Nat → Nat) × (Nat → Nat) × (Nat → Nat) × (Nat → Nat)) => [mg_ob mh 6 [.int (nI (0)), .int (nI (np)), .int (nI (nf)), .int (nI (nc)), .ref (qor), .ref (qfa), .ref (qmo), .int (nI (nm)), .ref (qwt), .ref (qrt), .ref (qnw), .ref (qsn), .ref (qlt), .ref (qkn), .ref (qft), .ref (qbf), .ref (qbh), .ref (qjt), .ref (qot), .ref (qsm), .ref (qpt), .ref (qpr), .ref (qch), .ref (qbt), .int (nI (wr)), .ref (qpg)], mg_ai K qor 6 rk, mg_ai K qfa 6 fa, mg_ai K qmo 6 mo, mg_ai K qwt 16 mw, mg_ai K qsn 24 sn, mg_ai K qlt 6 uu.1, mg_az K qkn 4 uu.2.1, mg_ai K qft 256 uu.2.2.1, mg_ai K qrt 4 mr, mg_ai K qnw 4 (su_pt mr nw 4), mg_al K qbf 2048 uu.2.2.2.1, mg_al K qbh 2048 uu.2.2.2.2.2.1, mg_al K qjt 8 uu.2.2.2.2.2.2.2.2.2.2.1, mg_al K qsm 8 uu.2.2.2.2.2.2.2.1, mg_al K qch 7 uu.2.2.2.2.2.2.2.2.2.1, mg_ai K qbt 64 bt, mg_al K qot 8 uu.2.2.2.2.2.2.2.2.2.2.2.2.1, mg_al K qpt 8 uu.2.2.2.2.2.2.2.2.2.2.2.2.2.2.1, mg_al K qpr 17 uu.2.2.2.2.2.2.2.2.2.2.2.2.2.2.2.2.1]) := by
  intro sz
  refine mg_entry (Qc := fun A => va_Qi (fun (r : Int32) (uu : (Nat → Nat) × (Nat → Nat) × (Nat → Nat) × (Nat → Nat) × (Nat → Nat) × (Nat → Nat) × (Nat → Nat) × (Nat → Nat) × (Nat → Nat) × (Nat → Nat) × (Nat → Nat) × (Nat → Nat) × (Nat → Nat) × (Nat → Nat) × (Nat → Nat) × (Nat → Nat) × (Nat → Nat) × (Nat → Nat)) => r = nI (su_quot (su_pick (fun w => w / 2 ^ bi % 2 = 1) (jn_pt (2 * nc) (su_pt mr nw 4) (fi_fit wt ol tl fa mo rk nf nc) (nm - 1) mk) (2 ^ (2 * nc))) 1000 (jn_J (2 * nc) (su_pt mr nw 4) (fi_fit wt ol tl fa mo rk nf nc) (nm - 1))) ∧ li_R 2048 uu.2.2.2.1 uu.2.2.2.2.1 ∧ li_R 2048 uu.2.2.2.2.2.1 uu.2.2.2.2.2.2.1 ∧ li_R 8 uu.2.2.2.2.2.2.2.2.2.2.1 uu.2.2.2.2.2.2.2.2.2.2.2.1 ∧ li_R 8 uu.2.2.2.2.2.2.2.1 uu.2.2.2.2.2.2.2.2.1 ∧ li_R 8 uu.2.2.2.2.2.2.2.2.2.2.2.2.1 uu.2.2.2.2.2.2.2.2.2.2.2.2.2.1 ∧ li_R 8 uu.2.2.2.2.2.2.2.2.2.2.2.2.2.2.1 uu.2.2.2.2.2.2.2.2.2.2.2.2.2.2.2.1 ∧ li_R 17 uu.2.2.2.2.2.2.2.2.2.2.2.2.2.2.2.2.1 uu.2.2.2.2.2.2.2.2.2.2.2.2.2.2.2.2.2 ∧ mo_kn nm (2 ^ (2 * nc)) uu.2.1 uu.2.2.1 (fi_fit wt ol tl fa mo rk nf nc)) (mg_B D A (fun (uu : (Nat → Nat) × (Nat → Nat) × (Nat → Nat) × (Nat → Nat) × (Nat → Nat) × (Nat → Nat) × (Nat → Nat) × (Nat → Nat) × (Nat → Nat) × (Nat → Nat) × (Nat → Nat) × (Nat → Nat) × (Nat → Nat) × (Nat → Nat) × (Nat → Nat) × (Nat → Nat) × (Nat → Nat) × (Nat → Nat)) => [mg_ob mh 6 [.int (nI (0)), .int (nI (np)), .int (nI (nf)), .int (nI (nc)), .ref (qor), .ref (qfa), .ref (qmo), .int (nI (nm)), .ref (qwt), .ref (qrt), .ref (qnw), .ref (qsn), .ref (qlt), .ref (qkn), .ref (qft), .ref (qbf), .ref (qbh), .ref (qjt), .ref (qot), .ref (qsm), .ref (qpt), .ref (qpr), .ref (qch), .ref (qbt), .int (nI (wr)), .ref (qpg)], mg_ai K qor 6 rk, mg_ai K qfa 6 fa, mg_ai K qmo 6 mo, mg_ai K qwt 16 mw, mg_ai K qsn 24 sn, mg_ai K qlt 6 uu.1, mg_az K qkn 4 uu.2.1, mg_ai K qft 256 uu.2.2.1, mg_ai K qrt 4 mr, mg_ai K qnw 4 (su_pt mr nw 4), mg_al K qbf 2048 uu.2.2.2.1, mg_al K qbh 2048 uu.2.2.2.2.2.1, mg_al K qjt 8 uu.2.2.2.2.2.2.2.2.2.2.1, mg_al K qsm 8 uu.2.2.2.2.2.2.2.1, mg_al K qch 7 uu.2.2.2.2.2.2.2.2.2.1, mg_ai K qbt 64 bt, mg_al K qot 8 uu.2.2.2.2.2.2.2.2.2.2.2.2.1, mg_al K qpt 8 uu.2.2.2.2.2.2.2.2.2.2.2.2.2.2.1, mg_al K qpr 17 uu.2.2.2.2.2.2.2.2.2.2.2.2.2.2.2.2.1])) A) (by decide) (Nat.le_of_ble_eq_true rfl) ?_
  intro p e s m args below meth c A ls X hr hlk hnm hA hK hw hl
  have hl : lv_has ls 4 [(0, .ref (mh)), (1, .int (nI (mk))), (2, .int (nI (bi)))] := hl
  have hf1 := hF0.1
  have hf2 := hF0.2.1
  have hw6 := mg_ways hf2
  refine mg_aload_n X 1 d_Mo_turned_0 (lv_at hl 0 rfl) rfl ?_
  refine mg_iload_n X 2 d_Mo_turned_1 (lv_at hl 1 rfl) rfl ?_
  refine mg_callVi X hK hw hA 5 [0] 0 (fun _ => [mg_ob mh 6 [.int (nI (flt)), .int (nI (np)), .int (nI (nf)), .int (nI (nc)), .ref (qor), .ref (qfa), .ref (qmo), .int (nI (nm)), .ref (qwt), .ref (qrt), .ref (qnw), .ref (qsn), .ref (qlt), .ref (qkn), .ref (qft), .ref (qbf), .ref (qbh), .ref (qjt), .ref (qot), .ref (qsm), .ref (qpt), .ref (qpr), .ref (qch), .ref (qbt), .int (nI (wr)), .ref (qpg)], mg_ai K qor 6 rk, mg_ai K qfa 6 fa, mg_ai K qmo 6 mo, mg_ai K qwt 16 mw, mg_ai K qsn 24 sn, mg_ai K qlt 6 lt, mg_az K qkn 4 kn, mg_ai K qft 256 ftb, mg_ai K qrt 4 mr, mg_ai K qnw 4 nw, mg_al K qbf 2048 dB, mg_al K qbh 2048 dE, mg_al K qjt 8 dJ, mg_al K qsm 8 dS, mg_al K qch 7 ch, mg_ai K qbt 64 bt, mg_al K qot 8 dO, mg_al K qpt 8 dP, mg_al K qpr 17 dQ]) rfl rfl (k_Mo_isMarker l D K mh qor qfa qmo qwt qrt qnw qsn qlt qkn qft qbf qbh qjt qot qsm qpt qpr qch qbt qpg flt np nf nc nm wr (nI mk) (hm4)) g_Mo_109 ⟨by decide, by decide⟩ ⟨rfl, rfl⟩ rfl rfl rfl hl.1 (rest := []) (As := [.int (nI (mk))]) rfl (Nat.le_of_ble_eq_true rfl) d_Mo_turned_2 ⟨Nat.zero_le _, Nat.zero_le _⟩ (fun _ => rfl) (fun _ => rfl) rfl ?_
  intro r _ H locs hp2 hw
  subst hp2
  refine mg_bif_eq X 26 8 d_Mo_turned_5 (by decide) rfl (fun b3 => absurd (mg_lt_in hm) b3) (fun _ => ?_)
  refine mg_iload_n X 9 d_Mo_turned_8 (lv_at hl 2 rfl) rfl ?_
  refine mg_iflt_n X 12 (by omega) (tgt := 26) d_Mo_turned_9 (by decide) rfl ?_
  refine mg_iload_n X 13 d_Mo_turned_12 (lv_at hl 2 rfl) rfl ?_
  refine mg_iconst X 14 2 d_Mo_turned_13 mg_ci_2 rfl ?_
  refine mg_aload_n X 15 d_Mo_turned_14 (lv_at hl 0 rfl) rfl ?_
  refine mg_get X hK hw 18 0 3 f_Mo_86 rfl rfl d_Mo_turned_15 rfl ?_
  refine mg_imul X 19 (nI (2 * nc)) d_Mo_turned_18 (pk_mul _ _) rfl ?_
  refine mg_icmp_ge X 26 22 (by omega) (by omega) d_Mo_turned_19 (by decide) rfl (fun b5 => absurd b5 (by omega)) (fun b5 => ?_)
  refine mg_iconst X 23 1 d_Mo_turned_22 mg_ci_1 rfl ?_
  refine mg_goto X 27 d_Mo_turned_23 (by decide) ?_
  refine mg_istore_n X 28 [(3, .int (nI (1))), (0, .ref (mh)), (1, .int (nI (mk))), (2, .int (nI (bi)))] d_Mo_turned_27 hl (by decide) rfl rfl (fun ls hl => ?_)
  refine mg_aload_n X 29 d_Mo_turned_28 (lv_at hl 1 rfl) rfl ?_
  refine mg_iload_n X 30 d_Mo_turned_29 (lv_at hl 0 rfl) rfl ?_
  refine mg_if_eq X 37 33 (by decide) d_Mo_turned_30 (by decide) rfl (fun b6 => absurd b6 (by decide)) (fun _ => ?_)
  refine mg_iconst X 34 0 d_Mo_turned_33 mg_ci_0 rfl ?_
  refine mg_goto X 38 d_Mo_turned_34 (by decide) ?_
  refine mg_callVi X hK hw hA 41 [0] 0 (fun _ => [mg_ob mh 6 [.int (nI (0)), .int (nI (np)), .int (nI (nf)), .int (nI (nc)), .ref (qor), .ref (qfa), .ref (qmo), .int (nI (nm)), .ref (qwt), .ref (qrt), .ref (qnw), .ref (qsn), .ref (qlt), .ref (qkn), .ref (qft), .ref (qbf), .ref (qbh), .ref (qjt), .ref (qot), .ref (qsm), .ref (qpt), .ref (qpr), .ref (qch), .ref (qbt), .int (nI (wr)), .ref (qpg)], mg_ai K qor 6 rk, mg_ai K qfa 6 fa, mg_ai K qmo 6 mo, mg_ai K qwt 16 mw, mg_ai K qsn 24 sn, mg_ai K qlt 6 lt, mg_az K qkn 4 kn, mg_ai K qft 256 ftb, mg_ai K qrt 4 mr, mg_ai K qnw 4 nw, mg_al K qbf 2048 dB, mg_al K qbh 2048 dE, mg_al K qjt 8 dJ, mg_al K qsm 8 dS, mg_al K qch 7 ch, mg_ai K qbt 64 bt, mg_al K qot 8 dO, mg_al K qpt 8 dP, mg_al K qpr 17 dQ]) rfl rfl (k_Mo_refused l D K mh qor qfa qmo qwt qrt qnw qsn qlt qkn qft qbf qbh qjt qot qsm qpt qpr qch qbt qpg flt np nf nc nm wr 0 (by omega)) g_Mo_96 ⟨by decide, by decide⟩ ⟨rfl, rfl⟩ rfl rfl rfl hl.1 (rest := []) (As := [.int (nI (0))]) rfl (Nat.le_of_ble_eq_true rfl) d_Mo_turned_38 ⟨Nat.zero_le _, Nat.zero_le _⟩ (fun _ => rfl) (fun _ => rfl) rfl ?_
  intro r _ H locs hp8 hw
  subst hp8
  refine mg_bif_eq X 48 44 d_Mo_turned_41 (by decide) rfl (fun _ => ?_) (fun b9 => absurd b9 (by decide))
  refine mg_aload_n X 49 d_Mo_turned_48 (lv_at hl 1 rfl) rfl ?_
  refine mg_iload_n X 50 d_Mo_turned_49 (lv_at hl 2 rfl) rfl ?_
  refine mg_iload_n X 51 d_Mo_turned_50 (lv_at hl 3 rfl) rfl ?_
  refine mg_iconst X 52 0 d_Mo_turned_51 mg_ci_0 rfl ?_
  refine mg_iconst X 53 0 d_Mo_turned_52 mg_ci_0 rfl ?_
  refine mg_callVi X hK hw hA 56 [0, 1, 2, 3, 4, 5, 6, 7, 8, 9, 10, 11, 12, 13, 14, 15, 16, 17, 18, 19] 0 (fun uu => [mg_ob mh 6 [.int (nI (0)), .int (nI (np)), .int (nI (nf)), .int (nI (nc)), .ref (qor), .ref (qfa), .ref (qmo), .int (nI (nm)), .ref (qwt), .ref (qrt), .ref (qnw), .ref (qsn), .ref (qlt), .ref (qkn), .ref (qft), .ref (qbf), .ref (qbh), .ref (qjt), .ref (qot), .ref (qsm), .ref (qpt), .ref (qpr), .ref (qch), .ref (qbt), .int (nI (wr)), .ref (qpg)], mg_ai K qor 6 rk, mg_ai K qfa 6 fa, mg_ai K qmo 6 mo, mg_ai K qwt 16 mw, mg_ai K qsn 24 sn, mg_ai K qlt 6 uu.1, mg_az K qkn 4 uu.2.1, mg_ai K qft 256 uu.2.2.1, mg_ai K qrt 4 mr, mg_ai K qnw 4 (su_pt mr nw 4), mg_al K qbf 2048 uu.2.2.2.1, mg_al K qbh 2048 uu.2.2.2.2.2.1, mg_al K qjt 8 uu.2.2.2.2.2.2.2.2.2.2.1, mg_al K qsm 8 uu.2.2.2.2.2.2.2.1, mg_al K qch 7 uu.2.2.2.2.2.2.2.2.2.1, mg_ai K qbt 64 bt, mg_al K qot 8 uu.2.2.2.2.2.2.2.2.2.2.2.1, mg_al K qpt 8 uu.2.2.2.2.2.2.2.2.2.2.2.2.2.1, mg_al K qpr 17 uu.2.2.2.2.2.2.2.2.2.2.2.2.2.2.2.1]) rfl rfl (k_Mo_chanceT l D K mh qor qfa qmo qwt qrt qnw qsn qlt qkn qft qbf qbh qjt qot qsm qpt qpr qch qbt qpg 0 np nf nc nm wr rk fa mo mw sn lt wt ol tl kn ftb mr nw dB VB dE VE dJ VJ dS VS ch bt dO VO dP VP dQ VQ mk bi 0 0 (by omega) (by omega) (by omega) (by omega) (by omega) (by omega) (by omega) (by omega) (by omega) (by omega) (by omega) (hRB) (hRE) (hRJ) (hRS) (hRO) (hRP) (hRQ) (by omega) (by omega)) g_Mo_198 ⟨by decide, by decide⟩ ⟨rfl, rfl⟩ rfl rfl rfl hl.1 (rest := []) (As := [.int (nI (mk)), .int (nI (bi)), .int (nI (0)), .int (nI (0))]) rfl (Nat.le_of_ble_eq_true rfl) d_Mo_turned_53 ⟨Nat.zero_le _, Nat.zero_le _⟩ (fun _ => rfl) (fun _ => rfl) rfl ?_
  intro r u H locs hq9 hw
  obtain ⟨ua, kn1a, ft1a, dB1a, VB1a, dE1a, VE1a, dS1a, VS1a, ch1a, dJ1a, dO1a, VO1a, dP1a, VP1a, dQ1a, VQ1a⟩ := u
  dsimp only at hq9 hw
  obtain ⟨rfl, hq9⟩ := hq9
  exact mg_iret X hr hlk (rfl) ((ua, kn1a, ft1a, dB1a, VB1a, dE1a, VE1a, dS1a, VS1a, ch1a, dJ1a, va_up VJ 0 (jn_J (2 * nc) (su_pt mr nw 4) (fi_fit wt ol tl fa mo rk nf nc) (nm - 1)), dO1a, VO1a, dP1a, VP1a, dQ1a, VQ1a)) (⟨rfl, hq9⟩) hw d_Mo_turned_56

set_option maxRecDepth 100000 in
set_option maxHeartbeats 4000000 in
theorem k_Mo_shared (l : Launch) (D : va_G) (K : Nat → ClassId) (mh : Nat) (qor : Nat) (qfa : Nat) (qmo : Nat) (qwt : Nat) (qrt : Nat) (qnw : Nat) (qsn : Nat) (qlt : Nat) (qkn : Nat) (qft : Nat) (qbf : Nat) (qbh : Nat) (qjt : Nat) (qot : Nat) (qsm : Nat) (qpt : Nat) (qpr : Nat) (qch : Nat) (qbt : Nat) (qpg : Nat) (flt : Nat) (np : Nat) (nf : Nat) (nc : Nat) (nm : Nat) (wr : Nat) (rk : Nat → Nat) (fa : Nat → Nat) (mo : Nat → Nat) (mw : Nat → Nat) (sn : Nat → Nat) (lt : Nat → Nat) (wt : Nat → Nat) (ol : Nat → Nat) (tl : Nat → Nat) (kn : Nat → Nat) (ftb : Nat → Nat) (mr : Nat → Nat) (nw : Nat → Nat) (dB : Nat → Nat) (VB : Nat → Nat) (dE : Nat → Nat) (VE : Nat → Nat) (dJ : Nat → Nat) (VJ : Nat → Nat) (dS : Nat → Nat) (VS : Nat → Nat) (ch : Nat → Nat) (bt : Nat → Nat) (dO : Nat → Nat) (VO : Nat → Nat) (dP : Nat → Nat) (VP : Nat → Nat) (dQ : Nat → Nat) (VQ : Nat → Nat) (mk : Nat) (a1 : Nat) (a2 : Nat) (hF0 : fm_ok nf nc fa mo rk) (hnp : np = nf + nc) (hS : sn_ok ol tl) (hcd : ∀ q i, q < 6 → i < 4 → sn (4 * q + i) = mo_cd (ol (i * 6 + q)) (tl (i * 6 + q))) (hmw : ∀ i l, i < nm → 1 ≤ l → l ≤ 3 → mw (4 * i + l) = ma_wt wt i l) (hW8 : ∀ i, i < nm → ma_wt wt i 1 + ma_wt wt i 2 + ma_wt wt i 3 = 8) (hm4 : nm ≤ 4) (hkn : mo_kn nm (2 ^ (2 * nc)) kn ftb (fi_fit wt ol tl fa mo rk nf nc)) (hbt : ∀ x, x < 64 → bt x = li_bc 6 x) (hn16 : ∀ i, i < 4 → mr i ≤ 16) (hFb : ∀ i w, i < nm → w < 2 ^ (2 * nc) → fi_fit wt ol tl fa mo rk nf nc i w ≤ 2 ^ 18) (hRB : li_R 2048 dB VB) (hRE : li_R 2048 dE VE) (hRJ : li_R 8 dJ VJ) (hRS : li_R 8 dS VS) (hRO : li_R 8 dO VO) (hRP : li_R 8 dP VP) (hRQ : li_R 17 dQ VQ) (hm : mk < nm) (hp1 : a1 < np) (hp2 : a2 < np) : mg_Mi l D K y_Mo_shared b_Mo_shared 5 (.int) ({ frames := 8, cells := 0, slots := 0, locals := 197 }) [.ref (mh), .int (nI (mk)), .int (nI (a1)), .int (nI (a2))] [mg_ob mh 6 [.int (nI (flt)), .int (nI (np)), .int (nI (nf)), .int (nI (nc)), .ref (qor), .ref (qfa), .ref (qmo), .int (nI (nm)), .ref (qwt), .ref (qrt), .ref (qnw), .ref (qsn), .ref (qlt), .ref (qkn), .ref (qft), .ref (qbf), .ref (qbh), .ref (qjt), .ref (qot), .ref (qsm), .ref (qpt), .ref (qpr), .ref (qch), .ref (qbt), .int (nI (wr)), .ref (qpg)], mg_ai K qor 6 rk, mg_ai K qfa 6 fa, mg_ai K qmo 6 mo, mg_ai K qwt 16 mw, mg_ai K qsn 24 sn, mg_ai K qlt 6 lt, mg_az K qkn 4 kn, mg_ai K qft 256 ftb, mg_ai K qrt 4 mr, mg_ai K qnw 4 nw, mg_al K qbf 2048 dB, mg_al K qbh 2048 dE, mg_al K qjt 8 dJ, mg_al K qsm 8 dS, mg_al K qch 7 ch, mg_ai K qbt 64 bt, mg_al K qot 8 dO, mg_al K qpt 8 dP, mg_al K qpr 17 dQ] (fun (r : Int32) (uu : (Nat → Nat) × (Nat → Nat) × (Nat → Nat) × (Nat → Nat) × (Nat → Nat) × (Nat → Nat) × (Nat → Nat) × (Nat → Nat) × (Nat → Nat) × (Nat → Nat) × (Nat → Nat) × (Nat → Nat) × (Nat → Nat) × (Nat → Nat) × (Nat → Nat) × (Nat → Nat) × (Nat → Nat) × (Nat → Nat)) => r = nI (su_quot (su_pick (fun w => fm_shr fa mo rk a1 a2 w) (jn_pt (2 * nc) (su_pt mr nw 4) (fi_fit wt ol tl fa mo rk nf nc) (nm - 1) mk) (2 ^ (2 * nc))) 1000 (jn_J (2 * nc) (su_pt mr nw 4) (fi_fit wt ol tl fa mo rk nf nc) (nm - 1))) ∧ li_R 2048 uu.2.2.2.1 uu.2.2.2.2.1 ∧ li_R 2048 uu.2.2.2.2.2.1 uu.2.2.2.2.2.2.1 ∧ li_R 8 uu.2.2.2.2.2.2.2.2.2.2.1 uu.2.2.2.2.2.2.2.2.2.2.2.1 ∧ li_R 8 uu.2.2.2.2.2.2.2.1 uu.2.2.2.2.2.2.2.2.1 ∧ li_R 8 uu.2.2.2.2.2.2.2.2.2.2.2.2.1 uu.2.2.2.2.2.2.2.2.2.2.2.2.2.1 ∧ li_R 8 uu.2.2.2.2.2.2.2.2.2.2.2.2.2.2.1 uu.2.2.2.2.2.2.2.2.2.2.2.2.2.2.2.1 ∧ li_R 17 uu.2.2.2.2.2.2.2.2.2.2.2.2.2.2.2.2.1 uu.2.2.2.2.2.2.2.2.2.2.2.2.2.2.2.2.2 ∧ mo_kn nm (2 ^ (2 * nc)) uu.2.1 uu.2.2.1 (fi_fit wt ol tl fa mo rk nf nc)) (fun (uu : (Nat → Nat) × (Nat → Nat) × (Nat → Nat) × (Nat → Nat) × (Nat → Nat) × (Nat → Nat) × (Nat → Nat) × (Nat → Nat) × (Nat → Nat) × (Nat → Nat) × (Nat → Nat) × (Nat → Nat) × (Nat → Nat) × (Nat → Nat) × (Nat → Nat) × (Nat → Nat) × (Nat → Nat) × (Nat → Nat)) => [mg_ob mh 6 [.int (nI (0)), .int (nI (np)), .int (nI (nf)), .int (nI (nc)), .ref (qor), .ref (qfa), .ref (qmo), .int (nI (nm)), .ref (qwt), .ref (qrt), .ref (qnw), .ref (qsn), .ref (qlt), .ref (qkn), .ref (qft), .ref (qbf), .ref (qbh), .ref (qjt), .ref (qot), .ref (qsm), .ref (qpt), .ref (qpr), .ref (qch), .ref (qbt), .int (nI (wr)), .ref (qpg)], mg_ai K qor 6 rk, mg_ai K qfa 6 fa, mg_ai K qmo 6 mo, mg_ai K qwt 16 mw, mg_ai K qsn 24 sn, mg_ai K qlt 6 uu.1, mg_az K qkn 4 uu.2.1, mg_ai K qft 256 uu.2.2.1, mg_ai K qrt 4 mr, mg_ai K qnw 4 (su_pt mr nw 4), mg_al K qbf 2048 uu.2.2.2.1, mg_al K qbh 2048 uu.2.2.2.2.2.1, mg_al K qjt 8 uu.2.2.2.2.2.2.2.2.2.2.1, mg_al K qsm 8 uu.2.2.2.2.2.2.2.1, mg_al K qch 7 uu.2.2.2.2.2.2.2.2.2.1, mg_ai K qbt 64 bt, mg_al K qot 8 uu.2.2.2.2.2.2.2.2.2.2.2.2.1, mg_al K qpt 8 uu.2.2.2.2.2.2.2.2.2.2.2.2.2.2.1, mg_al K qpr 17 uu.2.2.2.2.2.2.2.2.2.2.2.2.2.2.2.2.1]) := by
  intro sz
  refine mg_entry (Qc := fun A => va_Qi (fun (r : Int32) (uu : (Nat → Nat) × (Nat → Nat) × (Nat → Nat) × (Nat → Nat) × (Nat → Nat) × (Nat → Nat) × (Nat → Nat) × (Nat → Nat) × (Nat → Nat) × (Nat → Nat) × (Nat → Nat) × (Nat → Nat) × (Nat → Nat) × (Nat → Nat) × (Nat → Nat) × (Nat → Nat) × (Nat → Nat) × (Nat → Nat)) => r = nI (su_quot (su_pick (fun w => fm_shr fa mo rk a1 a2 w) (jn_pt (2 * nc) (su_pt mr nw 4) (fi_fit wt ol tl fa mo rk nf nc) (nm - 1) mk) (2 ^ (2 * nc))) 1000 (jn_J (2 * nc) (su_pt mr nw 4) (fi_fit wt ol tl fa mo rk nf nc) (nm - 1))) ∧ li_R 2048 uu.2.2.2.1 uu.2.2.2.2.1 ∧ li_R 2048 uu.2.2.2.2.2.1 uu.2.2.2.2.2.2.1 ∧ li_R 8 uu.2.2.2.2.2.2.2.2.2.2.1 uu.2.2.2.2.2.2.2.2.2.2.2.1 ∧ li_R 8 uu.2.2.2.2.2.2.2.1 uu.2.2.2.2.2.2.2.2.1 ∧ li_R 8 uu.2.2.2.2.2.2.2.2.2.2.2.2.1 uu.2.2.2.2.2.2.2.2.2.2.2.2.2.1 ∧ li_R 8 uu.2.2.2.2.2.2.2.2.2.2.2.2.2.2.1 uu.2.2.2.2.2.2.2.2.2.2.2.2.2.2.2.1 ∧ li_R 17 uu.2.2.2.2.2.2.2.2.2.2.2.2.2.2.2.2.1 uu.2.2.2.2.2.2.2.2.2.2.2.2.2.2.2.2.2 ∧ mo_kn nm (2 ^ (2 * nc)) uu.2.1 uu.2.2.1 (fi_fit wt ol tl fa mo rk nf nc)) (mg_B D A (fun (uu : (Nat → Nat) × (Nat → Nat) × (Nat → Nat) × (Nat → Nat) × (Nat → Nat) × (Nat → Nat) × (Nat → Nat) × (Nat → Nat) × (Nat → Nat) × (Nat → Nat) × (Nat → Nat) × (Nat → Nat) × (Nat → Nat) × (Nat → Nat) × (Nat → Nat) × (Nat → Nat) × (Nat → Nat) × (Nat → Nat)) => [mg_ob mh 6 [.int (nI (0)), .int (nI (np)), .int (nI (nf)), .int (nI (nc)), .ref (qor), .ref (qfa), .ref (qmo), .int (nI (nm)), .ref (qwt), .ref (qrt), .ref (qnw), .ref (qsn), .ref (qlt), .ref (qkn), .ref (qft), .ref (qbf), .ref (qbh), .ref (qjt), .ref (qot), .ref (qsm), .ref (qpt), .ref (qpr), .ref (qch), .ref (qbt), .int (nI (wr)), .ref (qpg)], mg_ai K qor 6 rk, mg_ai K qfa 6 fa, mg_ai K qmo 6 mo, mg_ai K qwt 16 mw, mg_ai K qsn 24 sn, mg_ai K qlt 6 uu.1, mg_az K qkn 4 uu.2.1, mg_ai K qft 256 uu.2.2.1, mg_ai K qrt 4 mr, mg_ai K qnw 4 (su_pt mr nw 4), mg_al K qbf 2048 uu.2.2.2.1, mg_al K qbh 2048 uu.2.2.2.2.2.1, mg_al K qjt 8 uu.2.2.2.2.2.2.2.2.2.2.1, mg_al K qsm 8 uu.2.2.2.2.2.2.2.1, mg_al K qch 7 uu.2.2.2.2.2.2.2.2.2.1, mg_ai K qbt 64 bt, mg_al K qot 8 uu.2.2.2.2.2.2.2.2.2.2.2.2.1, mg_al K qpt 8 uu.2.2.2.2.2.2.2.2.2.2.2.2.2.2.1, mg_al K qpr 17 uu.2.2.2.2.2.2.2.2.2.2.2.2.2.2.2.2.1])) A) (by decide) (Nat.le_of_ble_eq_true rfl) ?_
  intro p e s m args below meth c A ls X hr hlk hnm hA hK hw hl
  have hl : lv_has ls 5 [(0, .ref (mh)), (1, .int (nI (mk))), (2, .int (nI (a1))), (3, .int (nI (a2)))] := hl
  have hf1 := hF0.1
  have hf2 := hF0.2.1
  have hw6 := mg_ways hf2
  refine mg_aload_n X 1 d_Mo_shared_0 (lv_at hl 0 rfl) rfl ?_
  refine mg_iload_n X 2 d_Mo_shared_1 (lv_at hl 1 rfl) rfl ?_
  refine mg_callVi X hK hw hA 5 [0] 0 (fun _ => [mg_ob mh 6 [.int (nI (flt)), .int (nI (np)), .int (nI (nf)), .int (nI (nc)), .ref (qor), .ref (qfa), .ref (qmo), .int (nI (nm)), .ref (qwt), .ref (qrt), .ref (qnw), .ref (qsn), .ref (qlt), .ref (qkn), .ref (qft), .ref (qbf), .ref (qbh), .ref (qjt), .ref (qot), .ref (qsm), .ref (qpt), .ref (qpr), .ref (qch), .ref (qbt), .int (nI (wr)), .ref (qpg)], mg_ai K qor 6 rk, mg_ai K qfa 6 fa, mg_ai K qmo 6 mo, mg_ai K qwt 16 mw, mg_ai K qsn 24 sn, mg_ai K qlt 6 lt, mg_az K qkn 4 kn, mg_ai K qft 256 ftb, mg_ai K qrt 4 mr, mg_ai K qnw 4 nw, mg_al K qbf 2048 dB, mg_al K qbh 2048 dE, mg_al K qjt 8 dJ, mg_al K qsm 8 dS, mg_al K qch 7 ch, mg_ai K qbt 64 bt, mg_al K qot 8 dO, mg_al K qpt 8 dP, mg_al K qpr 17 dQ]) rfl rfl (k_Mo_isMarker l D K mh qor qfa qmo qwt qrt qnw qsn qlt qkn qft qbf qbh qjt qot qsm qpt qpr qch qbt qpg flt np nf nc nm wr (nI mk) (hm4)) g_Mo_109 ⟨by decide, by decide⟩ ⟨rfl, rfl⟩ rfl rfl rfl hl.1 (rest := []) (As := [.int (nI (mk))]) rfl (Nat.le_of_ble_eq_true rfl) d_Mo_shared_2 ⟨Nat.zero_le _, Nat.zero_le _⟩ (fun _ => rfl) (fun _ => rfl) rfl ?_
  intro r _ H locs hp2 hw
  subst hp2
  refine mg_bif_eq X 28 8 d_Mo_shared_5 (by decide) rfl (fun b3 => absurd (mg_lt_in hm) b3) (fun _ => ?_)
  refine mg_aload_n X 9 d_Mo_shared_8 (lv_at hl 0 rfl) rfl ?_
  refine mg_iload_n X 10 d_Mo_shared_9 (lv_at hl 2 rfl) rfl ?_
  refine mg_callVi X hK hw hA 13 [0] 0 (fun _ => [mg_ob mh 6 [.int (nI (flt)), .int (nI (np)), .int (nI (nf)), .int (nI (nc)), .ref (qor), .ref (qfa), .ref (qmo), .int (nI (nm)), .ref (qwt), .ref (qrt), .ref (qnw), .ref (qsn), .ref (qlt), .ref (qkn), .ref (qft), .ref (qbf), .ref (qbh), .ref (qjt), .ref (qot), .ref (qsm), .ref (qpt), .ref (qpr), .ref (qch), .ref (qbt), .int (nI (wr)), .ref (qpg)], mg_ai K qor 6 rk, mg_ai K qfa 6 fa, mg_ai K qmo 6 mo, mg_ai K qwt 16 mw, mg_ai K qsn 24 sn, mg_ai K qlt 6 lt, mg_az K qkn 4 kn, mg_ai K qft 256 ftb, mg_ai K qrt 4 mr, mg_ai K qnw 4 nw, mg_al K qbf 2048 dB, mg_al K qbh 2048 dE, mg_al K qjt 8 dJ, mg_al K qsm 8 dS, mg_al K qch 7 ch, mg_ai K qbt 64 bt, mg_al K qot 8 dO, mg_al K qpt 8 dP, mg_al K qpr 17 dQ]) rfl rfl (k_Mo_isPerson l D K mh qor qfa qmo qwt qrt qnw qsn qlt qkn qft qbf qbh qjt qot qsm qpt qpr qch qbt qpg flt np nf nc nm wr (nI a1) (by omega)) g_Mo_103 ⟨by decide, by decide⟩ ⟨rfl, rfl⟩ rfl rfl rfl hl.1 (rest := []) (As := [.int (nI (a1))]) rfl (Nat.le_of_ble_eq_true rfl) d_Mo_shared_10 ⟨Nat.zero_le _, Nat.zero_le _⟩ (fun _ => rfl) (fun _ => rfl) rfl ?_
  intro r _ H locs hp5 hw
  subst hp5
  refine mg_bif_eq X 28 16 d_Mo_shared_13 (by decide) rfl (fun b6 => absurd (mg_lt_in hp1) b6) (fun _ => ?_)
  refine mg_aload_n X 17 d_Mo_shared_16 (lv_at hl 0 rfl) rfl ?_
  refine mg_iload_n X 18 d_Mo_shared_17 (lv_at hl 3 rfl) rfl ?_
  refine mg_callVi X hK hw hA 21 [0] 0 (fun _ => [mg_ob mh 6 [.int (nI (flt)), .int (nI (np)), .int (nI (nf)), .int (nI (nc)), .ref (qor), .ref (qfa), .ref (qmo), .int (nI (nm)), .ref (qwt), .ref (qrt), .ref (qnw), .ref (qsn), .ref (qlt), .ref (qkn), .ref (qft), .ref (qbf), .ref (qbh), .ref (qjt), .ref (qot), .ref (qsm), .ref (qpt), .ref (qpr), .ref (qch), .ref (qbt), .int (nI (wr)), .ref (qpg)], mg_ai K qor 6 rk, mg_ai K qfa 6 fa, mg_ai K qmo 6 mo, mg_ai K qwt 16 mw, mg_ai K qsn 24 sn, mg_ai K qlt 6 lt, mg_az K qkn 4 kn, mg_ai K qft 256 ftb, mg_ai K qrt 4 mr, mg_ai K qnw 4 nw, mg_al K qbf 2048 dB, mg_al K qbh 2048 dE, mg_al K qjt 8 dJ, mg_al K qsm 8 dS, mg_al K qch 7 ch, mg_ai K qbt 64 bt, mg_al K qot 8 dO, mg_al K qpt 8 dP, mg_al K qpr 17 dQ]) rfl rfl (k_Mo_isPerson l D K mh qor qfa qmo qwt qrt qnw qsn qlt qkn qft qbf qbh qjt qot qsm qpt qpr qch qbt qpg flt np nf nc nm wr (nI a2) (by omega)) g_Mo_103 ⟨by decide, by decide⟩ ⟨rfl, rfl⟩ rfl rfl rfl hl.1 (rest := []) (As := [.int (nI (a2))]) rfl (Nat.le_of_ble_eq_true rfl) d_Mo_shared_18 ⟨Nat.zero_le _, Nat.zero_le _⟩ (fun _ => rfl) (fun _ => rfl) rfl ?_
  intro r _ H locs hp8 hw
  subst hp8
  refine mg_bif_eq X 28 24 d_Mo_shared_21 (by decide) rfl (fun b9 => absurd (mg_lt_in hp2) b9) (fun _ => ?_)
  refine mg_iconst X 25 1 d_Mo_shared_24 mg_ci_1 rfl ?_
  refine mg_goto X 29 d_Mo_shared_25 (by decide) ?_
  refine mg_istore X 31 [(4, .int (nI (1))), (0, .ref (mh)), (1, .int (nI (mk))), (2, .int (nI (a1))), (3, .int (nI (a2)))] d_Mo_shared_29 hl (by decide) rfl rfl (fun ls hl => ?_)
  refine mg_aload_n X 32 d_Mo_shared_31 (lv_at hl 1 rfl) rfl ?_
  refine mg_iload X 34 d_Mo_shared_32 (lv_at hl 0 rfl) rfl ?_
  refine mg_if_eq X 41 37 (by decide) d_Mo_shared_34 (by decide) rfl (fun b10 => absurd b10 (by decide)) (fun _ => ?_)
  refine mg_iconst X 38 0 d_Mo_shared_37 mg_ci_0 rfl ?_
  refine mg_goto X 42 d_Mo_shared_38 (by decide) ?_
  refine mg_callVi X hK hw hA 45 [0] 0 (fun _ => [mg_ob mh 6 [.int (nI (0)), .int (nI (np)), .int (nI (nf)), .int (nI (nc)), .ref (qor), .ref (qfa), .ref (qmo), .int (nI (nm)), .ref (qwt), .ref (qrt), .ref (qnw), .ref (qsn), .ref (qlt), .ref (qkn), .ref (qft), .ref (qbf), .ref (qbh), .ref (qjt), .ref (qot), .ref (qsm), .ref (qpt), .ref (qpr), .ref (qch), .ref (qbt), .int (nI (wr)), .ref (qpg)], mg_ai K qor 6 rk, mg_ai K qfa 6 fa, mg_ai K qmo 6 mo, mg_ai K qwt 16 mw, mg_ai K qsn 24 sn, mg_ai K qlt 6 lt, mg_az K qkn 4 kn, mg_ai K qft 256 ftb, mg_ai K qrt 4 mr, mg_ai K qnw 4 nw, mg_al K qbf 2048 dB, mg_al K qbh 2048 dE, mg_al K qjt 8 dJ, mg_al K qsm 8 dS, mg_al K qch 7 ch, mg_ai K qbt 64 bt, mg_al K qot 8 dO, mg_al K qpt 8 dP, mg_al K qpr 17 dQ]) rfl rfl (k_Mo_refused l D K mh qor qfa qmo qwt qrt qnw qsn qlt qkn qft qbf qbh qjt qot qsm qpt qpr qch qbt qpg flt np nf nc nm wr 0 (by omega)) g_Mo_96 ⟨by decide, by decide⟩ ⟨rfl, rfl⟩ rfl rfl rfl hl.1 (rest := []) (As := [.int (nI (0))]) rfl (Nat.le_of_ble_eq_true rfl) d_Mo_shared_42 ⟨Nat.zero_le _, Nat.zero_le _⟩ (fun _ => rfl) (fun _ => rfl) rfl ?_
  intro r _ H locs hp12 hw
  subst hp12
  refine mg_bif_eq X 52 48 d_Mo_shared_45 (by decide) rfl (fun _ => ?_) (fun b13 => absurd b13 (by decide))
  refine mg_aload_n X 53 d_Mo_shared_52 (lv_at hl 1 rfl) rfl ?_
  refine mg_iload_n X 54 d_Mo_shared_53 (lv_at hl 2 rfl) rfl ?_
  refine mg_iconst X 55 4294967295 d_Mo_shared_54 mg_ci_m1 rfl ?_
  refine mg_iload_n X 56 d_Mo_shared_55 (lv_at hl 3 rfl) rfl ?_
  refine mg_iload_n X 57 d_Mo_shared_56 (lv_at hl 4 rfl) rfl ?_
  refine mg_callVi X hK hw hA 60 [0, 1, 2, 3, 4, 5, 6, 7, 8, 9, 10, 11, 12, 13, 14, 15, 16, 17, 18, 19] 0 (fun uu => [mg_ob mh 6 [.int (nI (0)), .int (nI (np)), .int (nI (nf)), .int (nI (nc)), .ref (qor), .ref (qfa), .ref (qmo), .int (nI (nm)), .ref (qwt), .ref (qrt), .ref (qnw), .ref (qsn), .ref (qlt), .ref (qkn), .ref (qft), .ref (qbf), .ref (qbh), .ref (qjt), .ref (qot), .ref (qsm), .ref (qpt), .ref (qpr), .ref (qch), .ref (qbt), .int (nI (wr)), .ref (qpg)], mg_ai K qor 6 rk, mg_ai K qfa 6 fa, mg_ai K qmo 6 mo, mg_ai K qwt 16 mw, mg_ai K qsn 24 sn, mg_ai K qlt 6 uu.1, mg_az K qkn 4 uu.2.1, mg_ai K qft 256 uu.2.2.1, mg_ai K qrt 4 mr, mg_ai K qnw 4 (su_pt mr nw 4), mg_al K qbf 2048 uu.2.2.2.1, mg_al K qbh 2048 uu.2.2.2.2.2.1, mg_al K qjt 8 uu.2.2.2.2.2.2.2.2.2.2.1, mg_al K qsm 8 uu.2.2.2.2.2.2.2.1, mg_al K qch 7 uu.2.2.2.2.2.2.2.2.2.1, mg_ai K qbt 64 bt, mg_al K qot 8 uu.2.2.2.2.2.2.2.2.2.2.2.1, mg_al K qpt 8 uu.2.2.2.2.2.2.2.2.2.2.2.2.2.1, mg_al K qpr 17 uu.2.2.2.2.2.2.2.2.2.2.2.2.2.2.2.1]) rfl rfl (k_Mo_chanceS l D K mh qor qfa qmo qwt qrt qnw qsn qlt qkn qft qbf qbh qjt qot qsm qpt qpr qch qbt qpg 0 np nf nc nm wr rk fa mo mw sn lt wt ol tl kn ftb mr nw dB VB dE VE dJ VJ dS VS ch bt dO VO dP VP dQ VQ mk a1 a2 (by omega) (by omega) (by omega) (by omega) (by omega) (by omega) (by omega) (by omega) (by omega) (by omega) (by omega) (hRB) (hRE) (hRJ) (hRS) (hRO) (hRP) (hRQ) (by omega) (by omega) (by omega)) g_Mo_198 ⟨by decide, by decide⟩ ⟨rfl, rfl⟩ rfl rfl rfl hl.1 (rest := []) (As := [.int (nI (mk)), .int (nI (4294967295)), .int (nI (a1)), .int (nI (a2))]) rfl (Nat.le_of_ble_eq_true rfl) d_Mo_shared_57 ⟨Nat.zero_le _, Nat.zero_le _⟩ (fun _ => rfl) (fun _ => rfl) rfl ?_
  intro r u H locs hq9 hw
  obtain ⟨ua, kn1a, ft1a, dB1a, VB1a, dE1a, VE1a, dS1a, VS1a, ch1a, dJ1a, dO1a, VO1a, dP1a, VP1a, dQ1a, VQ1a⟩ := u
  dsimp only at hq9 hw
  obtain ⟨rfl, hq9⟩ := hq9
  exact mg_iret X hr hlk (rfl) ((ua, kn1a, ft1a, dB1a, VB1a, dE1a, VE1a, dS1a, VS1a, ch1a, dJ1a, va_up VJ 0 (jn_J (2 * nc) (su_pt mr nw 4) (fi_fit wt ol tl fa mo rk nf nc) (nm - 1)), dO1a, VO1a, dP1a, VP1a, dQ1a, VQ1a)) (⟨rfl, hq9⟩) hw d_Mo_shared_60

set_option maxRecDepth 100000 in
set_option maxHeartbeats 4000000 in
theorem k_Mo_likely (l : Launch) (D : va_G) (K : Nat → ClassId) (mh : Nat) (qor : Nat) (qfa : Nat) (qmo : Nat) (qwt : Nat) (qrt : Nat) (qnw : Nat) (qsn : Nat) (qlt : Nat) (qkn : Nat) (qft : Nat) (qbf : Nat) (qbh : Nat) (qjt : Nat) (qot : Nat) (qsm : Nat) (qpt : Nat) (qpr : Nat) (qch : Nat) (qbt : Nat) (qpg : Nat) (flt : Nat) (np : Nat) (nf : Nat) (nc : Nat) (nm : Nat) (wr : Nat) (rk : Nat → Nat) (fa : Nat → Nat) (mo : Nat → Nat) (mw : Nat → Nat) (sn : Nat → Nat) (lt : Nat → Nat) (wt : Nat → Nat) (ol : Nat → Nat) (tl : Nat → Nat) (kn : Nat → Nat) (ftb : Nat → Nat) (mr : Nat → Nat) (nw : Nat → Nat) (dB : Nat → Nat) (VB : Nat → Nat) (dE : Nat → Nat) (VE : Nat → Nat) (dJ : Nat → Nat) (VJ : Nat → Nat) (dS : Nat → Nat) (VS : Nat → Nat) (ch : Nat → Nat) (bt : Nat → Nat) (dO : Nat → Nat) (VO : Nat → Nat) (dP : Nat → Nat) (VP : Nat → Nat) (dQ : Nat → Nat) (VQ : Nat → Nat) (mk : Nat) (hF0 : fm_ok nf nc fa mo rk) (hnp : np = nf + nc) (hS : sn_ok ol tl) (hcd : ∀ q i, q < 6 → i < 4 → sn (4 * q + i) = mo_cd (ol (i * 6 + q)) (tl (i * 6 + q))) (hmw : ∀ i l, i < nm → 1 ≤ l → l ≤ 3 → mw (4 * i + l) = ma_wt wt i l) (hW8 : ∀ i, i < nm → ma_wt wt i 1 + ma_wt wt i 2 + ma_wt wt i 3 = 8) (hm4 : nm ≤ 4) (hkn : mo_kn nm (2 ^ (2 * nc)) kn ftb (fi_fit wt ol tl fa mo rk nf nc)) (hbt : ∀ x, x < 64 → bt x = li_bc 6 x) (hn16 : ∀ i, i < 4 → mr i ≤ 16) (hFb : ∀ i w, i < nm → w < 2 ^ (2 * nc) → fi_fit wt ol tl fa mo rk nf nc i w ≤ 2 ^ 18) (hRB : li_R 2048 dB VB) (hRE : li_R 2048 dE VE) (hRJ : li_R 8 dJ VJ) (hRS : li_R 8 dS VS) (hRO : li_R 8 dO VO) (hRP : li_R 8 dP VP) (hRQ : li_R 17 dQ VQ) (hm : mk < nm) : mg_Mi l D K y_Mo_likely b_Mo_likely 4 (.int) ({ frames := 7, cells := 0, slots := 0, locals := 171 }) [.ref (mh), .int (nI (mk))] [mg_ob mh 6 [.int (nI (flt)), .int (nI (np)), .int (nI (nf)), .int (nI (nc)), .ref (qor), .ref (qfa), .ref (qmo), .int (nI (nm)), .ref (qwt), .ref (qrt), .ref (qnw), .ref (qsn), .ref (qlt), .ref (qkn), .ref (qft), .ref (qbf), .ref (qbh), .ref (qjt), .ref (qot), .ref (qsm), .ref (qpt), .ref (qpr), .ref (qch), .ref (qbt), .int (nI (wr)), .ref (qpg)], mg_ai K qor 6 rk, mg_ai K qfa 6 fa, mg_ai K qmo 6 mo, mg_ai K qwt 16 mw, mg_ai K qsn 24 sn, mg_ai K qlt 6 lt, mg_az K qkn 4 kn, mg_ai K qft 256 ftb, mg_ai K qrt 4 mr, mg_ai K qnw 4 nw, mg_al K qbf 2048 dB, mg_al K qbh 2048 dE, mg_al K qjt 8 dJ, mg_al K qsm 8 dS, mg_al K qch 7 ch, mg_ai K qbt 64 bt, mg_al K qot 8 dO, mg_al K qpt 8 dP, mg_al K qpr 17 dQ] (fun (r : Int32) (uu : (Nat → Nat) × (Nat → Nat) × (Nat → Nat) × (Nat → Nat) × (Nat → Nat) × (Nat → Nat) × (Nat → Nat) × (Nat → Nat) × (Nat → Nat) × (Nat → Nat) × (Nat → Nat) × (Nat → Nat) × (Nat → Nat) × (Nat → Nat) × (Nat → Nat) × (Nat → Nat) × (Nat → Nat) × (Nat → Nat)) => r = nI (if jn_J (2 * nc) (su_pt mr nw 4) (fi_fit wt ol tl fa mo rk nf nc) (nm - 1) = 0 then 4294967295 else su_am (jn_pt (2 * nc) (su_pt mr nw 4) (fi_fit wt ol tl fa mo rk nf nc) (nm - 1) mk) (2 ^ (2 * nc))) ∧ li_R 2048 uu.2.2.2.1 uu.2.2.2.2.1 ∧ li_R 2048 uu.2.2.2.2.2.1 uu.2.2.2.2.2.2.1 ∧ li_R 8 uu.2.2.2.2.2.2.2.2.2.2.1 uu.2.2.2.2.2.2.2.2.2.2.2.1 ∧ li_R 8 uu.2.2.2.2.2.2.2.1 uu.2.2.2.2.2.2.2.2.1 ∧ li_R 8 uu.2.2.2.2.2.2.2.2.2.2.2.2.1 uu.2.2.2.2.2.2.2.2.2.2.2.2.2.1 ∧ li_R 8 uu.2.2.2.2.2.2.2.2.2.2.2.2.2.2.1 uu.2.2.2.2.2.2.2.2.2.2.2.2.2.2.2.1 ∧ li_R 17 uu.2.2.2.2.2.2.2.2.2.2.2.2.2.2.2.2.1 uu.2.2.2.2.2.2.2.2.2.2.2.2.2.2.2.2.2 ∧ mo_kn nm (2 ^ (2 * nc)) uu.2.1 uu.2.2.1 (fi_fit wt ol tl fa mo rk nf nc)) (fun (uu : (Nat → Nat) × (Nat → Nat) × (Nat → Nat) × (Nat → Nat) × (Nat → Nat) × (Nat → Nat) × (Nat → Nat) × (Nat → Nat) × (Nat → Nat) × (Nat → Nat) × (Nat → Nat) × (Nat → Nat) × (Nat → Nat) × (Nat → Nat) × (Nat → Nat) × (Nat → Nat) × (Nat → Nat) × (Nat → Nat)) => [mg_ob mh 6 [.int (nI (0)), .int (nI (np)), .int (nI (nf)), .int (nI (nc)), .ref (qor), .ref (qfa), .ref (qmo), .int (nI (nm)), .ref (qwt), .ref (qrt), .ref (qnw), .ref (qsn), .ref (qlt), .ref (qkn), .ref (qft), .ref (qbf), .ref (qbh), .ref (qjt), .ref (qot), .ref (qsm), .ref (qpt), .ref (qpr), .ref (qch), .ref (qbt), .int (nI (wr)), .ref (qpg)], mg_ai K qor 6 rk, mg_ai K qfa 6 fa, mg_ai K qmo 6 mo, mg_ai K qwt 16 mw, mg_ai K qsn 24 sn, mg_ai K qlt 6 uu.1, mg_az K qkn 4 uu.2.1, mg_ai K qft 256 uu.2.2.1, mg_ai K qrt 4 mr, mg_ai K qnw 4 (su_pt mr nw 4), mg_al K qbf 2048 uu.2.2.2.1, mg_al K qbh 2048 uu.2.2.2.2.2.1, mg_al K qjt 8 uu.2.2.2.2.2.2.2.2.2.2.1, mg_al K qsm 8 uu.2.2.2.2.2.2.2.1, mg_al K qch 7 uu.2.2.2.2.2.2.2.2.2.1, mg_ai K qbt 64 bt, mg_al K qot 8 uu.2.2.2.2.2.2.2.2.2.2.2.2.1, mg_al K qpt 8 uu.2.2.2.2.2.2.2.2.2.2.2.2.2.2.1, mg_al K qpr 17 uu.2.2.2.2.2.2.2.2.2.2.2.2.2.2.2.2.1]) := by
  intro sz
  refine mg_entry (Qc := fun A => va_Qi (fun (r : Int32) (uu : (Nat → Nat) × (Nat → Nat) × (Nat → Nat) × (Nat → Nat) × (Nat → Nat) × (Nat → Nat) × (Nat → Nat) × (Nat → Nat) × (Nat → Nat) × (Nat → Nat) × (Nat → Nat) × (Nat → Nat) × (Nat → Nat) × (Nat → Nat) × (Nat → Nat) × (Nat → Nat) × (Nat → Nat) × (Nat → Nat)) => r = nI (if jn_J (2 * nc) (su_pt mr nw 4) (fi_fit wt ol tl fa mo rk nf nc) (nm - 1) = 0 then 4294967295 else su_am (jn_pt (2 * nc) (su_pt mr nw 4) (fi_fit wt ol tl fa mo rk nf nc) (nm - 1) mk) (2 ^ (2 * nc))) ∧ li_R 2048 uu.2.2.2.1 uu.2.2.2.2.1 ∧ li_R 2048 uu.2.2.2.2.2.1 uu.2.2.2.2.2.2.1 ∧ li_R 8 uu.2.2.2.2.2.2.2.2.2.2.1 uu.2.2.2.2.2.2.2.2.2.2.2.1 ∧ li_R 8 uu.2.2.2.2.2.2.2.1 uu.2.2.2.2.2.2.2.2.1 ∧ li_R 8 uu.2.2.2.2.2.2.2.2.2.2.2.2.1 uu.2.2.2.2.2.2.2.2.2.2.2.2.2.1 ∧ li_R 8 uu.2.2.2.2.2.2.2.2.2.2.2.2.2.2.1 uu.2.2.2.2.2.2.2.2.2.2.2.2.2.2.2.1 ∧ li_R 17 uu.2.2.2.2.2.2.2.2.2.2.2.2.2.2.2.2.1 uu.2.2.2.2.2.2.2.2.2.2.2.2.2.2.2.2.2 ∧ mo_kn nm (2 ^ (2 * nc)) uu.2.1 uu.2.2.1 (fi_fit wt ol tl fa mo rk nf nc)) (mg_B D A (fun (uu : (Nat → Nat) × (Nat → Nat) × (Nat → Nat) × (Nat → Nat) × (Nat → Nat) × (Nat → Nat) × (Nat → Nat) × (Nat → Nat) × (Nat → Nat) × (Nat → Nat) × (Nat → Nat) × (Nat → Nat) × (Nat → Nat) × (Nat → Nat) × (Nat → Nat) × (Nat → Nat) × (Nat → Nat) × (Nat → Nat)) => [mg_ob mh 6 [.int (nI (0)), .int (nI (np)), .int (nI (nf)), .int (nI (nc)), .ref (qor), .ref (qfa), .ref (qmo), .int (nI (nm)), .ref (qwt), .ref (qrt), .ref (qnw), .ref (qsn), .ref (qlt), .ref (qkn), .ref (qft), .ref (qbf), .ref (qbh), .ref (qjt), .ref (qot), .ref (qsm), .ref (qpt), .ref (qpr), .ref (qch), .ref (qbt), .int (nI (wr)), .ref (qpg)], mg_ai K qor 6 rk, mg_ai K qfa 6 fa, mg_ai K qmo 6 mo, mg_ai K qwt 16 mw, mg_ai K qsn 24 sn, mg_ai K qlt 6 uu.1, mg_az K qkn 4 uu.2.1, mg_ai K qft 256 uu.2.2.1, mg_ai K qrt 4 mr, mg_ai K qnw 4 (su_pt mr nw 4), mg_al K qbf 2048 uu.2.2.2.1, mg_al K qbh 2048 uu.2.2.2.2.2.1, mg_al K qjt 8 uu.2.2.2.2.2.2.2.2.2.2.1, mg_al K qsm 8 uu.2.2.2.2.2.2.2.1, mg_al K qch 7 uu.2.2.2.2.2.2.2.2.2.1, mg_ai K qbt 64 bt, mg_al K qot 8 uu.2.2.2.2.2.2.2.2.2.2.2.2.1, mg_al K qpt 8 uu.2.2.2.2.2.2.2.2.2.2.2.2.2.2.1, mg_al K qpr 17 uu.2.2.2.2.2.2.2.2.2.2.2.2.2.2.2.2.1])) A) (by decide) (Nat.le_of_ble_eq_true rfl) ?_
  intro p e s m args below meth c A ls X hr hlk hnm hA hK hw hl
  have hl : lv_has ls 4 [(0, .ref (mh)), (1, .int (nI (mk)))] := hl
  have hf1 := hF0.1
  have hf2 := hF0.2.1
  have hw6 := mg_ways hf2
  refine mg_aload_n X 1 d_Mo_likely_0 (lv_at hl 0 rfl) rfl ?_
  refine mg_aload_n X 2 d_Mo_likely_1 (lv_at hl 0 rfl) rfl ?_
  refine mg_iload_n X 3 d_Mo_likely_2 (lv_at hl 1 rfl) rfl ?_
  refine mg_callVi X hK hw hA 6 [0] 0 (fun _ => [mg_ob mh 6 [.int (nI (flt)), .int (nI (np)), .int (nI (nf)), .int (nI (nc)), .ref (qor), .ref (qfa), .ref (qmo), .int (nI (nm)), .ref (qwt), .ref (qrt), .ref (qnw), .ref (qsn), .ref (qlt), .ref (qkn), .ref (qft), .ref (qbf), .ref (qbh), .ref (qjt), .ref (qot), .ref (qsm), .ref (qpt), .ref (qpr), .ref (qch), .ref (qbt), .int (nI (wr)), .ref (qpg)], mg_ai K qor 6 rk, mg_ai K qfa 6 fa, mg_ai K qmo 6 mo, mg_ai K qwt 16 mw, mg_ai K qsn 24 sn, mg_ai K qlt 6 lt, mg_az K qkn 4 kn, mg_ai K qft 256 ftb, mg_ai K qrt 4 mr, mg_ai K qnw 4 nw, mg_al K qbf 2048 dB, mg_al K qbh 2048 dE, mg_al K qjt 8 dJ, mg_al K qsm 8 dS, mg_al K qch 7 ch, mg_ai K qbt 64 bt, mg_al K qot 8 dO, mg_al K qpt 8 dP, mg_al K qpr 17 dQ]) rfl rfl (k_Mo_isMarker l D K mh qor qfa qmo qwt qrt qnw qsn qlt qkn qft qbf qbh qjt qot qsm qpt qpr qch qbt qpg flt np nf nc nm wr (nI mk) (hm4)) g_Mo_109 ⟨by decide, by decide⟩ ⟨rfl, rfl⟩ rfl rfl rfl hl.1 (rest := [.ref (mh)]) (As := [.int (nI (mk))]) rfl (Nat.le_of_ble_eq_true rfl) d_Mo_likely_3 ⟨Nat.zero_le _, Nat.zero_le _⟩ (fun _ => rfl) (fun _ => rfl) rfl ?_
  intro r _ H locs hp2 hw
  subst hp2
  refine mg_bif_eq X 13 9 d_Mo_likely_6 (by decide) rfl (fun b3 => absurd (mg_lt_in hm) b3) (fun _ => ?_)
  refine mg_iconst X 10 0 d_Mo_likely_9 mg_ci_0 rfl ?_
  refine mg_goto X 14 d_Mo_likely_10 (by decide) ?_
  refine mg_callVi X hK hw hA 17 [0] 0 (fun _ => [mg_ob mh 6 [.int (nI (0)), .int (nI (np)), .int (nI (nf)), .int (nI (nc)), .ref (qor), .ref (qfa), .ref (qmo), .int (nI (nm)), .ref (qwt), .ref (qrt), .ref (qnw), .ref (qsn), .ref (qlt), .ref (qkn), .ref (qft), .ref (qbf), .ref (qbh), .ref (qjt), .ref (qot), .ref (qsm), .ref (qpt), .ref (qpr), .ref (qch), .ref (qbt), .int (nI (wr)), .ref (qpg)], mg_ai K qor 6 rk, mg_ai K qfa 6 fa, mg_ai K qmo 6 mo, mg_ai K qwt 16 mw, mg_ai K qsn 24 sn, mg_ai K qlt 6 lt, mg_az K qkn 4 kn, mg_ai K qft 256 ftb, mg_ai K qrt 4 mr, mg_ai K qnw 4 nw, mg_al K qbf 2048 dB, mg_al K qbh 2048 dE, mg_al K qjt 8 dJ, mg_al K qsm 8 dS, mg_al K qch 7 ch, mg_ai K qbt 64 bt, mg_al K qot 8 dO, mg_al K qpt 8 dP, mg_al K qpr 17 dQ]) rfl rfl (k_Mo_refused l D K mh qor qfa qmo qwt qrt qnw qsn qlt qkn qft qbf qbh qjt qot qsm qpt qpr qch qbt qpg flt np nf nc nm wr 0 (by omega)) g_Mo_96 ⟨by decide, by decide⟩ ⟨rfl, rfl⟩ rfl rfl rfl hl.1 (rest := []) (As := [.int (nI (0))]) rfl (Nat.le_of_ble_eq_true rfl) d_Mo_likely_14 ⟨Nat.zero_le _, Nat.zero_le _⟩ (fun _ => rfl) (fun _ => rfl) rfl ?_
  intro r _ H locs hp5 hw
  subst hp5
  refine mg_bif_eq X 22 20 d_Mo_likely_17 (by decide) rfl (fun _ => ?_) (fun b6 => absurd b6 (by decide))
  refine mg_aload_n X 23 d_Mo_likely_22 (lv_at hl 0 rfl) rfl ?_
  refine mg_callVv X hK hw hA 26 [0, 1, 2, 3, 4, 5, 6, 7, 8, 9, 10, 11, 12, 13, 14, 15, 16] 0 (fun uu => [mg_ob mh 6 [.int (nI (0)), .int (nI (np)), .int (nI (nf)), .int (nI (nc)), .ref (qor), .ref (qfa), .ref (qmo), .int (nI (nm)), .ref (qwt), .ref (qrt), .ref (qnw), .ref (qsn), .ref (qlt), .ref (qkn), .ref (qft), .ref (qbf), .ref (qbh), .ref (qjt), .ref (qot), .ref (qsm), .ref (qpt), .ref (qpr), .ref (qch), .ref (qbt), .int (nI (wr)), .ref (qpg)], mg_ai K qor 6 rk, mg_ai K qfa 6 fa, mg_ai K qmo 6 mo, mg_ai K qwt 16 mw, mg_ai K qsn 24 sn, mg_ai K qlt 6 uu.1, mg_az K qkn 4 uu.2.1, mg_ai K qft 256 uu.2.2.1, mg_ai K qrt 4 mr, mg_ai K qnw 4 (su_pt mr nw 4), mg_al K qbf 2048 uu.2.2.2.1, mg_al K qbh 2048 uu.2.2.2.2.2.1, mg_al K qjt 8 uu.2.2.2.2.2.2.2.2.2.2, mg_al K qsm 8 uu.2.2.2.2.2.2.2.1, mg_al K qch 7 uu.2.2.2.2.2.2.2.2.2.1, mg_ai K qbt 64 bt, mg_al K qot 8 dO, mg_al K qpt 8 dP, mg_al K qpr 17 dQ]) rfl rfl (k_Mo_reckonAll l D K mh qor qfa qmo qwt qrt qnw qsn qlt qkn qft qbf qbh qjt qot qsm qpt qpr qch qbt qpg 0 np nf nc nm wr rk fa mo mw sn lt wt ol tl kn ftb mr nw dB VB dE VE dJ VJ dS VS ch bt (by omega) (by omega) (by omega) (by omega) (by omega) (by omega) (by omega) (by omega) (by omega) (by omega) (by omega) (hRB) (hRE) (hRJ) (hRS) (by omega)) g_Mo_185 ⟨by decide, by decide⟩ ⟨rfl, rfl⟩ rfl rfl rfl hl.1 (rest := []) (As := []) rfl (Nat.le_of_ble_eq_true rfl) d_Mo_likely_23 ⟨Nat.zero_le _, Nat.zero_le _⟩ (fun _ => rfl) (fun _ => rfl) rfl ?_
  intro u H locs hA1 hw
  obtain ⟨ua, kn1a, ft1a, dB1a, VB1a, dE1a, VE1a, dS1a, VS1a, ch1a, dJ1a⟩ := u
  dsimp only at hA1 hw
  have hnr : ∀ i, i + 1 < nm → (su_pt mr nw 4) i ≤ 16 := fun i hi => by rw [su_ptl _ _ (by omega)]; exact hn16 i (by omega)
  have hJ := su_J_le (by omega) hm4 (by omega) hnr hFb
  have hPT : zs_sum (2 ^ (2 * nc)) (jn_pt (2 * nc) (su_pt mr nw 4) (fi_fit wt ol tl fa mo rk nf nc) (nm - 1) mk) = jn_J (2 * nc) (su_pt mr nw 4) (fi_fit wt ol tl fa mo rk nf nc) (nm - 1) := jn_pt_all (by omega)
  refine mg_aload_n X 27 d_Mo_likely_26 (lv_at hl 0 rfl) rfl ?_
  refine mg_get X hK hw 30 0 17 f_Mo_48 rfl rfl d_Mo_likely_27 rfl ?_
  refine mg_callSi X hK hw hA 33 [13] (fun _ => [mg_ob mh 6 [.int (nI (0)), .int (nI (np)), .int (nI (nf)), .int (nI (nc)), .ref (qor), .ref (qfa), .ref (qmo), .int (nI (nm)), .ref (qwt), .ref (qrt), .ref (qnw), .ref (qsn), .ref (qlt), .ref (qkn), .ref (qft), .ref (qbf), .ref (qbh), .ref (qjt), .ref (qot), .ref (qsm), .ref (qpt), .ref (qpr), .ref (qch), .ref (qbt), .int (nI (wr)), .ref (qpg)], mg_ai K qor 6 rk, mg_ai K qfa 6 fa, mg_ai K qmo 6 mo, mg_ai K qwt 16 mw, mg_ai K qsn 24 sn, mg_ai K qlt 6 ua, mg_az K qkn 4 kn1a, mg_ai K qft 256 ft1a, mg_ai K qrt 4 mr, mg_ai K qnw 4 (su_pt mr nw 4), mg_al K qbf 2048 dB1a, mg_al K qbh 2048 dE1a, mg_al K qjt 8 dJ1a, mg_al K qsm 8 dS1a, mg_al K qch 7 ch1a, mg_ai K qbt 64 bt, mg_al K qot 8 dO, mg_al K qpt 8 dP, mg_al K qpr 17 dQ]) (k_Mo_isNothing l D K qjt 8 dJ1a (va_up VJ 0 (jn_J (2 * nc) (su_pt mr nw 4) (fi_fit wt ol tl fa mo rk nf nc) (nm - 1))) (hA1.2.2.1) (by omega) (by omega)) g_Mo_174 ⟨by decide, by decide⟩ ⟨rfl, rfl⟩ rfl rfl rfl hl.1 (rest := []) (As := [.ref (qjt)]) rfl (Nat.le_of_ble_eq_true rfl) d_Mo_likely_30 ⟨Nat.zero_le _, Nat.zero_le _⟩ (fun _ => rfl) (fun _ => rfl) rfl ?_
  intro r _ H locs hp9 hw
  subst hp9
  refine mg_bif_eq X 38 36 d_Mo_likely_33 (by decide) rfl (fun hz => ?_) (fun hz => ?_)
  · -- pc 33 t
    refine mg_iconst X 39 0 d_Mo_likely_38 mg_ci_0 rfl ?_
    refine mg_istore_n X 40 [(2, .int (nI (0))), (0, .ref (mh)), (1, .int (nI (mk)))] d_Mo_likely_39 hl (by decide) rfl rfl (fun ls hl => ?_)
    refine mg_iconst X 41 0 d_Mo_likely_40 mg_ci_0 rfl ?_
    refine mg_istore_n X 42 [(3, .int (nI (0))), (2, .int (nI (0))), (0, .ref (mh)), (1, .int (nI (mk)))] d_Mo_likely_41 hl (by decide) rfl rfl (fun ls hl => ?_)
    have L42 : ∀ (n0 : Nat) (k : Nat) (q0 : Nat) (dQ2 : Nat → Nat) (VQ2 : Nat → Nat) (dO2 : Nat → Nat) (VO2 : Nat → Nat), n0 = 2 ^ (2 * nc) - k → (li_R 17 dQ2 VQ2) → (li_R 8 dO2 VO2) → (q0 = su_am (jn_pt (2 * nc) (su_pt mr nw 4) (fi_fit wt ol tl fa mo rk nf nc) (nm - 1) mk) k) → (0 < k → VO2 0 = jn_pt (2 * nc) (su_pt mr nw 4) (fi_fit wt ol tl fa mo rk nf nc) (nm - 1) mk q0) → (k ≤ 2 ^ (2 * nc)) → ∀ (ls : Array Slot) (H : Heap) (locs : List Loc), lv_has ls 4 [(0, .ref (mh)), (1, .int (nI (mk))), (2, .int (nI (q0))), (3, .int (nI (k)))] → mg_H D A s.heap H locs [mg_ob mh 6 [.int (nI (0)), .int (nI (np)), .int (nI (nf)), .int (nI (nc)), .ref (qor), .ref (qfa), .ref (qmo), .int (nI (nm)), .ref (qwt), .ref (qrt), .ref (qnw), .ref (qsn), .ref (qlt), .ref (qkn), .ref (qft), .ref (qbf), .ref (qbh), .ref (qjt), .ref (qot), .ref (qsm), .ref (qpt), .ref (qpr), .ref (qch), .ref (qbt), .int (nI (wr)), .ref (qpg)], mg_ai K qor 6 rk, mg_ai K qfa 6 fa, mg_ai K qmo 6 mo, mg_ai K qwt 16 mw, mg_ai K qsn 24 sn, mg_ai K qlt 6 ua, mg_az K qkn 4 kn1a, mg_ai K qft 256 ft1a, mg_ai K qrt 4 mr, mg_ai K qnw 4 (su_pt mr nw 4), mg_al K qbf 2048 dB1a, mg_al K qbh 2048 dE1a, mg_al K qjt 8 dJ1a, mg_al K qsm 8 dS1a, mg_al K qch 7 ch1a, mg_ai K qbt 64 bt, mg_al K qot 8 dO2, mg_al K qpt 8 dP, mg_al K qpr 17 dQ2] → W p l e ({ frames := 7, cells := 0, slots := 0, locals := 171 }) s m args below meth c H locs 0 0 (MQ below (va_Qi (fun (r : Int32) (uu : (Nat → Nat) × (Nat → Nat) × (Nat → Nat) × (Nat → Nat) × (Nat → Nat) × (Nat → Nat) × (Nat → Nat) × (Nat → Nat) × (Nat → Nat) × (Nat → Nat) × (Nat → Nat) × (Nat → Nat) × (Nat → Nat) × (Nat → Nat) × (Nat → Nat) × (Nat → Nat) × (Nat → Nat) × (Nat → Nat)) => r = nI (if jn_J (2 * nc) (su_pt mr nw 4) (fi_fit wt ol tl fa mo rk nf nc) (nm - 1) = 0 then 4294967295 else su_am (jn_pt (2 * nc) (su_pt mr nw 4) (fi_fit wt ol tl fa mo rk nf nc) (nm - 1) mk) (2 ^ (2 * nc))) ∧ li_R 2048 uu.2.2.2.1 uu.2.2.2.2.1 ∧ li_R 2048 uu.2.2.2.2.2.1 uu.2.2.2.2.2.2.1 ∧ li_R 8 uu.2.2.2.2.2.2.2.2.2.2.1 uu.2.2.2.2.2.2.2.2.2.2.2.1 ∧ li_R 8 uu.2.2.2.2.2.2.2.1 uu.2.2.2.2.2.2.2.2.1 ∧ li_R 8 uu.2.2.2.2.2.2.2.2.2.2.2.2.1 uu.2.2.2.2.2.2.2.2.2.2.2.2.2.1 ∧ li_R 8 uu.2.2.2.2.2.2.2.2.2.2.2.2.2.2.1 uu.2.2.2.2.2.2.2.2.2.2.2.2.2.2.2.1 ∧ li_R 17 uu.2.2.2.2.2.2.2.2.2.2.2.2.2.2.2.2.1 uu.2.2.2.2.2.2.2.2.2.2.2.2.2.2.2.2.2 ∧ mo_kn nm (2 ^ (2 * nc)) uu.2.1 uu.2.2.1 (fi_fit wt ol tl fa mo rk nf nc)) (mg_B D A (fun (uu : (Nat → Nat) × (Nat → Nat) × (Nat → Nat) × (Nat → Nat) × (Nat → Nat) × (Nat → Nat) × (Nat → Nat) × (Nat → Nat) × (Nat → Nat) × (Nat → Nat) × (Nat → Nat) × (Nat → Nat) × (Nat → Nat) × (Nat → Nat) × (Nat → Nat) × (Nat → Nat) × (Nat → Nat) × (Nat → Nat)) => [mg_ob mh 6 [.int (nI (0)), .int (nI (np)), .int (nI (nf)), .int (nI (nc)), .ref (qor), .ref (qfa), .ref (qmo), .int (nI (nm)), .ref (qwt), .ref (qrt), .ref (qnw), .ref (qsn), .ref (qlt), .ref (qkn), .ref (qft), .ref (qbf), .ref (qbh), .ref (qjt), .ref (qot), .ref (qsm), .ref (qpt), .ref (qpr), .ref (qch), .ref (qbt), .int (nI (wr)), .ref (qpg)], mg_ai K qor 6 rk, mg_ai K qfa 6 fa, mg_ai K qmo 6 mo, mg_ai K qwt 16 mw, mg_ai K qsn 24 sn, mg_ai K qlt 6 uu.1, mg_az K qkn 4 uu.2.1, mg_ai K qft 256 uu.2.2.1, mg_ai K qrt 4 mr, mg_ai K qnw 4 (su_pt mr nw 4), mg_al K qbf 2048 uu.2.2.2.1, mg_al K qbh 2048 uu.2.2.2.2.2.1, mg_al K qjt 8 uu.2.2.2.2.2.2.2.2.2.2.1, mg_al K qsm 8 uu.2.2.2.2.2.2.2.1, mg_al K qch 7 uu.2.2.2.2.2.2.2.2.2.1, mg_ai K qbt 64 bt, mg_al K qot 8 uu.2.2.2.2.2.2.2.2.2.2.2.2.1, mg_al K qpt 8 uu.2.2.2.2.2.2.2.2.2.2.2.2.2.2.1, mg_al K qpr 17 uu.2.2.2.2.2.2.2.2.2.2.2.2.2.2.2.2.1])) A) args s 0 0 A) (F0 m 42 ls []) := by
      intro n0
      induction n0 using Nat.strongRecOn with
      | ind n0 ih42 =>
      intro k q0 dQ2 VQ2 dO2 VO2 hm42 hIQ hIO hq0 hVO hk ls H locs hl hw
      refine mg_iload_n X 43 d_Mo_likely_42 (lv_at hl 3 rfl) rfl ?_
      refine mg_aload_n X 44 d_Mo_likely_43 (lv_at hl 0 rfl) rfl ?_
      refine mg_callVi X hK hw hA 47 [0] 0 (fun _ => [mg_ob mh 6 [.int (nI (0)), .int (nI (np)), .int (nI (nf)), .int (nI (nc)), .ref (qor), .ref (qfa), .ref (qmo), .int (nI (nm)), .ref (qwt), .ref (qrt), .ref (qnw), .ref (qsn), .ref (qlt), .ref (qkn), .ref (qft), .ref (qbf), .ref (qbh), .ref (qjt), .ref (qot), .ref (qsm), .ref (qpt), .ref (qpr), .ref (qch), .ref (qbt), .int (nI (wr)), .ref (qpg)], mg_ai K qor 6 rk, mg_ai K qfa 6 fa, mg_ai K qmo 6 mo, mg_ai K qwt 16 mw, mg_ai K qsn 24 sn, mg_ai K qlt 6 ua, mg_az K qkn 4 kn1a, mg_ai K qft 256 ft1a, mg_ai K qrt 4 mr, mg_ai K qnw 4 (su_pt mr nw 4), mg_al K qbf 2048 dB1a, mg_al K qbh 2048 dE1a, mg_al K qjt 8 dJ1a, mg_al K qsm 8 dS1a, mg_al K qch 7 ch1a, mg_ai K qbt 64 bt, mg_al K qot 8 dO2, mg_al K qpt 8 dP, mg_al K qpr 17 dQ2]) rfl rfl (k_Mo_ways l D K mh qor qfa qmo qwt qrt qnw qsn qlt qkn qft qbf qbh qjt qot qsm qpt qpr qch qbt qpg 0 np nf nc nm wr (hf2)) g_Mo_115 ⟨by decide, by decide⟩ ⟨rfl, rfl⟩ rfl rfl rfl hl.1 (rest := [.int (nI (k))]) (As := []) rfl (Nat.le_of_ble_eq_true rfl) d_Mo_likely_44 ⟨Nat.zero_le _, Nat.zero_le _⟩ (fun _ => rfl) (fun _ => rfl) rfl ?_
      intro r _ H locs hp11 hw
      subst hp11
      refine mg_icmp_ge X 130 50 (by omega) (by omega) d_Mo_likely_47 (by decide) rfl (fun hb => ?_) (fun hb => ?_)
      · -- pc 47 t
        refine mg_iload_n X 131 d_Mo_likely_130 (lv_at hl 2 rfl) rfl ?_
        exact mg_iret X hr hlk (rfl) ((ua, kn1a, ft1a, dB1a, VB1a, dE1a, VE1a, dS1a, VS1a, ch1a, dJ1a, va_up VJ 0 (jn_J (2 * nc) (su_pt mr nw 4) (fi_fit wt ol tl fa mo rk nf nc) (nm - 1)), dO2, VO2, dP, VP, dQ2, VQ2)) (⟨by rw [if_neg (fun q => hz ((va_up_self ..).trans q)), hq0, show k = 2 ^ (2 * nc) by omega], hA1.1, hA1.2.1, hA1.2.2.1, hA1.2.2.2.1, hIO, hRP, hIQ, hA1.2.2.2.2.2.2⟩) hw d_Mo_likely_131
      · -- pc 47 f
        refine mg_aload_n X 51 d_Mo_likely_50 (lv_at hl 0 rfl) rfl ?_
        refine mg_aload_n X 52 d_Mo_likely_51 (lv_at hl 0 rfl) rfl ?_
        refine mg_get X hK hw 55 0 15 f_Mo_41 rfl rfl d_Mo_likely_52 rfl ?_
        refine mg_bipush X 57 8 d_Mo_likely_55 mg_cb_8 rfl ?_
        refine mg_bipush X 59 64 d_Mo_likely_57 mg_cb_64 rfl ?_
        refine mg_iload_n X 60 d_Mo_likely_59 (lv_at hl 1 rfl) rfl ?_
        refine mg_imul X 61 (nI (64 * mk)) d_Mo_likely_60 (pk_mul _ _) rfl ?_
        refine mg_iload_n X 62 d_Mo_likely_61 (lv_at hl 3 rfl) rfl ?_
        refine mg_iadd X 63 (nI ((64 * mk) + k)) d_Mo_likely_62 (nI_add _ _) rfl ?_
        refine mg_imul X 64 (nI (8 * ((64 * mk) + k))) d_Mo_likely_63 (pk_mul _ _) rfl ?_
        refine mg_aload_n X 65 d_Mo_likely_64 (lv_at hl 0 rfl) rfl ?_
        refine mg_get X hK hw 68 0 16 f_Mo_45 rfl rfl d_Mo_likely_65 rfl ?_
        refine mg_bipush X 70 8 d_Mo_likely_68 mg_cb_8 rfl ?_
        refine mg_bipush X 72 64 d_Mo_likely_70 mg_cb_64 rfl ?_
        refine mg_iload_n X 73 d_Mo_likely_72 (lv_at hl 1 rfl) rfl ?_
        refine mg_imul X 74 (nI (64 * mk)) d_Mo_likely_73 (pk_mul _ _) rfl ?_
        refine mg_iload_n X 75 d_Mo_likely_74 (lv_at hl 3 rfl) rfl ?_
        refine mg_iadd X 76 (nI ((64 * mk) + k)) d_Mo_likely_75 (nI_add _ _) rfl ?_
        refine mg_imul X 77 (nI (8 * ((64 * mk) + k))) d_Mo_likely_76 (pk_mul _ _) rfl ?_
        have hB9 := hA1.2.2.2.2.1 mk hm k hb
        have hE9 := hA1.2.2.2.2.2.1 mk (Nat.zero_le _) hm k hb
        have hpq : VB1a (64 * mk + k) * VE1a (64 * mk + k) = jn_pt (2 * nc) (su_pt mr nw 4) (fi_fit wt ol tl fa mo rk nf nc) (nm - 1) mk k := by rw [hB9, hE9]; show _ = jn_al _ _ _ _ _ * jn_be _ _ _ _ _ _ * _; rw [Nat.mul_assoc, Nat.mul_assoc, Nat.mul_comm (fi_fit wt ol tl fa mo rk nf nc mk k)]
        have hpl : jn_pt (2 * nc) (su_pt mr nw 4) (fi_fit wt ol tl fa mo rk nf nc) (nm - 1) mk k ≤ 2 ^ 150 := Nat.le_trans (Nat.le_trans (zs_one hb) (Nat.le_of_eq hPT)) hJ
        refine mg_callVv X hK hw hA 80 [0, 19, 11, 12] 0 (fun u12 => [mg_ob mh 6 [.int (nI (0)), .int (nI (np)), .int (nI (nf)), .int (nI (nc)), .ref (qor), .ref (qfa), .ref (qmo), .int (nI (nm)), .ref (qwt), .ref (qrt), .ref (qnw), .ref (qsn), .ref (qlt), .ref (qkn), .ref (qft), .ref (qbf), .ref (qbh), .ref (qjt), .ref (qot), .ref (qsm), .ref (qpt), .ref (qpr), .ref (qch), .ref (qbt), .int (nI (wr)), .ref (qpg)], mg_ai K qor 6 rk, mg_ai K qfa 6 fa, mg_ai K qmo 6 mo, mg_ai K qwt 16 mw, mg_ai K qsn 24 sn, mg_ai K qlt 6 ua, mg_az K qkn 4 kn1a, mg_ai K qft 256 ft1a, mg_ai K qrt 4 mr, mg_ai K qnw 4 (su_pt mr nw 4), mg_al K qbf 2048 dB1a, mg_al K qbh 2048 dE1a, mg_al K qjt 8 dJ1a, mg_al K qsm 8 dS1a, mg_al K qch 7 ch1a, mg_ai K qbt 64 bt, mg_al K qot 8 dO2, mg_al K qpt 8 dP, mg_al K qpr 17 u12]) rfl rfl (k_Mo_multiply l D K mh qor qfa qmo qwt qrt qnw qsn qlt qkn qft qbf qbh qjt qot qsm qpt qpr qch qbt qpg 0 np nf nc nm wr qbf qbh 2048 2048 (8 * ((64 * mk) + k)) (8 * ((64 * mk) + k)) (64 * mk + k) (64 * mk + k) dQ2 VQ2 dB1a VB1a dE1a VE1a (hIQ) (hA1.1) (hA1.2.1) (by omega) (by omega) (by omega) (by omega) (by omega) (by omega) (by rw [hpq]; exact li_lt hpl (by omega))) g_Mo_192 ⟨by decide, by decide⟩ ⟨rfl, rfl⟩ rfl rfl rfl hl.1 (rest := []) (As := [.ref (qbf), .int (nI (8 * ((64 * mk) + k))), .ref (qbh), .int (nI (8 * ((64 * mk) + k)))]) rfl (Nat.le_of_ble_eq_true rfl) d_Mo_likely_77 ⟨Nat.zero_le _, Nat.zero_le _⟩ (fun _ => rfl) (fun _ => rfl) rfl ?_
        intro u12 H locs hp13 hw
        have hQ0 : (mo_pr u12 (VB1a (64 * mk + k) * VE1a (64 * mk + k))) 0 = jn_pt (2 * nc) (su_pt mr nw 4) (fi_fit wt ol tl fa mo rk nf nc) (nm - 1) mk k := (mo_pr0 _ _).trans hpq
        refine mg_iload_n X 81 d_Mo_likely_80 (lv_at hl 3 rfl) rfl ?_
        refine mg_if_eq X 100 84 (by omega) d_Mo_likely_81 (by decide) rfl (fun hk0 => ?_) (fun hk0 => ?_)
        · -- pc 81 t
          refine mg_iload_n X 101 d_Mo_likely_100 (lv_at hl 3 rfl) rfl ?_
          refine mg_istore_n X 102 [(2, .int (nI (k))), (0, .ref (mh)), (1, .int (nI (mk))), (3, .int (nI (k)))] d_Mo_likely_101 hl (by decide) rfl rfl (fun ls hl => ?_)
          refine mg_aload_n X 103 d_Mo_likely_102 (lv_at hl 1 rfl) rfl ?_
          refine mg_get X hK hw 106 0 18 f_Mo_51 rfl rfl d_Mo_likely_103 rfl ?_
          refine mg_iconst X 107 0 d_Mo_likely_106 mg_ci_0 rfl ?_
          refine mg_callSv X hK hw hA 110 [17] (fun u14 => [mg_ob mh 6 [.int (nI (0)), .int (nI (np)), .int (nI (nf)), .int (nI (nc)), .ref (qor), .ref (qfa), .ref (qmo), .int (nI (nm)), .ref (qwt), .ref (qrt), .ref (qnw), .ref (qsn), .ref (qlt), .ref (qkn), .ref (qft), .ref (qbf), .ref (qbh), .ref (qjt), .ref (qot), .ref (qsm), .ref (qpt), .ref (qpr), .ref (qch), .ref (qbt), .int (nI (wr)), .ref (qpg)], mg_ai K qor 6 rk, mg_ai K qfa 6 fa, mg_ai K qmo 6 mo, mg_ai K qwt 16 mw, mg_ai K qsn 24 sn, mg_ai K qlt 6 ua, mg_az K qkn 4 kn1a, mg_ai K qft 256 ft1a, mg_ai K qrt 4 mr, mg_ai K qnw 4 (su_pt mr nw 4), mg_al K qbf 2048 dB1a, mg_al K qbh 2048 dE1a, mg_al K qjt 8 dJ1a, mg_al K qsm 8 dS1a, mg_al K qch 7 ch1a, mg_ai K qbt 64 bt, mg_al K qot 8 u14, mg_al K qpt 8 dP, mg_al K qpr 17 u12]) (k_Mo_clear l D K qot 8 0 0 dO2 VO2 (hIO) (by omega) (by omega) (by omega)) g_Mo_139 ⟨by decide, by decide⟩ ⟨rfl, rfl⟩ rfl rfl rfl hl.1 (rest := []) (As := [.ref (qot), .int (nI (0))]) rfl (Nat.le_of_ble_eq_true rfl) d_Mo_likely_107 ⟨Nat.zero_le _, Nat.zero_le _⟩ (fun _ => rfl) (fun _ => rfl) rfl ?_
          intro u14 H locs hp15 hw
          refine mg_aload_n X 111 d_Mo_likely_110 (lv_at hl 1 rfl) rfl ?_
          refine mg_get X hK hw 114 0 18 f_Mo_51 rfl rfl d_Mo_likely_111 rfl ?_
          refine mg_iconst X 115 0 d_Mo_likely_114 mg_ci_0 rfl ?_
          refine mg_aload_n X 116 d_Mo_likely_115 (lv_at hl 1 rfl) rfl ?_
          refine mg_get X hK hw 119 0 21 f_Mo_60 rfl rfl d_Mo_likely_116 rfl ?_
          refine mg_iconst X 120 0 d_Mo_likely_119 mg_ci_0 rfl ?_
          refine mg_lconst X 121 1 d_Mo_likely_120 rfl rfl ?_
          refine mg_callSv X hK hw hA 124 [17, 19] (fun u16 => [mg_ob mh 6 [.int (nI (0)), .int (nI (np)), .int (nI (nf)), .int (nI (nc)), .ref (qor), .ref (qfa), .ref (qmo), .int (nI (nm)), .ref (qwt), .ref (qrt), .ref (qnw), .ref (qsn), .ref (qlt), .ref (qkn), .ref (qft), .ref (qbf), .ref (qbh), .ref (qjt), .ref (qot), .ref (qsm), .ref (qpt), .ref (qpr), .ref (qch), .ref (qbt), .int (nI (wr)), .ref (qpg)], mg_ai K qor 6 rk, mg_ai K qfa 6 fa, mg_ai K qmo 6 mo, mg_ai K qwt 16 mw, mg_ai K qsn 24 sn, mg_ai K qlt 6 ua, mg_az K qkn 4 kn1a, mg_ai K qft 256 ft1a, mg_ai K qrt 4 mr, mg_ai K qnw 4 (su_pt mr nw 4), mg_al K qbf 2048 dB1a, mg_al K qbh 2048 dE1a, mg_al K qjt 8 dJ1a, mg_al K qsm 8 dS1a, mg_al K qch 7 ch1a, mg_ai K qbt 64 bt, mg_al K qot 8 u16, mg_al K qpt 8 dP, mg_al K qpr 17 u12]) (k_Mo_addTimes l D K qot qpr 8 17 0 0 1 0 0 u14 (va_up VO2 0 0) u12 (mo_pr u12 (VB1a (64 * mk + k) * VE1a (64 * mk + k))) (hp15) (hp13) (by omega) (by omega) (by omega) (by omega) (by omega) (by omega) (by omega) (by rw [va_up_self, hQ0, Nat.zero_add, Nat.mul_one]; exact li_lt hpl (by omega))) g_Mo_143 ⟨by decide, by decide⟩ ⟨rfl, rfl⟩ rfl rfl rfl hl.1 (rest := []) (As := [.ref (qot), .int (nI (0)), .ref (qpr), .int (nI (0)), .long (lN (1))]) rfl (Nat.le_of_ble_eq_true rfl) d_Mo_likely_121 ⟨Nat.zero_le _, Nat.zero_le _⟩ (fun _ => rfl) (fun _ => rfl) rfl ?_
          intro u16 H locs hp17 hw
          refine mg_iinc X 127 [(3, .int (nI (k + 1))), (2, .int (nI (k))), (0, .ref (mh)), (1, .int (nI (mk)))] (k + 1) d_Mo_likely_124 hl (k := 3) rfl (mg_inc1 _) (by decide) rfl rfl (fun ls hl => ?_)
          refine mg_goto X 42 d_Mo_likely_127 (by decide) ?_
          have hl : lv_has ls 4 [(0, .ref (mh)), (1, .int (nI (mk))), (2, .int (nI (k))), (3, .int (nI (k + 1)))] := lv_sub hl [2, 3, 1, 0] rfl
          exact ih42 _ (by omega) (k + 1) k u12 (mo_pr u12 (VB1a (64 * mk + k) * VE1a (64 * mk + k))) u16 (va_up (va_up VO2 0 0) 0 ((va_up VO2 0 0) 0 + (mo_pr u12 (VB1a (64 * mk + k) * VE1a (64 * mk + k))) 0 * 1)) rfl (hp13) (hp17) (by rw [show k = 0 from hk0]; exact (su_am1 _).symm) (fun _ => by rw [va_up_self, va_up_self, hQ0, Nat.zero_add, Nat.mul_one]) (by omega) ls _ _ hl hw
        · -- pc 81 f
          refine mg_aload_n X 85 d_Mo_likely_84 (lv_at hl 0 rfl) rfl ?_
          refine mg_get X hK hw 88 0 21 f_Mo_60 rfl rfl d_Mo_likely_85 rfl ?_
          refine mg_iconst X 89 0 d_Mo_likely_88 mg_ci_0 rfl ?_
          refine mg_aload_n X 90 d_Mo_likely_89 (lv_at hl 0 rfl) rfl ?_
          refine mg_get X hK hw 93 0 18 f_Mo_51 rfl rfl d_Mo_likely_90 rfl ?_
          refine mg_iconst X 94 0 d_Mo_likely_93 mg_ci_0 rfl ?_
          refine mg_callSi X hK hw hA 97 [19, 17] (fun _ => [mg_ob mh 6 [.int (nI (0)), .int (nI (np)), .int (nI (nf)), .int (nI (nc)), .ref (qor), .ref (qfa), .ref (qmo), .int (nI (nm)), .ref (qwt), .ref (qrt), .ref (qnw), .ref (qsn), .ref (qlt), .ref (qkn), .ref (qft), .ref (qbf), .ref (qbh), .ref (qjt), .ref (qot), .ref (qsm), .ref (qpt), .ref (qpr), .ref (qch), .ref (qbt), .int (nI (wr)), .ref (qpg)], mg_ai K qor 6 rk, mg_ai K qfa 6 fa, mg_ai K qmo 6 mo, mg_ai K qwt 16 mw, mg_ai K qsn 24 sn, mg_ai K qlt 6 ua, mg_az K qkn 4 kn1a, mg_ai K qft 256 ft1a, mg_ai K qrt 4 mr, mg_ai K qnw 4 (su_pt mr nw 4), mg_al K qbf 2048 dB1a, mg_al K qbh 2048 dE1a, mg_al K qjt 8 dJ1a, mg_al K qsm 8 dS1a, mg_al K qch 7 ch1a, mg_ai K qbt 64 bt, mg_al K qot 8 dO2, mg_al K qpt 8 dP, mg_al K qpr 17 u12]) (k_Mo_compare l D K qpr qot 17 8 0 0 0 0 u12 (mo_pr u12 (VB1a (64 * mk + k) * VE1a (64 * mk + k))) dO2 VO2 (hp13) (hIO) (by omega) (by omega) (by omega) (by omega) (by omega) (by omega)) g_Mo_147 ⟨by decide, by decide⟩ ⟨rfl, rfl⟩ rfl rfl rfl hl.1 (rest := []) (As := [.ref (qpr), .int (nI (0)), .ref (qot), .int (nI (0))]) rfl (Nat.le_of_ble_eq_true rfl) d_Mo_likely_94 ⟨Nat.zero_le _, Nat.zero_le _⟩ (fun _ => rfl) (fun _ => rfl) rfl ?_
          intro r _ H locs hp19 hw
          subst hp19
          refine mg_cif_le X 124 100 d_Mo_likely_97 (by decide) rfl (fun hc => ?_) (fun hc => ?_)
          · -- pc 97 t
            have hc9 : jn_pt (2 * nc) (su_pt mr nw 4) (fi_fit wt ol tl fa mo rk nf nc) (nm - 1) mk k ≤ jn_pt (2 * nc) (su_pt mr nw 4) (fi_fit wt ol tl fa mo rk nf nc) (nm - 1) mk q0 := by rw [hQ0, hVO (Nat.pos_of_ne_zero hk0)] at hc; exact hc
            refine mg_iinc X 127 [(3, .int (nI (k + 1))), (0, .ref (mh)), (1, .int (nI (mk))), (2, .int (nI (q0)))] (k + 1) d_Mo_likely_124 hl (k := 3) rfl (mg_inc1 _) (by decide) rfl rfl (fun ls hl => ?_)
            refine mg_goto X 42 d_Mo_likely_127 (by decide) ?_
            have hl : lv_has ls 4 [(0, .ref (mh)), (1, .int (nI (mk))), (2, .int (nI (q0))), (3, .int (nI (k + 1)))] := lv_sub hl [1, 2, 3, 0] rfl
            exact ih42 _ (by omega) (k + 1) q0 u12 (mo_pr u12 (VB1a (64 * mk + k) * VE1a (64 * mk + k))) dO2 VO2 rfl (hp13) (hIO) (by rw [hq0]; exact (su_amn (by rw [← hq0]; exact hc9)).symm) (fun _ => hVO (Nat.pos_of_ne_zero hk0)) (by omega) ls _ _ hl hw
          · -- pc 97 f
            have hc9 : jn_pt (2 * nc) (su_pt mr nw 4) (fi_fit wt ol tl fa mo rk nf nc) (nm - 1) mk q0 < jn_pt (2 * nc) (su_pt mr nw 4) (fi_fit wt ol tl fa mo rk nf nc) (nm - 1) mk k := by rw [hQ0, hVO (Nat.pos_of_ne_zero hk0)] at hc; exact hc
            refine mg_iload_n X 101 d_Mo_likely_100 (lv_at hl 3 rfl) rfl ?_
            refine mg_istore_n X 102 [(2, .int (nI (k))), (0, .ref (mh)), (1, .int (nI (mk))), (3, .int (nI (k)))] d_Mo_likely_101 hl (by decide) rfl rfl (fun ls hl => ?_)
            refine mg_aload_n X 103 d_Mo_likely_102 (lv_at hl 1 rfl) rfl ?_
            refine mg_get X hK hw 106 0 18 f_Mo_51 rfl rfl d_Mo_likely_103 rfl ?_
            refine mg_iconst X 107 0 d_Mo_likely_106 mg_ci_0 rfl ?_
            refine mg_callSv X hK hw hA 110 [17] (fun u20 => [mg_ob mh 6 [.int (nI (0)), .int (nI (np)), .int (nI (nf)), .int (nI (nc)), .ref (qor), .ref (qfa), .ref (qmo), .int (nI (nm)), .ref (qwt), .ref (qrt), .ref (qnw), .ref (qsn), .ref (qlt), .ref (qkn), .ref (qft), .ref (qbf), .ref (qbh), .ref (qjt), .ref (qot), .ref (qsm), .ref (qpt), .ref (qpr), .ref (qch), .ref (qbt), .int (nI (wr)), .ref (qpg)], mg_ai K qor 6 rk, mg_ai K qfa 6 fa, mg_ai K qmo 6 mo, mg_ai K qwt 16 mw, mg_ai K qsn 24 sn, mg_ai K qlt 6 ua, mg_az K qkn 4 kn1a, mg_ai K qft 256 ft1a, mg_ai K qrt 4 mr, mg_ai K qnw 4 (su_pt mr nw 4), mg_al K qbf 2048 dB1a, mg_al K qbh 2048 dE1a, mg_al K qjt 8 dJ1a, mg_al K qsm 8 dS1a, mg_al K qch 7 ch1a, mg_ai K qbt 64 bt, mg_al K qot 8 u20, mg_al K qpt 8 dP, mg_al K qpr 17 u12]) (k_Mo_clear l D K qot 8 0 0 dO2 VO2 (hIO) (by omega) (by omega) (by omega)) g_Mo_139 ⟨by decide, by decide⟩ ⟨rfl, rfl⟩ rfl rfl rfl hl.1 (rest := []) (As := [.ref (qot), .int (nI (0))]) rfl (Nat.le_of_ble_eq_true rfl) d_Mo_likely_107 ⟨Nat.zero_le _, Nat.zero_le _⟩ (fun _ => rfl) (fun _ => rfl) rfl ?_
            intro u20 H locs hp21 hw
            refine mg_aload_n X 111 d_Mo_likely_110 (lv_at hl 1 rfl) rfl ?_
            refine mg_get X hK hw 114 0 18 f_Mo_51 rfl rfl d_Mo_likely_111 rfl ?_
            refine mg_iconst X 115 0 d_Mo_likely_114 mg_ci_0 rfl ?_
            refine mg_aload_n X 116 d_Mo_likely_115 (lv_at hl 1 rfl) rfl ?_
            refine mg_get X hK hw 119 0 21 f_Mo_60 rfl rfl d_Mo_likely_116 rfl ?_
            refine mg_iconst X 120 0 d_Mo_likely_119 mg_ci_0 rfl ?_
            refine mg_lconst X 121 1 d_Mo_likely_120 rfl rfl ?_
            refine mg_callSv X hK hw hA 124 [17, 19] (fun u22 => [mg_ob mh 6 [.int (nI (0)), .int (nI (np)), .int (nI (nf)), .int (nI (nc)), .ref (qor), .ref (qfa), .ref (qmo), .int (nI (nm)), .ref (qwt), .ref (qrt), .ref (qnw), .ref (qsn), .ref (qlt), .ref (qkn), .ref (qft), .ref (qbf), .ref (qbh), .ref (qjt), .ref (qot), .ref (qsm), .ref (qpt), .ref (qpr), .ref (qch), .ref (qbt), .int (nI (wr)), .ref (qpg)], mg_ai K qor 6 rk, mg_ai K qfa 6 fa, mg_ai K qmo 6 mo, mg_ai K qwt 16 mw, mg_ai K qsn 24 sn, mg_ai K qlt 6 ua, mg_az K qkn 4 kn1a, mg_ai K qft 256 ft1a, mg_ai K qrt 4 mr, mg_ai K qnw 4 (su_pt mr nw 4), mg_al K qbf 2048 dB1a, mg_al K qbh 2048 dE1a, mg_al K qjt 8 dJ1a, mg_al K qsm 8 dS1a, mg_al K qch 7 ch1a, mg_ai K qbt 64 bt, mg_al K qot 8 u22, mg_al K qpt 8 dP, mg_al K qpr 17 u12]) (k_Mo_addTimes l D K qot qpr 8 17 0 0 1 0 0 u20 (va_up VO2 0 0) u12 (mo_pr u12 (VB1a (64 * mk + k) * VE1a (64 * mk + k))) (hp21) (hp13) (by omega) (by omega) (by omega) (by omega) (by omega) (by omega) (by omega) (by rw [va_up_self, hQ0, Nat.zero_add, Nat.mul_one]; exact li_lt hpl (by omega))) g_Mo_143 ⟨by decide, by decide⟩ ⟨rfl, rfl⟩ rfl rfl rfl hl.1 (rest := []) (As := [.ref (qot), .int (nI (0)), .ref (qpr), .int (nI (0)), .long (lN (1))]) rfl (Nat.le_of_ble_eq_true rfl) d_Mo_likely_121 ⟨Nat.zero_le _, Nat.zero_le _⟩ (fun _ => rfl) (fun _ => rfl) rfl ?_
            intro u22 H locs hp23 hw
            refine mg_iinc X 127 [(3, .int (nI (k + 1))), (2, .int (nI (k))), (0, .ref (mh)), (1, .int (nI (mk)))] (k + 1) d_Mo_likely_124 hl (k := 3) rfl (mg_inc1 _) (by decide) rfl rfl (fun ls hl => ?_)
            refine mg_goto X 42 d_Mo_likely_127 (by decide) ?_
            have hl : lv_has ls 4 [(0, .ref (mh)), (1, .int (nI (mk))), (2, .int (nI (k))), (3, .int (nI (k + 1)))] := lv_sub hl [2, 3, 1, 0] rfl
            exact ih42 _ (by omega) (k + 1) k u12 (mo_pr u12 (VB1a (64 * mk + k) * VE1a (64 * mk + k))) u22 (va_up (va_up VO2 0 0) 0 ((va_up VO2 0 0) 0 + (mo_pr u12 (VB1a (64 * mk + k) * VE1a (64 * mk + k))) 0 * 1)) rfl (hp13) (hp23) ((su_amy (by rw [← hq0]; exact hc9)).symm) (fun _ => by rw [va_up_self, va_up_self, hQ0, Nat.zero_add, Nat.mul_one]) (by omega) ls _ _ hl hw
    have hl : lv_has ls 4 [(0, .ref (mh)), (1, .int (nI (mk))), (2, .int (nI (0))), (3, .int (nI (0)))] := lv_sub hl [2, 3, 1, 0] rfl
    exact L42 _ 0 0 dQ VQ dO VO rfl (hRQ) (hRO) (rfl) (fun q => absurd q (Nat.lt_irrefl 0)) (Nat.zero_le _) ls _ _ hl hw
  · -- pc 33 f
    refine mg_iconst X 37 4294967295 d_Mo_likely_36 mg_ci_m1 rfl ?_
    exact mg_iret X hr hlk (rfl) ((ua, kn1a, ft1a, dB1a, VB1a, dE1a, VE1a, dS1a, VS1a, ch1a, dJ1a, va_up VJ 0 (jn_J (2 * nc) (su_pt mr nw 4) (fi_fit wt ol tl fa mo rk nf nc) (nm - 1)), dO, VO, dP, VP, dQ, VQ)) (⟨by rw [if_pos (show jn_J (2 * nc) (su_pt mr nw 4) (fi_fit wt ol tl fa mo rk nf nc) (nm - 1) = 0 by rw [← hz]; exact (va_up_self ..).symm)], hA1.1, hA1.2.1, hA1.2.2.1, hA1.2.2.2.1, hRO, hRP, hRQ, hA1.2.2.2.2.2.2⟩) hw d_Mo_likely_37
