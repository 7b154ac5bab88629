set_option maxRecDepth 100000 in
set_option maxHeartbeats 4000000 in
theorem k_Mo_turnedN (l : Launch) (D : va_G) (K : Nat → ClassId) (mh : Nat) (qor : Nat) (qfa : Nat) (qmo : Nat) (qwt : Nat) (qrt : Nat) (qnw : Nat) (qsn : Nat) (qlt : Nat) (qkn : Nat) (qft : Nat) (qbf : Nat) (qbh : Nat) (qjt : Nat) (qot : Nat) (qsm : Nat) (qpt : Nat) (qpr : Nat) (qch : Nat) (qbt : Nat) (qpg : Nat) (flt : Nat) (np : Nat) (nf : Nat) (nc : Nat) (nm : Nat) (wr : Nat) (m1 : Int32) (b1 : Int32) (hnp : np = nf + nc) (hnf : nf ≤ 3) (hnc : nc ≤ 3) (hnm4 : nm ≤ 4) (hx : ¬ (mg_lt m1 nm ∧ mg_lt b1 (2 * nc))) : mg_Mi l D K y_Mo_turned b_Mo_turned 4 (.int) ({ frames := 1, cells := 0, slots := 0, locals := 21 }) [.ref (mh), .int (m1), .int (b1)] [mg_ob mh 6 [.int (nI (flt)), .int (nI (np)), .int (nI (nf)), .int (nI (nc)), .ref (qor), .ref (qfa), .ref (qmo), .int (nI (nm)), .ref (qwt), .ref (qrt), .ref (qnw), .ref (qsn), .ref (qlt), .ref (qkn), .ref (qft), .ref (qbf), .ref (qbh), .ref (qjt), .ref (qot), .ref (qsm), .ref (qpt), .ref (qpr), .ref (qch), .ref (qbt), .int (nI (wr)), .ref (qpg)]] (fun (r : Int32) (_ : Unit) => r = nI (0)) (fun (_ : Unit) => [mg_ob mh 6 [.int (nI (1)), .int (nI (np)), .int (nI (nf)), .int (nI (nc)), .ref (qor), .ref (qfa), .ref (qmo), .int (nI (nm)), .ref (qwt), .ref (qrt), .ref (qnw), .ref (qsn), .ref (qlt), .ref (qkn), .ref (qft), .ref (qbf), .ref (qbh), .ref (qjt), .ref (qot), .ref (qsm), .ref (qpt), .ref (qpr), .ref (qch), .ref (qbt), .int (nI (wr)), .ref (qpg)]]) := by
  intro sz
  refine mg_entry (Qc := fun A => va_Qi (fun (r : Int32) (_ : Unit) => r = nI (0)) (mg_B D A (fun (_ : Unit) => [mg_ob mh 6 [.int (nI (1)), .int (nI (np)), .int (nI (nf)), .int (nI (nc)), .ref (qor), .ref (qfa), .ref (qmo), .int (nI (nm)), .ref (qwt), .ref (qrt), .ref (qnw), .ref (qsn), .ref (qlt), .ref (qkn), .ref (qft), .ref (qbf), .ref (qbh), .ref (qjt), .ref (qot), .ref (qsm), .ref (qpt), .ref (qpr), .ref (qch), .ref (qbt), .int (nI (wr)), .ref (qpg)]])) A) (by decide) (Nat.le_of_ble_eq_true rfl) ?_
  intro p e s m args below meth c A ls X hr hlk hnm hA hK hw hl
  have hl : lv_has ls 4 [(0, .ref (mh)), (1, .int (m1)), (2, .int (b1))] := hl
  refine mg_aload_n X 1 d_Mo_turned_0 (lv_at hl 0 rfl) rfl ?_
  refine mg_iload_n X 2 d_Mo_turned_1 (lv_at hl 1 rfl) rfl ?_
  refine mg_callVi X hK hw hA 5 [0] 0 (fun _ => [mg_ob mh 6 [.int (nI (flt)), .int (nI (np)), .int (nI (nf)), .int (nI (nc)), .ref (qor), .ref (qfa), .ref (qmo), .int (nI (nm)), .ref (qwt), .ref (qrt), .ref (qnw), .ref (qsn), .ref (qlt), .ref (qkn), .ref (qft), .ref (qbf), .ref (qbh), .ref (qjt), .ref (qot), .ref (qsm), .ref (qpt), .ref (qpr), .ref (qch), .ref (qbt), .int (nI (wr)), .ref (qpg)]]) rfl rfl (k_Mo_isMarker l D K mh qor qfa qmo qwt qrt qnw qsn qlt qkn qft qbf qbh qjt qot qsm qpt qpr qch qbt qpg flt np nf nc nm wr m1 (by first | exact hnm4 | omega)) g_Mo_109 ⟨by decide, by decide⟩ ⟨rfl, rfl⟩ rfl rfl rfl hl.1 (rest := []) (As := [.int (m1)]) rfl (Nat.le_of_ble_eq_true rfl) d_Mo_turned_2 ⟨Nat.zero_le _, Nat.zero_le _⟩ (fun _ => rfl) (fun _ => rfl) rfl ?_
  intro r _ H locs hp2 hw
  subst hp2
  refine mg_bif_eq X 26 8 d_Mo_turned_5 (by decide) rfl (fun b3 => ?_) (fun b3 => ?_)
  · -- pc 5 t
    refine mg_iconst X 27 0 d_Mo_turned_26 mg_ci_0 rfl ?_
    refine mg_istore_n X 28 [(3, .int (nI (0))), (0, .ref (mh)), (1, .int (m1)), (2, .int (b1))] d_Mo_turned_27 hl (by decide) rfl rfl (fun ls hl => ?_)
    refine mg_aload_n X 29 d_Mo_turned_28 (lv_at hl 1 rfl) rfl ?_
    refine mg_iload_n X 30 d_Mo_turned_29 (lv_at hl 0 rfl) rfl ?_
    refine mg_if_eq X 37 33 (by decide) d_Mo_turned_30 (by decide) rfl (fun _ => ?_) (fun b4 => absurd b4 (by decide))
    refine mg_iconst X 38 1 d_Mo_turned_37 mg_ci_1 rfl ?_
    refine mg_callVi X hK hw hA 41 [0] 0 (fun _ => [mg_ob mh 6 [.int (nI (1)), .int (nI (np)), .int (nI (nf)), .int (nI (nc)), .ref (qor), .ref (qfa), .ref (qmo), .int (nI (nm)), .ref (qwt), .ref (qrt), .ref (qnw), .ref (qsn), .ref (qlt), .ref (qkn), .ref (qft), .ref (qbf), .ref (qbh), .ref (qjt), .ref (qot), .ref (qsm), .ref (qpt), .ref (qpr), .ref (qch), .ref (qbt), .int (nI (wr)), .ref (qpg)]]) rfl rfl (k_Mo_refused l D K mh qor qfa qmo qwt qrt qnw qsn qlt qkn qft qbf qbh qjt qot qsm qpt qpr qch qbt qpg flt np nf nc nm wr 1 (by omega)) g_Mo_96 ⟨by decide, by decide⟩ ⟨rfl, rfl⟩ rfl rfl rfl hl.1 (rest := []) (As := [.int (nI (1))]) rfl (Nat.le_of_ble_eq_true rfl) d_Mo_turned_38 ⟨Nat.zero_le _, Nat.zero_le _⟩ (fun _ => rfl) (fun _ => rfl) rfl ?_
    intro r _ H locs hp6 hw
    subst hp6
    refine mg_bif_eq X 48 44 d_Mo_turned_41 (by decide) rfl (fun b7 => absurd b7 (by decide)) (fun _ => ?_)
    refine mg_iconst X 45 0 d_Mo_turned_44 mg_ci_0 rfl ?_
    refine mg_goto X 56 d_Mo_turned_45 (by decide) ?_
    exact mg_iret X hr hlk (rfl) (()) (rfl) hw d_Mo_turned_56
  · -- pc 5 f
    obtain ⟨jm1, hm1, rfl⟩ := b3
    refine mg_iload_n X 9 d_Mo_turned_8 (lv_at hl 2 rfl) rfl ?_
    refine mg_iflt_r X 26 12 d_Mo_turned_9 (by decide) rfl (fun b8 => ?_) (fun j hj ej => ?_)
    · -- pc 9 t
      refine mg_iconst X 27 0 d_Mo_turned_26 mg_ci_0 rfl ?_
      refine mg_istore_n X 28 [(3, .int (nI (0))), (0, .ref (mh)), (1, .int (nI (jm1))), (2, .int (b1))] d_Mo_turned_27 hl (by decide) rfl rfl (fun ls hl => ?_)
      refine mg_aload_n X 29 d_Mo_turned_28 (lv_at hl 1 rfl) rfl ?_
      refine mg_iload_n X 30 d_Mo_turned_29 (lv_at hl 0 rfl) rfl ?_
      refine mg_if_eq X 37 33 (by decide) d_Mo_turned_30 (by decide) rfl (fun _ => ?_) (fun b9 => absurd b9 (by decide))
      refine mg_iconst X 38 1 d_Mo_turned_37 mg_ci_1 rfl ?_
      refine mg_callVi X hK hw hA 41 [0] 0 (fun _ => [mg_ob mh 6 [.int (nI (1)), .int (nI (np)), .int (nI (nf)), .int (nI (nc)), .ref (qor), .ref (qfa), .ref (qmo), .int (nI (nm)), .ref (qwt), .ref (qrt), .ref (qnw), .ref (qsn), .ref (qlt), .ref (qkn), .ref (qft), .ref (qbf), .ref (qbh), .ref (qjt), .ref (qot), .ref (qsm), .ref (qpt), .ref (qpr), .ref (qch), .ref (qbt), .int (nI (wr)), .ref (qpg)]]) rfl rfl (k_Mo_refused l D K mh qor qfa qmo qwt qrt qnw qsn qlt qkn qft qbf qbh qjt qot qsm qpt qpr qch qbt qpg flt np nf nc nm wr 1 (by omega)) g_Mo_96 ⟨by decide, by decide⟩ ⟨rfl, rfl⟩ rfl rfl rfl hl.1 (rest := []) (As := [.int (nI (1))]) rfl (Nat.le_of_ble_eq_true rfl) d_Mo_turned_38 ⟨Nat.zero_le _, Nat.zero_le _⟩ (fun _ => rfl) (fun _ => rfl) rfl ?_
      intro r _ H locs hp11 hw
      subst hp11
      refine mg_bif_eq X 48 44 d_Mo_turned_41 (by decide) rfl (fun b12 => absurd b12 (by decide)) (fun _ => ?_)
      refine mg_iconst X 45 0 d_Mo_turned_44 mg_ci_0 rfl ?_
      refine mg_goto X 56 d_Mo_turned_45 (by decide) ?_
      exact mg_iret X hr hlk (rfl) (()) (rfl) hw d_Mo_turned_56
    · -- pc 9 f
      subst ej
      refine mg_iload_n X 13 d_Mo_turned_12 (lv_at hl 2 rfl) rfl ?_
      refine mg_iconst X 14 2 d_Mo_turned_13 mg_ci_2 rfl ?_
      refine mg_aload_n X 15 d_Mo_turned_14 (lv_at hl 0 rfl) rfl ?_
      refine mg_get X hK hw 18 0 3 f_Mo_86 rfl rfl d_Mo_turned_15 rfl ?_
      refine mg_imul X 19 (nI (2 * nc)) d_Mo_turned_18 (pk_mul _ _) rfl ?_
      refine mg_icmp_ge X 26 22 (by omega) (by omega) d_Mo_turned_19 (by decide) rfl (fun h9 => ?_) (fun h9 => ?_)
      · -- pc 19 t
        refine mg_iconst X 27 0 d_Mo_turned_26 mg_ci_0 rfl ?_
        refine mg_istore_n X 28 [(3, .int (nI (0))), (0, .ref (mh)), (1, .int (nI (jm1))), (2, .int (nI (j)))] d_Mo_turned_27 hl (by decide) rfl rfl (fun ls hl => ?_)
        refine mg_aload_n X 29 d_Mo_turned_28 (lv_at hl 1 rfl) rfl ?_
        refine mg_iload_n X 30 d_Mo_turned_29 (lv_at hl 0 rfl) rfl ?_
        refine mg_if_eq X 37 33 (by decide) d_Mo_turned_30 (by decide) rfl (fun _ => ?_) (fun b13 => absurd b13 (by decide))
        refine mg_iconst X 38 1 d_Mo_turned_37 mg_ci_1 rfl ?_
        refine mg_callVi X hK hw hA 41 [0] 0 (fun _ => [mg_ob mh 6 [.int (nI (1)), .int (nI (np)), .int (nI (nf)), .int (nI (nc)), .ref (qor), .ref (qfa), .ref (qmo), .int (nI (nm)), .ref (qwt), .ref (qrt), .ref (qnw), .ref (qsn), .ref (qlt), .ref (qkn), .ref (qft), .ref (qbf), .ref (qbh), .ref (qjt), .ref (qot), .ref (qsm), .ref (qpt), .ref (qpr), .ref (qch), .ref (qbt), .int (nI (wr)), .ref (qpg)]]) rfl rfl (k_Mo_refused l D K mh qor qfa qmo qwt qrt qnw qsn qlt qkn qft qbf qbh qjt qot qsm qpt qpr qch qbt qpg flt np nf nc nm wr 1 (by omega)) g_Mo_96 ⟨by decide, by decide⟩ ⟨rfl, rfl⟩ rfl rfl rfl hl.1 (rest := []) (As := [.int (nI (1))]) rfl (Nat.le_of_ble_eq_true rfl) d_Mo_turned_38 ⟨Nat.zero_le _, Nat.zero_le _⟩ (fun _ => rfl) (fun _ => rfl) rfl ?_
        intro r _ H locs hp15 hw
        subst hp15
        refine mg_bif_eq X 48 44 d_Mo_turned_41 (by decide) rfl (fun b16 => absurd b16 (by decide)) (fun _ => ?_)
        refine mg_iconst X 45 0 d_Mo_turned_44 mg_ci_0 rfl ?_
        refine mg_goto X 56 d_Mo_turned_45 (by decide) ?_
        exact mg_iret X hr hlk (rfl) (()) (rfl) hw d_Mo_turned_56
      · -- pc 19 f
        exact absurd ⟨⟨jm1, hm1, rfl⟩, ⟨j, h9, rfl⟩⟩ hx

set_option maxRecDepth 100000 in
set_option maxHeartbeats 4000000 in
theorem k_Mo_sharedN (l : Launch) (D : va_G) (K : Nat → ClassId) (mh : Nat) (qor : Nat) (qfa : Nat) (qmo : Nat) (qwt : Nat) (qrt : Nat) (qnw : Nat) (qsn : Nat) (qlt : Nat) (qkn : Nat) (qft : Nat) (qbf : Nat) (qbh : Nat) (qjt : Nat) (qot : Nat) (qsm : Nat) (qpt : Nat) (qpr : Nat) (qch : Nat) (qbt : Nat) (qpg : Nat) (flt : Nat) (np : Nat) (nf : Nat) (nc : Nat) (nm : Nat) (wr : Nat) (m1 : Int32) (p1 : Int32) (p2 : Int32) (hnp6 : np ≤ 6) (hnm4 : nm ≤ 4) (hx : ¬ (mg_lt m1 nm ∧ mg_lt p1 np ∧ mg_lt p2 np)) : mg_Mi l D K y_Mo_shared b_Mo_shared 5 (.int) ({ frames := 1, cells := 0, slots := 0, locals := 21 }) [.ref (mh), .int (m1), .int (p1), .int (p2)] [mg_ob mh 6 [.int (nI (flt)), .int (nI (np)), .int (nI (nf)), .int (nI (nc)), .ref (qor), .ref (qfa), .ref (qmo), .int (nI (nm)), .ref (qwt), .ref (qrt), .ref (qnw), .ref (qsn), .ref (qlt), .ref (qkn), .ref (qft), .ref (qbf), .ref (qbh), .ref (qjt), .ref (qot), .ref (qsm), .ref (qpt), .ref (qpr), .ref (qch), .ref (qbt), .int (nI (wr)), .ref (qpg)]] (fun (r : Int32) (_ : Unit) => r = nI (0)) (fun (_ : Unit) => [mg_ob mh 6 [.int (nI (1)), .int (nI (np)), .int (nI (nf)), .int (nI (nc)), .ref (qor), .ref (qfa), .ref (qmo), .int (nI (nm)), .ref (qwt), .ref (qrt), .ref (qnw), .ref (qsn), .ref (qlt), .ref (qkn), .ref (qft), .ref (qbf), .ref (qbh), .ref (qjt), .ref (qot), .ref (qsm), .ref (qpt), .ref (qpr), .ref (qch), .ref (qbt), .int (nI (wr)), .ref (qpg)]]) := by
  intro sz
  refine mg_entry (Qc := fun A => va_Qi (fun (r : Int32) (_ : Unit) => r = nI (0)) (mg_B D A (fun (_ : Unit) => [mg_ob mh 6 [.int (nI (1)), .int (nI (np)), .int (nI (nf)), .int (nI (nc)), .ref (qor), .ref (qfa), .ref (qmo), .int (nI (nm)), .ref (qwt), .ref (qrt), .ref (qnw), .ref (qsn), .ref (qlt), .ref (qkn), .ref (qft), .ref (qbf), .ref (qbh), .ref (qjt), .ref (qot), .ref (qsm), .ref (qpt), .ref (qpr), .ref (qch), .ref (qbt), .int (nI (wr)), .ref (qpg)]])) A) (by decide) (Nat.le_of_ble_eq_true rfl) ?_
  intro p e s m args below meth c A ls X hr hlk hnm hA hK hw hl
  have hl : lv_has ls 5 [(0, .ref (mh)), (1, .int (m1)), (2, .int (p1)), (3, .int (p2))] := hl
  refine mg_aload_n X 1 d_Mo_shared_0 (lv_at hl 0 rfl) rfl ?_
  refine mg_iload_n X 2 d_Mo_shared_1 (lv_at hl 1 rfl) rfl ?_
  refine mg_callVi X hK hw hA 5 [0] 0 (fun _ => [mg_ob mh 6 [.int (nI (flt)), .int (nI (np)), .int (nI (nf)), .int (nI (nc)), .ref (qor), .ref (qfa), .ref (qmo), .int (nI (nm)), .ref (qwt), .ref (qrt), .ref (qnw), .ref (qsn), .ref (qlt), .ref (qkn), .ref (qft), .ref (qbf), .ref (qbh), .ref (qjt), .ref (qot), .ref (qsm), .ref (qpt), .ref (qpr), .ref (qch), .ref (qbt), .int (nI (wr)), .ref (qpg)]]) rfl rfl (k_Mo_isMarker l D K mh qor qfa qmo qwt qrt qnw qsn qlt qkn qft qbf qbh qjt qot qsm qpt qpr qch qbt qpg flt np nf nc nm wr m1 (by first | exact hnm4 | omega)) g_Mo_109 ⟨by decide, by decide⟩ ⟨rfl, rfl⟩ rfl rfl rfl hl.1 (rest := []) (As := [.int (m1)]) rfl (Nat.le_of_ble_eq_true rfl) d_Mo_shared_2 ⟨Nat.zero_le _, Nat.zero_le _⟩ (fun _ => rfl) (fun _ => rfl) rfl ?_
  intro r _ H locs hp2 hw
  subst hp2
  refine mg_bif_eq X 28 8 d_Mo_shared_5 (by decide) rfl (fun b3 => ?_) (fun b3 => ?_)
  · -- pc 5 t
    refine mg_iconst X 29 0 d_Mo_shared_28 mg_ci_0 rfl ?_
    refine mg_istore X 31 [(4, .int (nI (0))), (0, .ref (mh)), (1, .int (m1)), (2, .int (p1)), (3, .int (p2))] d_Mo_shared_29 hl (by decide) rfl rfl (fun ls hl => ?_)
    refine mg_aload_n X 32 d_Mo_shared_31 (lv_at hl 1 rfl) rfl ?_
    refine mg_iload X 34 d_Mo_shared_32 (lv_at hl 0 rfl) rfl ?_
    refine mg_if_eq X 41 37 (by decide) d_Mo_shared_34 (by decide) rfl (fun _ => ?_) (fun b4 => absurd b4 (by decide))
    refine mg_iconst X 42 1 d_Mo_shared_41 mg_ci_1 rfl ?_
    refine mg_callVi X hK hw hA 45 [0] 0 (fun _ => [mg_ob mh 6 [.int (nI (1)), .int (nI (np)), .int (nI (nf)), .int (nI (nc)), .ref (qor), .ref (qfa), .ref (qmo), .int (nI (nm)), .ref (qwt), .ref (qrt), .ref (qnw), .ref (qsn), .ref (qlt), .ref (qkn), .ref (qft), .ref (qbf), .ref (qbh), .ref (qjt), .ref (qot), .ref (qsm), .ref (qpt), .ref (qpr), .ref (qch), .ref (qbt), .int (nI (wr)), .ref (qpg)]]) rfl rfl (k_Mo_refused l D K mh qor qfa qmo qwt qrt qnw qsn qlt qkn qft qbf qbh qjt qot qsm qpt qpr qch qbt qpg flt np nf nc nm wr 1 (by omega)) g_Mo_96 ⟨by decide, by decide⟩ ⟨rfl, rfl⟩ rfl rfl rfl hl.1 (rest := []) (As := [.int (nI (1))]) rfl (Nat.le_of_ble_eq_true rfl) d_Mo_shared_42 ⟨Nat.zero_le _, Nat.zero_le _⟩ (fun _ => rfl) (fun _ => rfl) rfl ?_
    intro r _ H locs hp6 hw
    subst hp6
    refine mg_bif_eq X 52 48 d_Mo_shared_45 (by decide) rfl (fun b7 => absurd b7 (by decide)) (fun _ => ?_)
    refine mg_iconst X 49 0 d_Mo_shared_48 mg_ci_0 rfl ?_
    refine mg_goto X 60 d_Mo_shared_49 (by decide) ?_
    exact mg_iret X hr hlk (rfl) (()) (rfl) hw d_Mo_shared_60
  · -- pc 5 f
    obtain ⟨jm1, hm1, rfl⟩ := b3
    refine mg_aload_n X 9 d_Mo_shared_8 (lv_at hl 0 rfl) rfl ?_
    refine mg_iload_n X 10 d_Mo_shared_9 (lv_at hl 2 rfl) rfl ?_
    refine mg_callVi X hK hw hA 13 [0] 0 (fun _ => [mg_ob mh 6 [.int (nI (flt)), .int (nI (np)), .int (nI (nf)), .int (nI (nc)), .ref (qor), .ref (qfa), .ref (qmo), .int (nI (nm)), .ref (qwt), .ref (qrt), .ref (qnw), .ref (qsn), .ref (qlt), .ref (qkn), .ref (qft), .ref (qbf), .ref (qbh), .ref (qjt), .ref (qot), .ref (qsm), .ref (qpt), .ref (qpr), .ref (qch), .ref (qbt), .int (nI (wr)), .ref (qpg)]]) rfl rfl (k_Mo_isPerson l D K mh qor qfa qmo qwt qrt qnw qsn qlt qkn qft qbf qbh qjt qot qsm qpt qpr qch qbt qpg flt np nf nc nm wr p1 (by omega)) g_Mo_103 ⟨by decide, by decide⟩ ⟨rfl, rfl⟩ rfl rfl rfl hl.1 (rest := []) (As := [.int (p1)]) rfl (Nat.le_of_ble_eq_true rfl) d_Mo_shared_10 ⟨Nat.zero_le _, Nat.zero_le _⟩ (fun _ => rfl) (fun _ => rfl) rfl ?_
    intro r _ H locs hp9 hw
    subst hp9
    refine mg_bif_eq X 28 16 d_Mo_shared_13 (by decide) rfl (fun b10 => ?_) (fun b10 => ?_)
    · -- pc 13 t
      refine mg_iconst X 29 0 d_Mo_shared_28 mg_ci_0 rfl ?_
      refine mg_istore X 31 [(4, .int (nI (0))), (0, .ref (mh)), (1, .int (nI (jm1))), (2, .int (p1)), (3, .int (p2))] d_Mo_shared_29 hl (by decide) rfl rfl (fun ls hl => ?_)
      refine mg_aload_n X 32 d_Mo_shared_31 (lv_at hl 1 rfl) rfl ?_
      refine mg_iload X 34 d_Mo_shared_32 (lv_at hl 0 rfl) rfl ?_
      refine mg_if_eq X 41 37 (by decide) d_Mo_shared_34 (by decide) rfl (fun _ => ?_) (fun b11 => absurd b11 (by decide))
      refine mg_iconst X 42 1 d_Mo_shared_41 mg_ci_1 rfl ?_
      refine mg_callVi X hK hw hA 45 [0] 0 (fun _ => [mg_ob mh 6 [.int (nI (1)), .int (nI (np)), .int (nI (nf)), .int (nI (nc)), .ref (qor), .ref (qfa), .ref (qmo), .int (nI (nm)), .ref (qwt), .ref (qrt), .ref (qnw), .ref (qsn), .ref (qlt), .ref (qkn), .ref (qft), .ref (qbf), .ref (qbh), .ref (qjt), .ref (qot), .ref (qsm), .ref (qpt), .ref (qpr), .ref (qch), .ref (qbt), .int (nI (wr)), .ref (qpg)]]) rfl rfl (k_Mo_refused l D K mh qor qfa qmo qwt qrt qnw qsn qlt qkn qft qbf qbh qjt qot qsm qpt qpr qch qbt qpg flt np nf nc nm wr 1 (by omega)) g_Mo_96 ⟨by decide, by decide⟩ ⟨rfl, rfl⟩ rfl rfl rfl hl.1 (rest := []) (As := [.int (nI (1))]) rfl (Nat.le_of_ble_eq_true rfl) d_Mo_shared_42 ⟨Nat.zero_le _, Nat.zero_le _⟩ (fun _ => rfl) (fun _ => rfl) rfl ?_
      intro r _ H locs hp13 hw
      subst hp13
      refine mg_bif_eq X 52 48 d_Mo_shared_45 (by decide) rfl (fun b14 => absurd b14 (by decide)) (fun _ => ?_)
      refine mg_iconst X 49 0 d_Mo_shared_48 mg_ci_0 rfl ?_
      refine mg_goto X 60 d_Mo_shared_49 (by decide) ?_
      exact mg_iret X hr hlk (rfl) (()) (rfl) hw d_Mo_shared_60
    · -- pc 13 f
      obtain ⟨jp1, hp1, rfl⟩ := b10
      refine mg_aload_n X 17 d_Mo_shared_16 (lv_at hl 0 rfl) rfl ?_
      refine mg_iload_n X 18 d_Mo_shared_17 (lv_at hl 3 rfl) rfl ?_
      refine mg_callVi X hK hw hA 21 [0] 0 (fun _ => [mg_ob mh 6 [.int (nI (flt)), .int (nI (np)), .int (nI (nf)), .int (nI (nc)), .ref (qor), .ref (qfa), .ref (qmo), .int (nI (nm)), .ref (qwt), .ref (qrt), .ref (qnw), .ref (qsn), .ref (qlt), .ref (qkn), .ref (qft), .ref (qbf), .ref (qbh), .ref (qjt), .ref (qot), .ref (qsm), .ref (qpt), .ref (qpr), .ref (qch), .ref (qbt), .int (nI (wr)), .ref (qpg)]]) rfl rfl (k_Mo_isPerson l D K mh qor qfa qmo qwt qrt qnw qsn qlt qkn qft qbf qbh qjt qot qsm qpt qpr qch qbt qpg flt np nf nc nm wr p2 (by omega)) g_Mo_103 ⟨by decide, by decide⟩ ⟨rfl, rfl⟩ rfl rfl rfl hl.1 (rest := []) (As := [.int (p2)]) rfl (Nat.le_of_ble_eq_true rfl) d_Mo_shared_18 ⟨Nat.zero_le _, Nat.zero_le _⟩ (fun _ => rfl) (fun _ => rfl) rfl ?_
      intro r _ H locs hp16 hw
      subst hp16
      refine mg_bif_eq X 28 24 d_Mo_shared_21 (by decide) rfl (fun b17 => ?_) (fun b17 => ?_)
      · -- pc 21 t
        refine mg_iconst X 29 0 d_Mo_shared_28 mg_ci_0 rfl ?_
        refine mg_istore X 31 [(4, .int (nI (0))), (0, .ref (mh)), (1, .int (nI (jm1))), (2, .int (nI (jp1))), (3, .int (p2))] d_Mo_shared_29 hl (by decide) rfl rfl (fun ls hl => ?_)
        refine mg_aload_n X 32 d_Mo_shared_31 (lv_at hl 1 rfl) rfl ?_
        refine mg_iload X 34 d_Mo_shared_32 (lv_at hl 0 rfl) rfl ?_
        refine mg_if_eq X 41 37 (by decide) d_Mo_shared_34 (by decide) rfl (fun _ => ?_) (fun b18 => absurd b18 (by decide))
        refine mg_iconst X 42 1 d_Mo_shared_41 mg_ci_1 rfl ?_
        refine mg_callVi X hK hw hA 45 [0] 0 (fun _ => [mg_ob mh 6 [.int (nI (1)), .int (nI (np)), .int (nI (nf)), .int (nI (nc)), .ref (qor), .ref (qfa), .ref (qmo), .int (nI (nm)), .ref (qwt), .ref (qrt), .ref (qnw), .ref (qsn), .ref (qlt), .ref (qkn), .ref (qft), .ref (qbf), .ref (qbh), .ref (qjt), .ref (qot), .ref (qsm), .ref (qpt), .ref (qpr), .ref (qch), .ref (qbt), .int (nI (wr)), .ref (qpg)]]) rfl rfl (k_Mo_refused l D K mh qor qfa qmo qwt qrt qnw qsn qlt qkn qft qbf qbh qjt qot qsm qpt qpr qch qbt qpg flt np nf nc nm wr 1 (by omega)) g_Mo_96 ⟨by decide, by decide⟩ ⟨rfl, rfl⟩ rfl rfl rfl hl.1 (rest := []) (As := [.int (nI (1))]) rfl (Nat.le_of_ble_eq_true rfl) d_Mo_shared_42 ⟨Nat.zero_le _, Nat.zero_le _⟩ (fun _ => rfl) (fun _ => rfl) rfl ?_
        intro r _ H locs hp20 hw
        subst hp20
        refine mg_bif_eq X 52 48 d_Mo_shared_45 (by decide) rfl (fun b21 => absurd b21 (by decide)) (fun _ => ?_)
        refine mg_iconst X 49 0 d_Mo_shared_48 mg_ci_0 rfl ?_
        refine mg_goto X 60 d_Mo_shared_49 (by decide) ?_
        exact mg_iret X hr hlk (rfl) (()) (rfl) hw d_Mo_shared_60
      · -- pc 21 f
        obtain ⟨jp2, hp2, rfl⟩ := b17
        exact absurd ⟨⟨jm1, hm1, rfl⟩, ⟨jp1, hp1, rfl⟩, ⟨jp2, hp2, rfl⟩⟩ hx

set_option maxRecDepth 100000 in
set_option maxHeartbeats 4000000 in
theorem k_Mo_likelyN (l : Launch) (D : va_G) (K : Nat → ClassId) (mh : Nat) (qor : Nat) (qfa : Nat) (qmo : Nat) (qwt : Nat) (qrt : Nat) (qnw : Nat) (qsn : Nat) (qlt : Nat) (qkn : Nat) (qft : Nat) (qbf : Nat) (qbh : Nat) (qjt : Nat) (qot : Nat) (qsm : Nat) (qpt : Nat) (qpr : Nat) (qch : Nat) (qbt : Nat) (qpg : Nat) (flt : Nat) (np : Nat) (nf : Nat) (nc : Nat) (nm : Nat) (wr : Nat) (m1 : Int32) (hnm4 : nm ≤ 4) (hx : ¬ mg_lt m1 nm) : mg_Mi l D K y_Mo_likely b_Mo_likely 4 (.int) ({ frames := 7, cells := 0, slots := 0, locals := 171 }) [.ref (mh), .int (m1)] [mg_ob mh 6 [.int (nI (flt)), .int (nI (np)), .int (nI (nf)), .int (nI (nc)), .ref (qor), .ref (qfa), .ref (qmo), .int (nI (nm)), .ref (qwt), .ref (qrt), .ref (qnw), .ref (qsn), .ref (qlt), .ref (qkn), .ref (qft), .ref (qbf), .ref (qbh), .ref (qjt), .ref (qot), .ref (qsm), .ref (qpt), .ref (qpr), .ref (qch), .ref (qbt), .int (nI (wr)), .ref (qpg)]] (fun (r : Int32) (_ : Unit) => r = nI (0)) (fun (_ : Unit) => [mg_ob mh 6 [.int (nI (1)), .int (nI (np)), .int (nI (nf)), .int (nI (nc)), .ref (qor), .ref (qfa), .ref (qmo), .int (nI (nm)), .ref (qwt), .ref (qrt), .ref (qnw), .ref (qsn), .ref (qlt), .ref (qkn), .ref (qft), .ref (qbf), .ref (qbh), .ref (qjt), .ref (qot), .ref (qsm), .ref (qpt), .ref (qpr), .ref (qch), .ref (qbt), .int (nI (wr)), .ref (qpg)]]) := by
  intro sz
  refine mg_entry (Qc := fun A => va_Qi (fun (r : Int32) (_ : Unit) => r = nI (0)) (mg_B D A (fun (_ : Unit) => [mg_ob mh 6 [.int (nI (1)), .int (nI (np)), .int (nI (nf)), .int (nI (nc)), .ref (qor), .ref (qfa), .ref (qmo), .int (nI (nm)), .ref (qwt), .ref (qrt), .ref (qnw), .ref (qsn), .ref (qlt), .ref (qkn), .ref (qft), .ref (qbf), .ref (qbh), .ref (qjt), .ref (qot), .ref (qsm), .ref (qpt), .ref (qpr), .ref (qch), .ref (qbt), .int (nI (wr)), .ref (qpg)]])) A) (by decide) (Nat.le_of_ble_eq_true rfl) ?_
  intro p e s m args below meth c A ls X hr hlk hnm hA hK hw hl
  have hl : lv_has ls 4 [(0, .ref (mh)), (1, .int (m1))] := hl
  refine mg_aload_n X 1 d_Mo_likely_0 (lv_at hl 0 rfl) rfl ?_
  refine mg_aload_n X 2 d_Mo_likely_1 (lv_at hl 0 rfl) rfl ?_
  refine mg_iload_n X 3 d_Mo_likely_2 (lv_at hl 1 rfl) rfl ?_
  refine mg_callVi X hK hw hA 6 [0] 0 (fun _ => [mg_ob mh 6 [.int (nI (flt)), .int (nI (np)), .int (nI (nf)), .int (nI (nc)), .ref (qor), .ref (qfa), .ref (qmo), .int (nI (nm)), .ref (qwt), .ref (qrt), .ref (qnw), .ref (qsn), .ref (qlt), .ref (qkn), .ref (qft), .ref (qbf), .ref (qbh), .ref (qjt), .ref (qot), .ref (qsm), .ref (qpt), .ref (qpr), .ref (qch), .ref (qbt), .int (nI (wr)), .ref (qpg)]]) rfl rfl (k_Mo_isMarker l D K mh qor qfa qmo qwt qrt qnw qsn qlt qkn qft qbf qbh qjt qot qsm qpt qpr qch qbt qpg flt np nf nc nm wr m1 (by first | exact hnm4 | omega)) g_Mo_109 ⟨by decide, by decide⟩ ⟨rfl, rfl⟩ rfl rfl rfl hl.1 (rest := [.ref (mh)]) (As := [.int (m1)]) rfl (Nat.le_of_ble_eq_true rfl) d_Mo_likely_3 ⟨Nat.zero_le _, Nat.zero_le _⟩ (fun _ => rfl) (fun _ => rfl) rfl ?_
  intro r _ H locs hp2 hw
  subst hp2
  refine mg_bif_eq X 13 9 d_Mo_likely_6 (by decide) rfl (fun _ => ?_) (fun b3 => absurd b3 (hx))
  refine mg_iconst X 14 1 d_Mo_likely_13 mg_ci_1 rfl ?_
  refine mg_callVi X hK hw hA 17 [0] 0 (fun _ => [mg_ob mh 6 [.int (nI (1)), .int (nI (np)), .int (nI (nf)), .int (nI (nc)), .ref (qor), .ref (qfa), .ref (qmo), .int (nI (nm)), .ref (qwt), .ref (qrt), .ref (qnw), .ref (qsn), .ref (qlt), .ref (qkn), .ref (qft), .ref (qbf), .ref (qbh), .ref (qjt), .ref (qot), .ref (qsm), .ref (qpt), .ref (qpr), .ref (qch), .ref (qbt), .int (nI (wr)), .ref (qpg)]]) rfl rfl (k_Mo_refused l D K mh qor qfa qmo qwt qrt qnw qsn qlt qkn qft qbf qbh qjt qot qsm qpt qpr qch qbt qpg flt np nf nc nm wr 1 (by omega)) g_Mo_96 ⟨by decide, by decide⟩ ⟨rfl, rfl⟩ rfl rfl rfl hl.1 (rest := []) (As := [.int (nI (1))]) rfl (Nat.le_of_ble_eq_true rfl) d_Mo_likely_14 ⟨Nat.zero_le _, Nat.zero_le _⟩ (fun _ => rfl) (fun _ => rfl) rfl ?_
  intro r _ H locs hp5 hw
  subst hp5
  refine mg_bif_eq X 22 20 d_Mo_likely_17 (by decide) rfl (fun b6 => absurd b6 (by decide)) (fun _ => ?_)
  refine mg_iconst X 21 0 d_Mo_likely_20 mg_ci_0 rfl ?_
  exact mg_iret X hr hlk (rfl) (()) (rfl) hw d_Mo_likely_21

set_option maxRecDepth 100000 in
set_option maxHeartbeats 4000000 in
theorem k_Mo_bestN (l : Launch) (D : va_G) (K : Nat → ClassId) (mh : Nat) (qor : Nat) (qfa : Nat) (qmo : Nat) (qwt : Nat) (qrt : Nat) (qnw : Nat) (qsn : Nat) (qlt : Nat) (qkn : Nat) (qft : Nat) (qbf : Nat) (qbh : Nat) (qjt : Nat) (qot : Nat) (qsm : Nat) (qpt : Nat) (qpr : Nat) (qch : Nat) (qbt : Nat) (qpg : Nat) (flt : Nat) (np : Nat) (nf : Nat) (nc : Nat) (nm : Nat) (wr : Nat) (g1 : Int32) (hnm4 : nm ≤ 4) (hx : ¬ mg_lt g1 (nm - 1)) : mg_Mi l D K y_Mo_best b_Mo_best 4 (.int) ({ frames := 6, cells := 0, slots := 0, locals := 151 }) [.ref (mh), .int (g1)] [mg_ob mh 6 [.int (nI (flt)), .int (nI (np)), .int (nI (nf)), .int (nI (nc)), .ref (qor), .ref (qfa), .ref (qmo), .int (nI (nm)), .ref (qwt), .ref (qrt), .ref (qnw), .ref (qsn), .ref (qlt), .ref (qkn), .ref (qft), .ref (qbf), .ref (qbh), .ref (qjt), .ref (qot), .ref (qsm), .ref (qpt), .ref (qpr), .ref (qch), .ref (qbt), .int (nI (wr)), .ref (qpg)]] (fun (r : Int32) (_ : Unit) => r = nI (0)) (fun (_ : Unit) => [mg_ob mh 6 [.int (nI (1)), .int (nI (np)), .int (nI (nf)), .int (nI (nc)), .ref (qor), .ref (qfa), .ref (qmo), .int (nI (nm)), .ref (qwt), .ref (qrt), .ref (qnw), .ref (qsn), .ref (qlt), .ref (qkn), .ref (qft), .ref (qbf), .ref (qbh), .ref (qjt), .ref (qot), .ref (qsm), .ref (qpt), .ref (qpr), .ref (qch), .ref (qbt), .int (nI (wr)), .ref (qpg)]]) := by
  intro sz
  refine mg_entry (Qc := fun A => va_Qi (fun (r : Int32) (_ : Unit) => r = nI (0)) (mg_B D A (fun (_ : Unit) => [mg_ob mh 6 [.int (nI (1)), .int (nI (np)), .int (nI (nf)), .int (nI (nc)), .ref (qor), .ref (qfa), .ref (qmo), .int (nI (nm)), .ref (qwt), .ref (qrt), .ref (qnw), .ref (qsn), .ref (qlt), .ref (qkn), .ref (qft), .ref (qbf), .ref (qbh), .ref (qjt), .ref (qot), .ref (qsm), .ref (qpt), .ref (qpr), .ref (qch), .ref (qbt), .int (nI (wr)), .ref (qpg)]])) A) (by decide) (Nat.le_of_ble_eq_true rfl) ?_
  intro p e s m args below meth c A ls X hr hlk hnm hA hK hw hl
  have hl : lv_has ls 4 [(0, .ref (mh)), (1, .int (g1))] := hl
  refine mg_aload_n X 1 d_Mo_best_0 (lv_at hl 0 rfl) rfl ?_
  refine mg_aload_n X 2 d_Mo_best_1 (lv_at hl 0 rfl) rfl ?_
  refine mg_iload_n X 3 d_Mo_best_2 (lv_at hl 1 rfl) rfl ?_
  refine mg_callVi X hK hw hA 6 [0] 0 (fun _ => [mg_ob mh 6 [.int (nI (flt)), .int (nI (np)), .int (nI (nf)), .int (nI (nc)), .ref (qor), .ref (qfa), .ref (qmo), .int (nI (nm)), .ref (qwt), .ref (qrt), .ref (qnw), .ref (qsn), .ref (qlt), .ref (qkn), .ref (qft), .ref (qbf), .ref (qbh), .ref (qjt), .ref (qot), .ref (qsm), .ref (qpt), .ref (qpr), .ref (qch), .ref (qbt), .int (nI (wr)), .ref (qpg)]]) rfl rfl (k_Mo_isGap l D K mh qor qfa qmo qwt qrt qnw qsn qlt qkn qft qbf qbh qjt qot qsm qpt qpr qch qbt qpg flt np nf nc nm wr g1 (by first | exact hnm4 | omega)) g_Mo_106 ⟨by decide, by decide⟩ ⟨rfl, rfl⟩ rfl rfl rfl hl.1 (rest := [.ref (mh)]) (As := [.int (g1)]) rfl (Nat.le_of_ble_eq_true rfl) d_Mo_best_3 ⟨Nat.zero_le _, Nat.zero_le _⟩ (fun _ => rfl) (fun _ => rfl) rfl ?_
  intro r _ H locs hp2 hw
  subst hp2
  refine mg_bif_eq X 13 9 d_Mo_best_6 (by decide) rfl (fun _ => ?_) (fun b3 => absurd b3 (hx))
  refine mg_iconst X 14 1 d_Mo_best_13 mg_ci_1 rfl ?_
  refine mg_callVi X hK hw hA 17 [0] 0 (fun _ => [mg_ob mh 6 [.int (nI (1)), .int (nI (np)), .int (nI (nf)), .int (nI (nc)), .ref (qor), .ref (qfa), .ref (qmo), .int (nI (nm)), .ref (qwt), .ref (qrt), .ref (qnw), .ref (qsn), .ref (qlt), .ref (qkn), .ref (qft), .ref (qbf), .ref (qbh), .ref (qjt), .ref (qot), .ref (qsm), .ref (qpt), .ref (qpr), .ref (qch), .ref (qbt), .int (nI (wr)), .ref (qpg)]]) rfl rfl (k_Mo_refused l D K mh qor qfa qmo qwt qrt qnw qsn qlt qkn qft qbf qbh qjt qot qsm qpt qpr qch qbt qpg flt np nf nc nm wr 1 (by omega)) g_Mo_96 ⟨by decide, by decide⟩ ⟨rfl, rfl⟩ rfl rfl rfl hl.1 (rest := []) (As := [.int (nI (1))]) rfl (Nat.le_of_ble_eq_true rfl) d_Mo_best_14 ⟨Nat.zero_le _, Nat.zero_le _⟩ (fun _ => rfl) (fun _ => rfl) rfl ?_
  intro r _ H locs hp5 hw
  subst hp5
  refine mg_bif_eq X 22 20 d_Mo_best_17 (by decide) rfl (fun b6 => absurd b6 (by decide)) (fun _ => ?_)
  refine mg_iconst X 21 0 d_Mo_best_20 mg_ci_0 rfl ?_
  exact mg_iret X hr hlk (rfl) (()) (rfl) hw d_Mo_best_21

set_option maxRecDepth 100000 in
set_option maxHeartbeats 4000000 in
theorem k_Mo_wouldN1 (l : Launch) (D : va_G) (K : Nat → ClassId) (mh : Nat) (qor : Nat) (qfa : Nat) (qmo : Nat) (qwt : Nat) (qrt : Nat) (qnw : Nat) (qsn : Nat) (qlt : Nat) (qkn : Nat) (qft : Nat) (qbf : Nat) (qbh : Nat) (qjt : Nat) (qot : Nat) (qsm : Nat) (qpt : Nat) (qpr : Nat) (qch : Nat) (qbt : Nat) (qpg : Nat) (flt : Nat) (np : Nat) (nf : Nat) (nc : Nat) (nm : Nat) (wr : Nat) (g1 : Int32) (k1 : Int32) (hnm4 : nm ≤ 4) (hx : ¬ mg_lt g1 (nm - 1)) : mg_Mi l D K y_Mo_would b_Mo_would 3 (.int) ({ frames := 6, cells := 0, slots := 0, locals := 151 }) [.ref (mh), .int (g1), .int (k1)] [mg_ob mh 6 [.int (nI (flt)), .int (nI (np)), .int (nI (nf)), .int (nI (nc)), .ref (qor), .ref (qfa), .ref (qmo), .int (nI (nm)), .ref (qwt), .ref (qrt), .ref (qnw), .ref (qsn), .ref (qlt), .ref (qkn), .ref (qft), .ref (qbf), .ref (qbh), .ref (qjt), .ref (qot), .ref (qsm), .ref (qpt), .ref (qpr), .ref (qch), .ref (qbt), .int (nI (wr)), .ref (qpg)]] (fun (r : Int32) (_ : Unit) => r = nI (0)) (fun (_ : Unit) => [mg_ob mh 6 [.int (nI (1)), .int (nI (np)), .int (nI (nf)), .int (nI (nc)), .ref (qor), .ref (qfa), .ref (qmo), .int (nI (nm)), .ref (qwt), .ref (qrt), .ref (qnw), .ref (qsn), .ref (qlt), .ref (qkn), .ref (qft), .ref (qbf), .ref (qbh), .ref (qjt), .ref (qot), .ref (qsm), .ref (qpt), .ref (qpr), .ref (qch), .ref (qbt), .int (nI (wr)), .ref (qpg)]]) := by
  intro sz
  refine mg_entry (Qc := fun A => va_Qi (fun (r : Int32) (_ : Unit) => r = nI (0)) (mg_B D A (fun (_ : Unit) => [mg_ob mh 6 [.int (nI (1)), .int (nI (np)), .int (nI (nf)), .int (nI (nc)), .ref (qor), .ref (qfa), .ref (qmo), .int (nI (nm)), .ref (qwt), .ref (qrt), .ref (qnw), .ref (qsn), .ref (qlt), .ref (qkn), .ref (qft), .ref (qbf), .ref (qbh), .ref (qjt), .ref (qot), .ref (qsm), .ref (qpt), .ref (qpr), .ref (qch), .ref (qbt), .int (nI (wr)), .ref (qpg)]])) A) (by decide) (Nat.le_of_ble_eq_true rfl) ?_
  intro p e s m args below meth c A ls X hr hlk hnm hA hK hw hl
  have hl : lv_has ls 3 [(0, .ref (mh)), (1, .int (g1)), (2, .int (k1))] := hl
  refine mg_aload_n X 1 d_Mo_would_0 (lv_at hl 0 rfl) rfl ?_
  refine mg_aload_n X 2 d_Mo_would_1 (lv_at hl 0 rfl) rfl ?_
  refine mg_iload_n X 3 d_Mo_would_2 (lv_at hl 1 rfl) rfl ?_
  refine mg_callVi X hK hw hA 6 [0] 0 (fun _ => [mg_ob mh 6 [.int (nI (flt)), .int (nI (np)), .int (nI (nf)), .int (nI (nc)), .ref (qor), .ref (qfa), .ref (qmo), .int (nI (nm)), .ref (qwt), .ref (qrt), .ref (qnw), .ref (qsn), .ref (qlt), .ref (qkn), .ref (qft), .ref (qbf), .ref (qbh), .ref (qjt), .ref (qot), .ref (qsm), .ref (qpt), .ref (qpr), .ref (qch), .ref (qbt), .int (nI (wr)), .ref (qpg)]]) rfl rfl (k_Mo_isGap l D K mh qor qfa qmo qwt qrt qnw qsn qlt qkn qft qbf qbh qjt qot qsm qpt qpr qch qbt qpg flt np nf nc nm wr g1 (by first | exact hnm4 | omega)) g_Mo_106 ⟨by decide, by decide⟩ ⟨rfl, rfl⟩ rfl rfl rfl hl.1 (rest := [.ref (mh)]) (As := [.int (g1)]) rfl (Nat.le_of_ble_eq_true rfl) d_Mo_would_3 ⟨Nat.zero_le _, Nat.zero_le _⟩ (fun _ => rfl) (fun _ => rfl) rfl ?_
  intro r _ H locs hp2 hw
  subst hp2
  refine mg_bif_ne X 13 9 d_Mo_would_6 (by decide) rfl (fun b3 => absurd b3 (hx)) (fun _ => ?_)
  refine mg_iconst X 10 1 d_Mo_would_9 mg_ci_1 rfl ?_
  refine mg_goto X 28 d_Mo_would_10 (by decide) ?_
  refine mg_callVi X hK hw hA 31 [0] 0 (fun _ => [mg_ob mh 6 [.int (nI (1)), .int (nI (np)), .int (nI (nf)), .int (nI (nc)), .ref (qor), .ref (qfa), .ref (qmo), .int (nI (nm)), .ref (qwt), .ref (qrt), .ref (qnw), .ref (qsn), .ref (qlt), .ref (qkn), .ref (qft), .ref (qbf), .ref (qbh), .ref (qjt), .ref (qot), .ref (qsm), .ref (qpt), .ref (qpr), .ref (qch), .ref (qbt), .int (nI (wr)), .ref (qpg)]]) rfl rfl (k_Mo_refused l D K mh qor qfa qmo qwt qrt qnw qsn qlt qkn qft qbf qbh qjt qot qsm qpt qpr qch qbt qpg flt np nf nc nm wr 1 (by omega)) g_Mo_96 ⟨by decide, by decide⟩ ⟨rfl, rfl⟩ rfl rfl rfl hl.1 (rest := []) (As := [.int (nI (1))]) rfl (Nat.le_of_ble_eq_true rfl) d_Mo_would_28 ⟨Nat.zero_le _, Nat.zero_le _⟩ (fun _ => rfl) (fun _ => rfl) rfl ?_
  intro r _ H locs hp5 hw
  subst hp5
  refine mg_bif_eq X 36 34 d_Mo_would_31 (by decide) rfl (fun b6 => absurd b6 (by decide)) (fun _ => ?_)
  refine mg_iconst X 35 0 d_Mo_would_34 mg_ci_0 rfl ?_
  exact mg_iret X hr hlk (rfl) (()) (rfl) hw d_Mo_would_35

set_option maxRecDepth 100000 in
set_option maxHeartbeats 4000000 in
theorem k_Mo_wouldN2 (l : Launch) (D : va_G) (K : Nat → ClassId) (mh : Nat) (qor : Nat) (qfa : Nat) (qmo : Nat) (qwt : Nat) (qrt : Nat) (qnw : Nat) (qsn : Nat) (qlt : Nat) (qkn : Nat) (qft : Nat) (qbf : Nat) (qbh : Nat) (qjt : Nat) (qot : Nat) (qsm : Nat) (qpt : Nat) (qpr : Nat) (qch : Nat) (qbt : Nat) (qpg : Nat) (flt : Nat) (np : Nat) (nf : Nat) (nc : Nat) (nm : Nat) (wr : Nat) (g1 : Nat) (k1 : Int32) (hnm4 : nm ≤ 4) (hg : g1 + 1 < nm) (hx : ¬ mg_lt k1 9) : mg_Mi l D K y_Mo_would b_Mo_would 3 (.int) ({ frames := 6, cells := 0, slots := 0, locals := 151 }) [.ref (mh), .int (nI (g1)), .int (k1)] [mg_ob mh 6 [.int (nI (flt)), .int (nI (np)), .int (nI (nf)), .int (nI (nc)), .ref (qor), .ref (qfa), .ref (qmo), .int (nI (nm)), .ref (qwt), .ref (qrt), .ref (qnw), .ref (qsn), .ref (qlt), .ref (qkn), .ref (qft), .ref (qbf), .ref (qbh), .ref (qjt), .ref (qot), .ref (qsm), .ref (qpt), .ref (qpr), .ref (qch), .ref (qbt), .int (nI (wr)), .ref (qpg)]] (fun (r : Int32) (_ : Unit) => r = nI (0)) (fun (_ : Unit) => [mg_ob mh 6 [.int (nI (2)), .int (nI (np)), .int (nI (nf)), .int (nI (nc)), .ref (qor), .ref (qfa), .ref (qmo), .int (nI (nm)), .ref (qwt), .ref (qrt), .ref (qnw), .ref (qsn), .ref (qlt), .ref (qkn), .ref (qft), .ref (qbf), .ref (qbh), .ref (qjt), .ref (qot), .ref (qsm), .ref (qpt), .ref (qpr), .ref (qch), .ref (qbt), .int (nI (wr)), .ref (qpg)]]) := by
  intro sz
  refine mg_entry (Qc := fun A => va_Qi (fun (r : Int32) (_ : Unit) => r = nI (0)) (mg_B D A (fun (_ : Unit) => [mg_ob mh 6 [.int (nI (2)), .int (nI (np)), .int (nI (nf)), .int (nI (nc)), .ref (qor), .ref (qfa), .ref (qmo), .int (nI (nm)), .ref (qwt), .ref (qrt), .ref (qnw), .ref (qsn), .ref (qlt), .ref (qkn), .ref (qft), .ref (qbf), .ref (qbh), .ref (qjt), .ref (qot), .ref (qsm), .ref (qpt), .ref (qpr), .ref (qch), .ref (qbt), .int (nI (wr)), .ref (qpg)]])) A) (by decide) (Nat.le_of_ble_eq_true rfl) ?_
  intro p e s m args below meth c A ls X hr hlk hnm hA hK hw hl
  have hl : lv_has ls 3 [(0, .ref (mh)), (1, .int (nI (g1))), (2, .int (k1))] := hl
  refine mg_aload_n X 1 d_Mo_would_0 (lv_at hl 0 rfl) rfl ?_
  refine mg_aload_n X 2 d_Mo_would_1 (lv_at hl 0 rfl) rfl ?_
  refine mg_iload_n X 3 d_Mo_would_2 (lv_at hl 1 rfl) rfl ?_
  refine mg_callVi X hK hw hA 6 [0] 0 (fun _ => [mg_ob mh 6 [.int (nI (flt)), .int (nI (np)), .int (nI (nf)), .int (nI (nc)), .ref (qor), .ref (qfa), .ref (qmo), .int (nI (nm)), .ref (qwt), .ref (qrt), .ref (qnw), .ref (qsn), .ref (qlt), .ref (qkn), .ref (qft), .ref (qbf), .ref (qbh), .ref (qjt), .ref (qot), .ref (qsm), .ref (qpt), .ref (qpr), .ref (qch), .ref (qbt), .int (nI (wr)), .ref (qpg)]]) rfl rfl (k_Mo_isGap l D K mh qor qfa qmo qwt qrt qnw qsn qlt qkn qft qbf qbh qjt qot qsm qpt qpr qch qbt qpg flt np nf nc nm wr (nI g1) (by first | exact hnm4 | omega)) g_Mo_106 ⟨by decide, by decide⟩ ⟨rfl, rfl⟩ rfl rfl rfl hl.1 (rest := [.ref (mh)]) (As := [.int (nI (g1))]) rfl (Nat.le_of_ble_eq_true rfl) d_Mo_would_3 ⟨Nat.zero_le _, Nat.zero_le _⟩ (fun _ => rfl) (fun _ => rfl) rfl ?_
  intro r _ H locs hp2 hw
  subst hp2
  refine mg_bif_ne X 13 9 d_Mo_would_6 (by decide) rfl (fun _ => ?_) (fun b3 => absurd (mg_lt_in (by omega)) b3)
  refine mg_iload_n X 14 d_Mo_would_13 (lv_at hl 2 rfl) rfl ?_
  refine mg_iflt_r X 23 17 d_Mo_would_14 (by decide) rfl (fun b4 => ?_) (fun j hj ej => ?_)
  · -- pc 14 t
    refine mg_iconst X 24 2 d_Mo_would_23 mg_ci_2 rfl ?_
    refine mg_goto X 28 d_Mo_would_24 (by decide) ?_
    refine mg_callVi X hK hw hA 31 [0] 0 (fun _ => [mg_ob mh 6 [.int (nI (2)), .int (nI (np)), .int (nI (nf)), .int (nI (nc)), .ref (qor), .ref (qfa), .ref (qmo), .int (nI (nm)), .ref (qwt), .ref (qrt), .ref (qnw), .ref (qsn), .ref (qlt), .ref (qkn), .ref (qft), .ref (qbf), .ref (qbh), .ref (qjt), .ref (qot), .ref (qsm), .ref (qpt), .ref (qpr), .ref (qch), .ref (qbt), .int (nI (wr)), .ref (qpg)]]) rfl rfl (k_Mo_refused l D K mh qor qfa qmo qwt qrt qnw qsn qlt qkn qft qbf qbh qjt qot qsm qpt qpr qch qbt qpg flt np nf nc nm wr 2 (by omega)) g_Mo_96 ⟨by decide, by decide⟩ ⟨rfl, rfl⟩ rfl rfl rfl hl.1 (rest := []) (As := [.int (nI (2))]) rfl (Nat.le_of_ble_eq_true rfl) d_Mo_would_28 ⟨Nat.zero_le _, Nat.zero_le _⟩ (fun _ => rfl) (fun _ => rfl) rfl ?_
    intro r _ H locs hp6 hw
    subst hp6
    refine mg_bif_eq X 36 34 d_Mo_would_31 (by decide) rfl (fun b7 => absurd b7 (by decide)) (fun _ => ?_)
    refine mg_iconst X 35 0 d_Mo_would_34 mg_ci_0 rfl ?_
    exact mg_iret X hr hlk (rfl) (()) (rfl) hw d_Mo_would_35
  · -- pc 14 f
    subst ej
    refine mg_iload_n X 18 d_Mo_would_17 (lv_at hl 2 rfl) rfl ?_
    refine mg_bipush X 20 8 d_Mo_would_18 mg_cb_8 rfl ?_
    refine mg_icmp_le X 27 23 (by omega) (by omega) d_Mo_would_20 (by decide) rfl (fun h8 => ?_) (fun h8 => ?_)
    · -- pc 20 t
      exact absurd (mg_lt_in (show j < 9 by omega)) hx
    · -- pc 20 f
      refine mg_iconst X 24 2 d_Mo_would_23 mg_ci_2 rfl ?_
      refine mg_goto X 28 d_Mo_would_24 (by decide) ?_
      refine mg_callVi X hK hw hA 31 [0] 0 (fun _ => [mg_ob mh 6 [.int (nI (2)), .int (nI (np)), .int (nI (nf)), .int (nI (nc)), .ref (qor), .ref (qfa), .ref (qmo), .int (nI (nm)), .ref (qwt), .ref (qrt), .ref (qnw), .ref (qsn), .ref (qlt), .ref (qkn), .ref (qft), .ref (qbf), .ref (qbh), .ref (qjt), .ref (qot), .ref (qsm), .ref (qpt), .ref (qpr), .ref (qch), .ref (qbt), .int (nI (wr)), .ref (qpg)]]) rfl rfl (k_Mo_refused l D K mh qor qfa qmo qwt qrt qnw qsn qlt qkn qft qbf qbh qjt qot qsm qpt qpr qch qbt qpg flt np nf nc nm wr 2 (by omega)) g_Mo_96 ⟨by decide, by decide⟩ ⟨rfl, rfl⟩ rfl rfl rfl hl.1 (rest := []) (As := [.int (nI (2))]) rfl (Nat.le_of_ble_eq_true rfl) d_Mo_would_28 ⟨Nat.zero_le _, Nat.zero_le _⟩ (fun _ => rfl) (fun _ => rfl) rfl ?_
      intro r _ H locs hp9 hw
      subst hp9
      refine mg_bif_eq X 36 34 d_Mo_would_31 (by decide) rfl (fun b10 => absurd b10 (by decide)) (fun _ => ?_)
      refine mg_iconst X 35 0 d_Mo_would_34 mg_ci_0 rfl ?_
      exact mg_iret X hr hlk (rfl) (()) (rfl) hw d_Mo_would_35

set_option maxRecDepth 100000 in
set_option maxHeartbeats 4000000 in
theorem k_Mo_jointN (l : Launch) (D : va_G) (K : Nat → ClassId) (mh : Nat) (qor : Nat) (qfa : Nat) (qmo : Nat) (qwt : Nat) (qrt : Nat) (qnw : Nat) (qsn : Nat) (qlt : Nat) (qkn : Nat) (qft : Nat) (qbf : Nat) (qbh : Nat) (qjt : Nat) (qot : Nat) (qsm : Nat) (qpt : Nat) (qpr : Nat) (qch : Nat) (qbt : Nat) (qpg : Nat) (flt : Nat) (np : Nat) (nf : Nat) (nc : Nat) (nm : Nat) (wr : Nat) (hx : nm = 0) : mg_Mi l D K y_Mo_joint b_Mo_joint 5 (.int) ({ frames := 6, cells := 0, slots := 0, locals := 151 }) [.ref (mh)] [mg_ob mh 6 [.int (nI (flt)), .int (nI (np)), .int (nI (nf)), .int (nI (nc)), .ref (qor), .ref (qfa), .ref (qmo), .int (nI (nm)), .ref (qwt), .ref (qrt), .ref (qnw), .ref (qsn), .ref (qlt), .ref (qkn), .ref (qft), .ref (qbf), .ref (qbh), .ref (qjt), .ref (qot), .ref (qsm), .ref (qpt), .ref (qpr), .ref (qch), .ref (qbt), .int (nI (wr)), .ref (qpg)]] (fun (r : Int32) (_ : Unit) => r = nI (0)) (fun (_ : Unit) => [mg_ob mh 6 [.int (nI (1)), .int (nI (np)), .int (nI (nf)), .int (nI (nc)), .ref (qor), .ref (qfa), .ref (qmo), .int (nI (nm)), .ref (qwt), .ref (qrt), .ref (qnw), .ref (qsn), .ref (qlt), .ref (qkn), .ref (qft), .ref (qbf), .ref (qbh), .ref (qjt), .ref (qot), .ref (qsm), .ref (qpt), .ref (qpr), .ref (qch), .ref (qbt), .int (nI (wr)), .ref (qpg)]]) := by
  intro sz
  refine mg_entry (Qc := fun A => va_Qi (fun (r : Int32) (_ : Unit) => r = nI (0)) (mg_B D A (fun (_ : Unit) => [mg_ob mh 6 [.int (nI (1)), .int (nI (np)), .int (nI (nf)), .int (nI (nc)), .ref (qor), .ref (qfa), .ref (qmo), .int (nI (nm)), .ref (qwt), .ref (qrt), .ref (qnw), .ref (qsn), .ref (qlt), .ref (qkn), .ref (qft), .ref (qbf), .ref (qbh), .ref (qjt), .ref (qot), .ref (qsm), .ref (qpt), .ref (qpr), .ref (qch), .ref (qbt), .int (nI (wr)), .ref (qpg)]])) A) (by decide) (Nat.le_of_ble_eq_true rfl) ?_
  intro p e s m args below meth c A ls X hr hlk hnm hA hK hw hl
  have hl : lv_has ls 5 [(0, .ref (mh))] := hl
  refine mg_aload_n X 1 d_Mo_joint_0 (lv_at hl 0 rfl) rfl ?_
  refine mg_aload_n X 2 d_Mo_joint_1 (lv_at hl 0 rfl) rfl ?_
  refine mg_get X hK hw 5 0 7 f_Mo_83 rfl rfl d_Mo_joint_2 rfl ?_
  refine mg_if_ne X 12 8 (by omega) d_Mo_joint_5 (by decide) rfl (fun b1 => absurd b1 (by omega)) (fun b1 => ?_)
  refine mg_iconst X 9 1 d_Mo_joint_8 mg_ci_1 rfl ?_
  refine mg_goto X 13 d_Mo_joint_9 (by decide) ?_
  refine mg_callVi X hK hw hA 16 [0] 0 (fun _ => [mg_ob mh 6 [.int (nI (1)), .int (nI (np)), .int (nI (nf)), .int (nI (nc)), .ref (qor), .ref (qfa), .ref (qmo), .int (nI (nm)), .ref (qwt), .ref (qrt), .ref (qnw), .ref (qsn), .ref (qlt), .ref (qkn), .ref (qft), .ref (qbf), .ref (qbh), .ref (qjt), .ref (qot), .ref (qsm), .ref (qpt), .ref (qpr), .ref (qch), .ref (qbt), .int (nI (wr)), .ref (qpg)]]) rfl rfl (k_Mo_refused l D K mh qor qfa qmo qwt qrt qnw qsn qlt qkn qft qbf qbh qjt qot qsm qpt qpr qch qbt qpg flt np nf nc nm wr 1 (by omega)) g_Mo_96 ⟨by decide, by decide⟩ ⟨rfl, rfl⟩ rfl rfl rfl hl.1 (rest := []) (As := [.int (nI (1))]) rfl (Nat.le_of_ble_eq_true rfl) d_Mo_joint_13 ⟨Nat.zero_le _, Nat.zero_le _⟩ (fun _ => rfl) (fun _ => rfl) rfl ?_
  intro r _ H locs hp3 hw
  subst hp3
  refine mg_bif_eq X 21 19 d_Mo_joint_16 (by decide) rfl (fun b4 => absurd b4 (by decide)) (fun _ => ?_)
  refine mg_iconst X 20 0 d_Mo_joint_19 mg_ci_0 rfl ?_
  exact mg_iret X hr hlk (rfl) (()) (rfl) hw d_Mo_joint_20

set_option maxRecDepth 100000 in
set_option maxHeartbeats 4000000 in
theorem k_Mo_oddsN1 (l : Launch) (D : va_G) (K : Nat → ClassId) (mh : Nat) (qor : Nat) (qfa : Nat) (qmo : Nat) (qwt : Nat) (qrt : Nat) (qnw : Nat) (qsn : Nat) (qlt : Nat) (qkn : Nat) (qft : Nat) (qbf : Nat) (qbh : Nat) (qjt : Nat) (qot : Nat) (qsm : Nat) (qpt : Nat) (qpr : Nat) (qch : Nat) (qbt : Nat) (qpg : Nat) (flt : Nat) (np : Nat) (nf : Nat) (nc : Nat) (nm : Nat) (wr : Nat) (n1 : Int32) (hx : ¬ mg_bt n1 1 1000) : mg_Mi l D K y_Mo_odds b_Mo_odds 3 (.int) ({ frames := 6, cells := 0, slots := 0, locals := 151 }) [.ref (mh), .int (n1)] [mg_ob mh 6 [.int (nI (flt)), .int (nI (np)), .int (nI (nf)), .int (nI (nc)), .ref (qor), .ref (qfa), .ref (qmo), .int (nI (nm)), .ref (qwt), .ref (qrt), .ref (qnw), .ref (qsn), .ref (qlt), .ref (qkn), .ref (qft), .ref (qbf), .ref (qbh), .ref (qjt), .ref (qot), .ref (qsm), .ref (qpt), .ref (qpr), .ref (qch), .ref (qbt), .int (nI (wr)), .ref (qpg)]] (fun (r : Int32) (_ : Unit) => r = nI (0)) (fun (_ : Unit) => [mg_ob mh 6 [.int (nI (1)), .int (nI (np)), .int (nI (nf)), .int (nI (nc)), .ref (qor), .ref (qfa), .ref (qmo), .int (nI (nm)), .ref (qwt), .ref (qrt), .ref (qnw), .ref (qsn), .ref (qlt), .ref (qkn), .ref (qft), .ref (qbf), .ref (qbh), .ref (qjt), .ref (qot), .ref (qsm), .ref (qpt), .ref (qpr), .ref (qch), .ref (qbt), .int (nI (wr)), .ref (qpg)]]) := by
  intro sz
  refine mg_entry (Qc := fun A => va_Qi (fun (r : Int32) (_ : Unit) => r = nI (0)) (mg_B D A (fun (_ : Unit) => [mg_ob mh 6 [.int (nI (1)), .int (nI (np)), .int (nI (nf)), .int (nI (nc)), .ref (qor), .ref (qfa), .ref (qmo), .int (nI (nm)), .ref (qwt), .ref (qrt), .ref (qnw), .ref (qsn), .ref (qlt), .ref (qkn), .ref (qft), .ref (qbf), .ref (qbh), .ref (qjt), .ref (qot), .ref (qsm), .ref (qpt), .ref (qpr), .ref (qch), .ref (qbt), .int (nI (wr)), .ref (qpg)]])) A) (by decide) (Nat.le_of_ble_eq_true rfl) ?_
  intro p e s m args below meth c A ls X hr hlk hnm hA hK hw hl
  have hl : lv_has ls 3 [(0, .ref (mh)), (1, .int (n1))] := hl
  refine mg_aload_n X 1 d_Mo_odds_0 (lv_at hl 0 rfl) rfl ?_
  refine mg_iload_n X 2 d_Mo_odds_1 (lv_at hl 1 rfl) rfl ?_
  refine mg_iconst X 3 1 d_Mo_odds_2 mg_ci_1 rfl ?_
  refine mg_icl_r X 13 6 (by decide) d_Mo_odds_3 (by decide) rfl (fun hlo => ?_) (fun j lj hj ej => ?_)
  · -- pc 3 t
    refine mg_iconst X 14 1 d_Mo_odds_13 mg_ci_1 rfl ?_
    refine mg_goto X 29 d_Mo_odds_14 (by decide) ?_
    refine mg_callVi X hK hw hA 32 [0] 0 (fun _ => [mg_ob mh 6 [.int (nI (1)), .int (nI (np)), .int (nI (nf)), .int (nI (nc)), .ref (qor), .ref (qfa), .ref (qmo), .int (nI (nm)), .ref (qwt), .ref (qrt), .ref (qnw), .ref (qsn), .ref (qlt), .ref (qkn), .ref (qft), .ref (qbf), .ref (qbh), .ref (qjt), .ref (qot), .ref (qsm), .ref (qpt), .ref (qpr), .ref (qch), .ref (qbt), .int (nI (wr)), .ref (qpg)]]) rfl rfl (k_Mo_refused l D K mh qor qfa qmo qwt qrt qnw qsn qlt qkn qft qbf qbh qjt qot qsm qpt qpr qch qbt qpg flt np nf nc nm wr 1 (by omega)) g_Mo_96 ⟨by decide, by decide⟩ ⟨rfl, rfl⟩ rfl rfl rfl hl.1 (rest := []) (As := [.int (nI (1))]) rfl (Nat.le_of_ble_eq_true rfl) d_Mo_odds_29 ⟨Nat.zero_le _, Nat.zero_le _⟩ (fun _ => rfl) (fun _ => rfl) rfl ?_
    intro r _ H locs hp2 hw
    subst hp2
    refine mg_bif_eq X 37 35 d_Mo_odds_32 (by decide) rfl (fun b3 => absurd b3 (by decide)) (fun _ => ?_)
    refine mg_iconst X 36 0 d_Mo_odds_35 mg_ci_0 rfl ?_
    exact mg_iret X hr hlk (rfl) (()) (rfl) hw d_Mo_odds_36
  · -- pc 3 f
    subst ej
    refine mg_iload_n X 7 d_Mo_odds_6 (lv_at hl 1 rfl) rfl ?_
    refine mg_sipush X 10 1000 d_Mo_odds_7 mg_cs_1000 rfl ?_
    refine mg_icmp_le X 17 13 (by omega) (by omega) d_Mo_odds_10 (by decide) rfl (fun h9 => ?_) (fun h9 => ?_)
    · -- pc 10 t
      exact absurd (mg_bt_in lj h9) hx
    · -- pc 10 f
      refine mg_iconst X 14 1 d_Mo_odds_13 mg_ci_1 rfl ?_
      refine mg_goto X 29 d_Mo_odds_14 (by decide) ?_
      refine mg_callVi X hK hw hA 32 [0] 0 (fun _ => [mg_ob mh 6 [.int (nI (1)), .int (nI (np)), .int (nI (nf)), .int (nI (nc)), .ref (qor), .ref (qfa), .ref (qmo), .int (nI (nm)), .ref (qwt), .ref (qrt), .ref (qnw), .ref (qsn), .ref (qlt), .ref (qkn), .ref (qft), .ref (qbf), .ref (qbh), .ref (qjt), .ref (qot), .ref (qsm), .ref (qpt), .ref (qpr), .ref (qch), .ref (qbt), .int (nI (wr)), .ref (qpg)]]) rfl rfl (k_Mo_refused l D K mh qor qfa qmo qwt qrt qnw qsn qlt qkn qft qbf qbh qjt qot qsm qpt qpr qch qbt qpg flt np nf nc nm wr 1 (by omega)) g_Mo_96 ⟨by decide, by decide⟩ ⟨rfl, rfl⟩ rfl rfl rfl hl.1 (rest := []) (As := [.int (nI (1))]) rfl (Nat.le_of_ble_eq_true rfl) d_Mo_odds_29 ⟨Nat.zero_le _, Nat.zero_le _⟩ (fun _ => rfl) (fun _ => rfl) rfl ?_
      intro r _ H locs hp5 hw
      subst hp5
      refine mg_bif_eq X 37 35 d_Mo_odds_32 (by decide) rfl (fun b6 => absurd b6 (by decide)) (fun _ => ?_)
      refine mg_iconst X 36 0 d_Mo_odds_35 mg_ci_0 rfl ?_
      exact mg_iret X hr hlk (rfl) (()) (rfl) hw d_Mo_odds_36

set_option maxRecDepth 100000 in
set_option maxHeartbeats 4000000 in
theorem k_Mo_oddsN2 (l : Launch) (D : va_G) (K : Nat → ClassId) (mh : Nat) (qor : Nat) (qfa : Nat) (qmo : Nat) (qwt : Nat) (qrt : Nat) (qnw : Nat) (qsn : Nat) (qlt : Nat) (qkn : Nat) (qft : Nat) (qbf : Nat) (qbh : Nat) (qjt : Nat) (qot : Nat) (qsm : Nat) (qpt : Nat) (qpr : Nat) (qch : Nat) (qbt : Nat) (qpg : Nat) (flt : Nat) (np : Nat) (nf : Nat) (nc : Nat) (nm : Nat) (wr : Nat) (n1 : Nat) (hn1 : 1 ≤ n1 ∧ n1 ≤ 1000) (hx : nm = 0) : mg_Mi l D K y_Mo_odds b_Mo_odds 3 (.int) ({ frames := 6, cells := 0, slots := 0, locals := 151 }) [.ref (mh), .int (nI (n1))] [mg_ob mh 6 [.int (nI (flt)), .int (nI (np)), .int (nI (nf)), .int (nI (nc)), .ref (qor), .ref (qfa), .ref (qmo), .int (nI (nm)), .ref (qwt), .ref (qrt), .ref (qnw), .ref (qsn), .ref (qlt), .ref (qkn), .ref (qft), .ref (qbf), .ref (qbh), .ref (qjt), .ref (qot), .ref (qsm), .ref (qpt), .ref (qpr), .ref (qch), .ref (qbt), .int (nI (wr)), .ref (qpg)]] (fun (r : Int32) (_ : Unit) => r = nI (0)) (fun (_ : Unit) => [mg_ob mh 6 [.int (nI (2)), .int (nI (np)), .int (nI (nf)), .int (nI (nc)), .ref (qor), .ref (qfa), .ref (qmo), .int (nI (nm)), .ref (qwt), .ref (qrt), .ref (qnw), .ref (qsn), .ref (qlt), .ref (qkn), .ref (qft), .ref (qbf), .ref (qbh), .ref (qjt), .ref (qot), .ref (qsm), .ref (qpt), .ref (qpr), .ref (qch), .ref (qbt), .int (nI (wr)), .ref (qpg)]]) := by
  intro sz
  refine mg_entry (Qc := fun A => va_Qi (fun (r : Int32) (_ : Unit) => r = nI (0)) (mg_B D A (fun (_ : Unit) => [mg_ob mh 6 [.int (nI (2)), .int (nI (np)), .int (nI (nf)), .int (nI (nc)), .ref (qor), .ref (qfa), .ref (qmo), .int (nI (nm)), .ref (qwt), .ref (qrt), .ref (qnw), .ref (qsn), .ref (qlt), .ref (qkn), .ref (qft), .ref (qbf), .ref (qbh), .ref (qjt), .ref (qot), .ref (qsm), .ref (qpt), .ref (qpr), .ref (qch), .ref (qbt), .int (nI (wr)), .ref (qpg)]])) A) (by decide) (Nat.le_of_ble_eq_true rfl) ?_
  intro p e s m args below meth c A ls X hr hlk hnm hA hK hw hl
  have hl : lv_has ls 3 [(0, .ref (mh)), (1, .int (nI (n1)))] := hl
  refine mg_aload_n X 1 d_Mo_odds_0 (lv_at hl 0 rfl) rfl ?_
  refine mg_iload_n X 2 d_Mo_odds_1 (lv_at hl 1 rfl) rfl ?_
  refine mg_iconst X 3 1 d_Mo_odds_2 mg_ci_1 rfl ?_
  refine mg_icmp_lt X 13 6 (by omega) (by omega) d_Mo_odds_3 (by decide) rfl (fun b1 => absurd b1 (by omega)) (fun b1 => ?_)
  refine mg_iload_n X 7 d_Mo_odds_6 (lv_at hl 1 rfl) rfl ?_
  refine mg_sipush X 10 1000 d_Mo_odds_7 mg_cs_1000 rfl ?_
  refine mg_icmp_le X 17 13 (by omega) (by omega) d_Mo_odds_10 (by decide) rfl (fun b2 => ?_) (fun b2 => absurd b2 (by omega))
  refine mg_aload_n X 18 d_Mo_odds_17 (lv_at hl 0 rfl) rfl ?_
  refine mg_get X hK hw 21 0 7 f_Mo_83 rfl rfl d_Mo_odds_18 rfl ?_
  refine mg_if_ne X 28 24 (by omega) d_Mo_odds_21 (by decide) rfl (fun b3 => absurd b3 (by omega)) (fun b3 => ?_)
  refine mg_iconst X 25 2 d_Mo_odds_24 mg_ci_2 rfl ?_
  refine mg_goto X 29 d_Mo_odds_25 (by decide) ?_
  refine mg_callVi X hK hw hA 32 [0] 0 (fun _ => [mg_ob mh 6 [.int (nI (2)), .int (nI (np)), .int (nI (nf)), .int (nI (nc)), .ref (qor), .ref (qfa), .ref (qmo), .int (nI (nm)), .ref (qwt), .ref (qrt), .ref (qnw), .ref (qsn), .ref (qlt), .ref (qkn), .ref (qft), .ref (qbf), .ref (qbh), .ref (qjt), .ref (qot), .ref (qsm), .ref (qpt), .ref (qpr), .ref (qch), .ref (qbt), .int (nI (wr)), .ref (qpg)]]) rfl rfl (k_Mo_refused l D K mh qor qfa qmo qwt qrt qnw qsn qlt qkn qft qbf qbh qjt qot qsm qpt qpr qch qbt qpg flt np nf nc nm wr 2 (by omega)) g_Mo_96 ⟨by decide, by decide⟩ ⟨rfl, rfl⟩ rfl rfl rfl hl.1 (rest := []) (As := [.int (nI (2))]) rfl (Nat.le_of_ble_eq_true rfl) d_Mo_odds_29 ⟨Nat.zero_le _, Nat.zero_le _⟩ (fun _ => rfl) (fun _ => rfl) rfl ?_
  intro r _ H locs hp5 hw
  subst hp5
  refine mg_bif_eq X 37 35 d_Mo_odds_32 (by decide) rfl (fun b6 => absurd b6 (by decide)) (fun _ => ?_)
  refine mg_iconst X 36 0 d_Mo_odds_35 mg_ci_0 rfl ?_
  exact mg_iret X hr hlk (rfl) (()) (rfl) hw d_Mo_odds_36
