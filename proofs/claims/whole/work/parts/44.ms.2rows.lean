set_option maxRecDepth 100000 in
set_option maxHeartbeats 4000000 in
theorem k_Mo_isLetter (l : Launch) (D : va_G) (K : Nat → ClassId) (x : Int32)  : mg_Mi l D K y_Mo_isLetter b_Mo_isLetter 1 (.boolean) ({ frames := 0, cells := 0, slots := 0, locals := 0 }) [.int (x)] [] (fun (r : Int32) (_ : Unit) => r = nI (ft_c (mg_bt x 1 3))) (fun (_ : Unit) => []) := by
  intro sz
  refine mg_entry (Qc := fun A => va_Qi (fun (r : Int32) (_ : Unit) => r = nI (ft_c (mg_bt x 1 3))) (mg_B D A (fun (_ : Unit) => [])) A) (by decide) (Nat.le_of_ble_eq_true rfl) ?_
  intro p e s m args below meth c A ls X hr hlk hnm hA hK hw hl
  have hl : lv_has ls 1 [(0, .int (x))] := hl
  refine mg_iload_n X 1 d_Mo_isLetter_0 (lv_at hl 0 rfl) rfl ?_
  refine mg_iconst X 2 1 d_Mo_isLetter_1 mg_ci_1 rfl ?_
  refine mg_icl_r X 14 5 (by decide) d_Mo_isLetter_2 (by decide) rfl (fun hlo => ?_) (fun j lj hj ej => ?_)
  · -- pc 2 t
    refine mg_iconst X 15 0 d_Mo_isLetter_14 mg_ci_0 rfl ?_
    exact mg_iret X hr hlk (mg_nz (by omega)) (()) (by rw [ft_c0 (mg_bt_no (by decide) hlo)]) hw d_Mo_isLetter_15
  · -- pc 2 f
    subst ej
    refine mg_iload_n X 6 d_Mo_isLetter_5 (lv_at hl 0 rfl) rfl ?_
    refine mg_iconst X 7 3 d_Mo_isLetter_6 mg_ci_3 rfl ?_
    refine mg_icmp_gt X 14 10 (by omega) (by omega) d_Mo_isLetter_7 (by decide) rfl (fun hhi => ?_) (fun hhi => ?_)
    · -- pc 7 t
      refine mg_iconst X 15 0 d_Mo_isLetter_14 mg_ci_0 rfl ?_
      exact mg_iret X hr hlk (mg_nz (by omega)) (()) (by rw [ft_c0 (mg_bt_gt hj (by decide) hhi)]) hw d_Mo_isLetter_15
    · -- pc 7 f
      refine mg_iconst X 11 1 d_Mo_isLetter_10 mg_ci_1 rfl ?_
      refine mg_goto X 15 d_Mo_isLetter_11 (by decide) ?_
      exact mg_iret X hr hlk (mg_nz (by omega)) (()) (by rw [ft_c1 (mg_bt_in lj hhi)]) hw d_Mo_isLetter_15

set_option maxRecDepth 100000 in
set_option maxHeartbeats 4000000 in
theorem k_Mo_founderN (l : Launch) (D : va_G) (K : Nat → ClassId) (mh : Nat) (qor : Nat) (qfa : Nat) (qmo : Nat) (qwt : Nat) (qrt : Nat) (qnw : Nat) (qsn : Nat) (qlt : Nat) (qkn : Nat) (qft : Nat) (qbf : Nat) (qbh : Nat) (qjt : Nat) (qot : Nat) (qsm : Nat) (qpt : Nat) (qpr : Nat) (qch : Nat) (qbt : Nat) (qpg : Nat) (flt : Nat) (np : Nat) (nf : Nat) (nc : Nat) (nm : Nat) (wr : Nat) (sn : Nat → Nat) (hsn : ∀ k, k < 24 → sn k ≤ 33) (hnp : np = nf + nc) (hnf : nf ≤ 3) (hnc : nc ≤ 3) (hx : nf = 3 ∨ ∃ j, j < 24 ∧ 0 < sn j) : mg_Mi l D K y_Mo_founder b_Mo_founder 1 (.int) ({ frames := 1, cells := 0, slots := 0, locals := 22 }) [.ref (mh)] [mg_ob mh 6 [.int (nI (flt)), .int (nI (np)), .int (nI (nf)), .int (nI (nc)), .ref (qor), .ref (qfa), .ref (qmo), .int (nI (nm)), .ref (qwt), .ref (qrt), .ref (qnw), .ref (qsn), .ref (qlt), .ref (qkn), .ref (qft), .ref (qbf), .ref (qbh), .ref (qjt), .ref (qot), .ref (qsm), .ref (qpt), .ref (qpr), .ref (qch), .ref (qbt), .int (nI (wr)), .ref (qpg)], mg_ai K qsn 24 sn] (fun (r : Int32) (_ : Unit) => r = nI (0)) (fun (_ : Unit) => [mg_ob mh 6 [.int (nI (1)), .int (nI (np)), .int (nI (nf)), .int (nI (nc)), .ref (qor), .ref (qfa), .ref (qmo), .int (nI (nm)), .ref (qwt), .ref (qrt), .ref (qnw), .ref (qsn), .ref (qlt), .ref (qkn), .ref (qft), .ref (qbf), .ref (qbh), .ref (qjt), .ref (qot), .ref (qsm), .ref (qpt), .ref (qpr), .ref (qch), .ref (qbt), .int (nI (wr)), .ref (qpg)], mg_ai K qsn 24 sn]) := by
  intro sz
  refine mg_entry (Qc := fun A => va_Qi (fun (r : Int32) (_ : Unit) => r = nI (0)) (mg_B D A (fun (_ : Unit) => [mg_ob mh 6 [.int (nI (1)), .int (nI (np)), .int (nI (nf)), .int (nI (nc)), .ref (qor), .ref (qfa), .ref (qmo), .int (nI (nm)), .ref (qwt), .ref (qrt), .ref (qnw), .ref (qsn), .ref (qlt), .ref (qkn), .ref (qft), .ref (qbf), .ref (qbh), .ref (qjt), .ref (qot), .ref (qsm), .ref (qpt), .ref (qpr), .ref (qch), .ref (qbt), .int (nI (wr)), .ref (qpg)], mg_ai K qsn 24 sn])) A) (by decide) (Nat.le_of_ble_eq_true rfl) ?_
  intro p e s m args below meth c A ls X hr hlk hnm hA hK hw hl
  have hl : lv_has ls 1 [(0, .ref (mh))] := hl
  refine mg_aload_n X 1 d_Mo_founder_0 (lv_at hl 0 rfl) rfl ?_
  refine mg_aload_n X 2 d_Mo_founder_1 (lv_at hl 0 rfl) rfl ?_
  refine mg_get X hK hw 5 0 2 f_Mo_89 rfl rfl d_Mo_founder_2 rfl ?_
  refine mg_iconst X 6 3 d_Mo_founder_5 mg_ci_3 rfl ?_
  refine mg_icmp_eq X 16 9 (by omega) (by omega) d_Mo_founder_6 (by decide) rfl (fun h3 => ?_) (fun h3 => ?_)
  · -- pc 6 t
    refine mg_iconst X 17 1 d_Mo_founder_16 mg_ci_1 rfl ?_
    refine mg_goto X 21 d_Mo_founder_17 (by decide) ?_
    refine mg_callVi X hK hw hA 24 [0] 0 (fun _ => [mg_ob mh 6 [.int (nI (1)), .int (nI (np)), .int (nI (nf)), .int (nI (nc)), .ref (qor), .ref (qfa), .ref (qmo), .int (nI (nm)), .ref (qwt), .ref (qrt), .ref (qnw), .ref (qsn), .ref (qlt), .ref (qkn), .ref (qft), .ref (qbf), .ref (qbh), .ref (qjt), .ref (qot), .ref (qsm), .ref (qpt), .ref (qpr), .ref (qch), .ref (qbt), .int (nI (wr)), .ref (qpg)], mg_ai K qsn 24 sn]) rfl rfl (k_Mo_refused l D K mh qor qfa qmo qwt qrt qnw qsn qlt qkn qft qbf qbh qjt qot qsm qpt qpr qch qbt qpg flt np nf nc nm wr 1 (by omega)) g_Mo_96 ⟨by decide, by decide⟩ ⟨rfl, rfl⟩ rfl rfl rfl hl.1 (rest := []) (As := [.int (nI (1))]) rfl (Nat.le_of_ble_eq_true rfl) d_Mo_founder_21 ⟨Nat.zero_le _, Nat.zero_le _⟩ (fun _ => rfl) (fun _ => rfl) rfl ?_
    intro r _ H locs hp2 hw
    subst hp2
    refine mg_bif_eq X 29 27 d_Mo_founder_24 (by decide) rfl (fun b3 => absurd b3 (by decide)) (fun _ => ?_)
    refine mg_iconst X 28 0 d_Mo_founder_27 mg_ci_0 rfl ?_
    exact mg_iret X hr hlk (rfl) (()) (rfl) hw d_Mo_founder_28
  · -- pc 6 f
    refine mg_aload_n X 10 d_Mo_founder_9 (lv_at hl 0 rfl) rfl ?_
    refine mg_callVi X hK hw hA 13 [0, 1] 0 (fun _ => [mg_ob mh 6 [.int (nI (flt)), .int (nI (np)), .int (nI (nf)), .int (nI (nc)), .ref (qor), .ref (qfa), .ref (qmo), .int (nI (nm)), .ref (qwt), .ref (qrt), .ref (qnw), .ref (qsn), .ref (qlt), .ref (qkn), .ref (qft), .ref (qbf), .ref (qbh), .ref (qjt), .ref (qot), .ref (qsm), .ref (qpt), .ref (qpr), .ref (qch), .ref (qbt), .int (nI (wr)), .ref (qpg)], mg_ai K qsn 24 sn]) rfl rfl (k_Mo_isAnySeen l D K mh qor qfa qmo qwt qrt qnw qsn qlt qkn qft qbf qbh qjt qot qsm qpt qpr qch qbt qpg flt np nf nc nm wr sn (by omega)) g_Mo_92 ⟨by decide, by decide⟩ ⟨rfl, rfl⟩ rfl rfl rfl hl.1 (rest := [.ref (mh)]) (As := []) rfl (Nat.le_of_ble_eq_true rfl) d_Mo_founder_10 ⟨Nat.zero_le _, Nat.zero_le _⟩ (fun _ => rfl) (fun _ => rfl) rfl ?_
    intro r _ H locs hp5 hw
    subst hp5
    refine mg_bif_eq X 20 16 d_Mo_founder_13 (by decide) rfl (fun ha => ?_) (fun ha => ?_)
    · -- pc 13 t
      exact absurd hx (fun q => by rcases q with h9 | h9; exact h3 h9; exact ha h9)
    · -- pc 13 f
      refine mg_iconst X 17 1 d_Mo_founder_16 mg_ci_1 rfl ?_
      refine mg_goto X 21 d_Mo_founder_17 (by decide) ?_
      refine mg_callVi X hK hw hA 24 [0] 0 (fun _ => [mg_ob mh 6 [.int (nI (1)), .int (nI (np)), .int (nI (nf)), .int (nI (nc)), .ref (qor), .ref (qfa), .ref (qmo), .int (nI (nm)), .ref (qwt), .ref (qrt), .ref (qnw), .ref (qsn), .ref (qlt), .ref (qkn), .ref (qft), .ref (qbf), .ref (qbh), .ref (qjt), .ref (qot), .ref (qsm), .ref (qpt), .ref (qpr), .ref (qch), .ref (qbt), .int (nI (wr)), .ref (qpg)], mg_ai K qsn 24 sn]) rfl rfl (k_Mo_refused l D K mh qor qfa qmo qwt qrt qnw qsn qlt qkn qft qbf qbh qjt qot qsm qpt qpr qch qbt qpg flt np nf nc nm wr 1 (by omega)) g_Mo_96 ⟨by decide, by decide⟩ ⟨rfl, rfl⟩ rfl rfl rfl hl.1 (rest := []) (As := [.int (nI (1))]) rfl (Nat.le_of_ble_eq_true rfl) d_Mo_founder_21 ⟨Nat.zero_le _, Nat.zero_le _⟩ (fun _ => rfl) (fun _ => rfl) rfl ?_
      intro r _ H locs hp7 hw
      subst hp7
      refine mg_bif_eq X 29 27 d_Mo_founder_24 (by decide) rfl (fun b8 => absurd b8 (by decide)) (fun _ => ?_)
      refine mg_iconst X 28 0 d_Mo_founder_27 mg_ci_0 rfl ?_
      exact mg_iret X hr hlk (rfl) (()) (rfl) hw d_Mo_founder_28

set_option maxRecDepth 100000 in
set_option maxHeartbeats 4000000 in
theorem k_Mo_founder (l : Launch) (D : va_G) (K : Nat → ClassId) (mh : Nat) (qor : Nat) (qfa : Nat) (qmo : Nat) (qwt : Nat) (qrt : Nat) (qnw : Nat) (qsn : Nat) (qlt : Nat) (qkn : Nat) (qft : Nat) (qbf : Nat) (qbh : Nat) (qjt : Nat) (qot : Nat) (qsm : Nat) (qpt : Nat) (qpr : Nat) (qch : Nat) (qbt : Nat) (qpg : Nat) (flt : Nat) (np : Nat) (nf : Nat) (nc : Nat) (nm : Nat) (wr : Nat) (rk : Nat → Nat) (fa : Nat → Nat) (mo : Nat → Nat) (sn : Nat → Nat) (kn : Nat → Nat) (hsn : ∀ k, k < 24 → sn k ≤ 33) (hnp : np = nf + nc) (hnf : nf ≤ 3) (hnc : nc ≤ 3) (hx : nf < 3) (hno : ¬ (∃ j, j < 24 ∧ 0 < sn j)) : mg_Mi l D K y_Mo_founder b_Mo_founder 1 (.int) ({ frames := 1, cells := 0, slots := 0, locals := 22 }) [.ref (mh)] [mg_ob mh 6 [.int (nI (flt)), .int (nI (np)), .int (nI (nf)), .int (nI (nc)), .ref (qor), .ref (qfa), .ref (qmo), .int (nI (nm)), .ref (qwt), .ref (qrt), .ref (qnw), .ref (qsn), .ref (qlt), .ref (qkn), .ref (qft), .ref (qbf), .ref (qbh), .ref (qjt), .ref (qot), .ref (qsm), .ref (qpt), .ref (qpr), .ref (qch), .ref (qbt), .int (nI (wr)), .ref (qpg)], mg_ai K qor 6 rk, mg_ai K qfa 6 fa, mg_ai K qmo 6 mo, mg_ai K qsn 24 sn, mg_az K qkn 4 kn] (fun (r : Int32) (_ : Unit) => r = nI (np)) (fun (_ : Unit) => [mg_ob mh 6 [.int (nI (0)), .int (nI (np + 1)), .int (nI (nf + 1)), .int (nI (nc)), .ref (qor), .ref (qfa), .ref (qmo), .int (nI (nm)), .ref (qwt), .ref (qrt), .ref (qnw), .ref (qsn), .ref (qlt), .ref (qkn), .ref (qft), .ref (qbf), .ref (qbh), .ref (qjt), .ref (qot), .ref (qsm), .ref (qpt), .ref (qpr), .ref (qch), .ref (qbt), .int (nI (wr)), .ref (qpg)], mg_ai K qor 6 (va_up rk np nf), mg_ai K qfa 6 (va_up fa np 4294967295), mg_ai K qmo 6 (va_up mo np 4294967295), mg_ai K qsn 24 sn, mg_az K qkn 4 (su_pt (fun _ => 0) kn 4)]) := by
  intro sz
  refine mg_entry (Qc := fun A => va_Qi (fun (r : Int32) (_ : Unit) => r = nI (np)) (mg_B D A (fun (_ : Unit) => [mg_ob mh 6 [.int (nI (0)), .int (nI (np + 1)), .int (nI (nf + 1)), .int (nI (nc)), .ref (qor), .ref (qfa), .ref (qmo), .int (nI (nm)), .ref (qwt), .ref (qrt), .ref (qnw), .ref (qsn), .ref (qlt), .ref (qkn), .ref (qft), .ref (qbf), .ref (qbh), .ref (qjt), .ref (qot), .ref (qsm), .ref (qpt), .ref (qpr), .ref (qch), .ref (qbt), .int (nI (wr)), .ref (qpg)], mg_ai K qor 6 (va_up rk np nf), mg_ai K qfa 6 (va_up fa np 4294967295), mg_ai K qmo 6 (va_up mo np 4294967295), mg_ai K qsn 24 sn, mg_az K qkn 4 (su_pt (fun _ => 0) kn 4)])) A) (by decide) (Nat.le_of_ble_eq_true rfl) ?_
  intro p e s m args below meth c A ls X hr hlk hnm hA hK hw hl
  have hl : lv_has ls 1 [(0, .ref (mh))] := hl
  refine mg_aload_n X 1 d_Mo_founder_0 (lv_at hl 0 rfl) rfl ?_
  refine mg_aload_n X 2 d_Mo_founder_1 (lv_at hl 0 rfl) rfl ?_
  refine mg_get X hK hw 5 0 2 f_Mo_89 rfl rfl d_Mo_founder_2 rfl ?_
  refine mg_iconst X 6 3 d_Mo_founder_5 mg_ci_3 rfl ?_
  refine mg_icmp_eq X 16 9 (by omega) (by omega) d_Mo_founder_6 (by decide) rfl (fun b1 => absurd b1 (by omega)) (fun b1 => ?_)
  refine mg_aload_n X 10 d_Mo_founder_9 (lv_at hl 0 rfl) rfl ?_
  refine mg_callVi X hK hw hA 13 [0, 4] 0 (fun _ => [mg_ob mh 6 [.int (nI (flt)), .int (nI (np)), .int (nI (nf)), .int (nI (nc)), .ref (qor), .ref (qfa), .ref (qmo), .int (nI (nm)), .ref (qwt), .ref (qrt), .ref (qnw), .ref (qsn), .ref (qlt), .ref (qkn), .ref (qft), .ref (qbf), .ref (qbh), .ref (qjt), .ref (qot), .ref (qsm), .ref (qpt), .ref (qpr), .ref (qch), .ref (qbt), .int (nI (wr)), .ref (qpg)], mg_ai K qor 6 rk, mg_ai K qfa 6 fa, mg_ai K qmo 6 mo, mg_ai K qsn 24 sn, mg_az K qkn 4 kn]) rfl rfl (k_Mo_isAnySeen l D K mh qor qfa qmo qwt qrt qnw qsn qlt qkn qft qbf qbh qjt qot qsm qpt qpr qch qbt qpg flt np nf nc nm wr sn (by omega)) g_Mo_92 ⟨by decide, by decide⟩ ⟨rfl, rfl⟩ rfl rfl rfl hl.1 (rest := [.ref (mh)]) (As := []) rfl (Nat.le_of_ble_eq_true rfl) d_Mo_founder_10 ⟨Nat.zero_le _, Nat.zero_le _⟩ (fun _ => rfl) (fun _ => rfl) rfl ?_
  intro r _ H locs hp3 hw
  subst hp3
  refine mg_bif_eq X 20 16 d_Mo_founder_13 (by decide) rfl (fun _ => ?_) (fun b4 => absurd b4 (hno))
  refine mg_iconst X 21 0 d_Mo_founder_20 mg_ci_0 rfl ?_
  refine mg_callVi X hK hw hA 24 [0] 0 (fun _ => [mg_ob mh 6 [.int (nI (0)), .int (nI (np)), .int (nI (nf)), .int (nI (nc)), .ref (qor), .ref (qfa), .ref (qmo), .int (nI (nm)), .ref (qwt), .ref (qrt), .ref (qnw), .ref (qsn), .ref (qlt), .ref (qkn), .ref (qft), .ref (qbf), .ref (qbh), .ref (qjt), .ref (qot), .ref (qsm), .ref (qpt), .ref (qpr), .ref (qch), .ref (qbt), .int (nI (wr)), .ref (qpg)], mg_ai K qor 6 rk, mg_ai K qfa 6 fa, mg_ai K qmo 6 mo, mg_ai K qsn 24 sn, mg_az K qkn 4 kn]) rfl rfl (k_Mo_refused l D K mh qor qfa qmo qwt qrt qnw qsn qlt qkn qft qbf qbh qjt qot qsm qpt qpr qch qbt qpg flt np nf nc nm wr 0 (by omega)) g_Mo_96 ⟨by decide, by decide⟩ ⟨rfl, rfl⟩ rfl rfl rfl hl.1 (rest := []) (As := [.int (nI (0))]) rfl (Nat.le_of_ble_eq_true rfl) d_Mo_founder_21 ⟨Nat.zero_le _, Nat.zero_le _⟩ (fun _ => rfl) (fun _ => rfl) rfl ?_
  intro r _ H locs hp6 hw
  subst hp6
  refine mg_bif_eq X 29 27 d_Mo_founder_24 (by decide) rfl (fun _ => ?_) (fun b7 => absurd b7 (by decide))
  refine mg_aload_n X 30 d_Mo_founder_29 (lv_at hl 0 rfl) rfl ?_
  refine mg_get X hK hw 33 0 4 f_Mo_7 rfl rfl d_Mo_founder_30 rfl ?_
  refine mg_aload_n X 34 d_Mo_founder_33 (lv_at hl 0 rfl) rfl ?_
  refine mg_get X hK hw 37 0 1 f_Mo_80 rfl rfl d_Mo_founder_34 rfl ?_
  refine mg_aload_n X 38 d_Mo_founder_37 (lv_at hl 0 rfl) rfl ?_
  refine mg_get X hK hw 41 0 2 f_Mo_89 rfl rfl d_Mo_founder_38 rfl ?_
  refine mg_iast X hK hw 42 1 [mg_ob mh 6 [.int (nI (0)), .int (nI (np)), .int (nI (nf)), .int (nI (nc)), .ref (qor), .ref (qfa), .ref (qmo), .int (nI (nm)), .ref (qwt), .ref (qrt), .ref (qnw), .ref (qsn), .ref (qlt), .ref (qkn), .ref (qft), .ref (qbf), .ref (qbh), .ref (qjt), .ref (qot), .ref (qsm), .ref (qpt), .ref (qpr), .ref (qch), .ref (qbt), .int (nI (wr)), .ref (qpg)], mg_ai K qor 6 (va_up rk np nf), mg_ai K qfa 6 fa, mg_ai K qmo 6 mo, mg_ai K qsn 24 sn, mg_az K qkn 4 kn] rfl (by omega) (by omega) d_Mo_founder_41 rfl rfl (fun H locs hw => ?_)
  refine mg_aload_n X 43 d_Mo_founder_42 (lv_at hl 0 rfl) rfl ?_
  refine mg_get X hK hw 46 0 5 f_Mo_13 rfl rfl d_Mo_founder_43 rfl ?_
  refine mg_aload_n X 47 d_Mo_founder_46 (lv_at hl 0 rfl) rfl ?_
  refine mg_get X hK hw 50 0 1 f_Mo_80 rfl rfl d_Mo_founder_47 rfl ?_
  refine mg_iconst X 51 4294967295 d_Mo_founder_50 mg_ci_m1 rfl ?_
  refine mg_iast X hK hw 52 2 [mg_ob mh 6 [.int (nI (0)), .int (nI (np)), .int (nI (nf)), .int (nI (nc)), .ref (qor), .ref (qfa), .ref (qmo), .int (nI (nm)), .ref (qwt), .ref (qrt), .ref (qnw), .ref (qsn), .ref (qlt), .ref (qkn), .ref (qft), .ref (qbf), .ref (qbh), .ref (qjt), .ref (qot), .ref (qsm), .ref (qpt), .ref (qpr), .ref (qch), .ref (qbt), .int (nI (wr)), .ref (qpg)], mg_ai K qor 6 (va_up rk np nf), mg_ai K qfa 6 (va_up fa np 4294967295), mg_ai K qmo 6 mo, mg_ai K qsn 24 sn, mg_az K qkn 4 kn] rfl (by omega) (by omega) d_Mo_founder_51 rfl rfl (fun H locs hw => ?_)
  refine mg_aload_n X 53 d_Mo_founder_52 (lv_at hl 0 rfl) rfl ?_
  refine mg_get X hK hw 56 0 6 f_Mo_16 rfl rfl d_Mo_founder_53 rfl ?_
  refine mg_aload_n X 57 d_Mo_founder_56 (lv_at hl 0 rfl) rfl ?_
  refine mg_get X hK hw 60 0 1 f_Mo_80 rfl rfl d_Mo_founder_57 rfl ?_
  refine mg_iconst X 61 4294967295 d_Mo_founder_60 mg_ci_m1 rfl ?_
  refine mg_iast X hK hw 62 3 [mg_ob mh 6 [.int (nI (0)), .int (nI (np)), .int (nI (nf)), .int (nI (nc)), .ref (qor), .ref (qfa), .ref (qmo), .int (nI (nm)), .ref (qwt), .ref (qrt), .ref (qnw), .ref (qsn), .ref (qlt), .ref (qkn), .ref (qft), .ref (qbf), .ref (qbh), .ref (qjt), .ref (qot), .ref (qsm), .ref (qpt), .ref (qpr), .ref (qch), .ref (qbt), .int (nI (wr)), .ref (qpg)], mg_ai K qor 6 (va_up rk np nf), mg_ai K qfa 6 (va_up fa np 4294967295), mg_ai K qmo 6 (va_up mo np 4294967295), mg_ai K qsn 24 sn, mg_az K qkn 4 kn] rfl (by omega) (by omega) d_Mo_founder_61 rfl rfl (fun H locs hw => ?_)
  refine mg_aload_n X 63 d_Mo_founder_62 (lv_at hl 0 rfl) rfl ?_
  refine mg_dup X 64 d_Mo_founder_63 rfl rfl ?_
  refine mg_get X hK hw 67 0 2 f_Mo_89 rfl rfl d_Mo_founder_64 rfl ?_
  refine mg_iconst X 68 1 d_Mo_founder_67 mg_ci_1 rfl ?_
  refine mg_iadd X 69 (nI (nf + 1)) d_Mo_founder_68 (nI_add _ _) rfl ?_
  refine mg_put X hK hw 72 0 2 [mg_ob mh 6 [.int (nI (0)), .int (nI (np)), .int (nI (nf + 1)), .int (nI (nc)), .ref (qor), .ref (qfa), .ref (qmo), .int (nI (nm)), .ref (qwt), .ref (qrt), .ref (qnw), .ref (qsn), .ref (qlt), .ref (qkn), .ref (qft), .ref (qbf), .ref (qbh), .ref (qjt), .ref (qot), .ref (qsm), .ref (qpt), .ref (qpr), .ref (qch), .ref (qbt), .int (nI (wr)), .ref (qpg)], mg_ai K qor 6 (va_up rk np nf), mg_ai K qfa 6 (va_up fa np 4294967295), mg_ai K qmo 6 (va_up mo np 4294967295), mg_ai K qsn 24 sn, mg_az K qkn 4 kn] fp_Mo_89 rfl (Nat.le_of_ble_eq_true rfl) rfl rfl d_Mo_founder_69 rfl rfl (fun H locs hw => ?_)
  refine mg_aload_n X 73 d_Mo_founder_72 (lv_at hl 0 rfl) rfl ?_
  refine mg_dup X 74 d_Mo_founder_73 rfl rfl ?_
  refine mg_get X hK hw 77 0 1 f_Mo_80 rfl rfl d_Mo_founder_74 rfl ?_
  refine mg_iconst X 78 1 d_Mo_founder_77 mg_ci_1 rfl ?_
  refine mg_iadd X 79 (nI (np + 1)) d_Mo_founder_78 (nI_add _ _) rfl ?_
  refine mg_put X hK hw 82 0 1 [mg_ob mh 6 [.int (nI (0)), .int (nI (np + 1)), .int (nI (nf + 1)), .int (nI (nc)), .ref (qor), .ref (qfa), .ref (qmo), .int (nI (nm)), .ref (qwt), .ref (qrt), .ref (qnw), .ref (qsn), .ref (qlt), .ref (qkn), .ref (qft), .ref (qbf), .ref (qbh), .ref (qjt), .ref (qot), .ref (qsm), .ref (qpt), .ref (qpr), .ref (qch), .ref (qbt), .int (nI (wr)), .ref (qpg)], mg_ai K qor 6 (va_up rk np nf), mg_ai K qfa 6 (va_up fa np 4294967295), mg_ai K qmo 6 (va_up mo np 4294967295), mg_ai K qsn 24 sn, mg_az K qkn 4 kn] fp_Mo_80 rfl (Nat.le_of_ble_eq_true rfl) rfl rfl d_Mo_founder_79 rfl rfl (fun H locs hw => ?_)
  refine mg_aload_n X 83 d_Mo_founder_82 (lv_at hl 0 rfl) rfl ?_
  refine mg_callVv X hK hw hA 86 [0, 5] 0 (fun _ => [mg_ob mh 6 [.int (nI (0)), .int (nI (np + 1)), .int (nI (nf + 1)), .int (nI (nc)), .ref (qor), .ref (qfa), .ref (qmo), .int (nI (nm)), .ref (qwt), .ref (qrt), .ref (qnw), .ref (qsn), .ref (qlt), .ref (qkn), .ref (qft), .ref (qbf), .ref (qbh), .ref (qjt), .ref (qot), .ref (qsm), .ref (qpt), .ref (qpr), .ref (qch), .ref (qbt), .int (nI (wr)), .ref (qpg)], mg_ai K qor 6 (va_up rk np nf), mg_ai K qfa 6 (va_up fa np 4294967295), mg_ai K qmo 6 (va_up mo np 4294967295), mg_ai K qsn 24 sn, mg_az K qkn 4 (su_pt (fun _ => 0) kn 4)]) rfl rfl (k_Mo_forget l D K mh qor qfa qmo qwt qrt qnw qsn qlt qkn qft qbf qbh qjt qot qsm qpt qpr qch qbt qpg 0 (np + 1) (nf + 1) nc nm wr kn ) g_Mo_100 ⟨by decide, by decide⟩ ⟨rfl, rfl⟩ rfl rfl rfl hl.1 (rest := []) (As := []) rfl (Nat.le_of_ble_eq_true rfl) d_Mo_founder_83 ⟨Nat.zero_le _, Nat.zero_le _⟩ (fun _ => rfl) (fun _ => rfl) rfl ?_
  intro _ H locs hp9 hw
  refine mg_aload_n X 87 d_Mo_founder_86 (lv_at hl 0 rfl) rfl ?_
  refine mg_get X hK hw 90 0 1 f_Mo_80 rfl rfl d_Mo_founder_87 rfl ?_
  refine mg_iconst X 91 1 d_Mo_founder_90 mg_ci_1 rfl ?_
  refine mg_isub X 92 (nI ((np + 1) - 1)) d_Mo_founder_91 (pk_sub (by omega)) rfl ?_
  exact mg_iret X hr hlk (rfl) (()) (rfl) hw d_Mo_founder_92

set_option maxRecDepth 100000 in
set_option maxHeartbeats 4000000 in
theorem k_Mo_childN1 (l : Launch) (D : va_G) (K : Nat → ClassId) (mh : Nat) (qor : Nat) (qfa : Nat) (qmo : Nat) (qwt : Nat) (qrt : Nat) (qnw : Nat) (qsn : Nat) (qlt : Nat) (qkn : Nat) (qft : Nat) (qbf : Nat) (qbh : Nat) (qjt : Nat) (qot : Nat) (qsm : Nat) (qpt : Nat) (qpr : Nat) (qch : Nat) (qbt : Nat) (qpg : Nat) (flt : Nat) (np : Nat) (nf : Nat) (nc : Nat) (nm : Nat) (wr : Nat) (f1 : Int32) (m1 : Int32) (hnp : np = nf + nc) (hnf : nf ≤ 3) (hnc : nc ≤ 3) (hx : ¬ (mg_lt f1 np ∧ mg_lt m1 np)) : mg_Mi l D K y_Mo_child b_Mo_child 3 (.int) ({ frames := 1, cells := 0, slots := 0, locals := 22 }) [.ref (mh), .int (f1), .int (m1)] [mg_ob mh 6 [.int (nI (flt)), .int (nI (np)), .int (nI (nf)), .int (nI (nc)), .ref (qor), .ref (qfa), .ref (qmo), .int (nI (nm)), .ref (qwt), .ref (qrt), .ref (qnw), .ref (qsn), .ref (qlt), .ref (qkn), .ref (qft), .ref (qbf), .ref (qbh), .ref (qjt), .ref (qot), .ref (qsm), .ref (qpt), .ref (qpr), .ref (qch), .ref (qbt), .int (nI (wr)), .ref (qpg)]] (fun (r : Int32) (_ : Unit) => r = nI (0)) (fun (_ : Unit) => [mg_ob mh 6 [.int (nI (1)), .int (nI (np)), .int (nI (nf)), .int (nI (nc)), .ref (qor), .ref (qfa), .ref (qmo), .int (nI (nm)), .ref (qwt), .ref (qrt), .ref (qnw), .ref (qsn), .ref (qlt), .ref (qkn), .ref (qft), .ref (qbf), .ref (qbh), .ref (qjt), .ref (qot), .ref (qsm), .ref (qpt), .ref (qpr), .ref (qch), .ref (qbt), .int (nI (wr)), .ref (qpg)]]) := by
  intro sz
  refine mg_entry (Qc := fun A => va_Qi (fun (r : Int32) (_ : Unit) => r = nI (0)) (mg_B D A (fun (_ : Unit) => [mg_ob mh 6 [.int (nI (1)), .int (nI (np)), .int (nI (nf)), .int (nI (nc)), .ref (qor), .ref (qfa), .ref (qmo), .int (nI (nm)), .ref (qwt), .ref (qrt), .ref (qnw), .ref (qsn), .ref (qlt), .ref (qkn), .ref (qft), .ref (qbf), .ref (qbh), .ref (qjt), .ref (qot), .ref (qsm), .ref (qpt), .ref (qpr), .ref (qch), .ref (qbt), .int (nI (wr)), .ref (qpg)]])) A) (by decide) (Nat.le_of_ble_eq_true rfl) ?_
  intro p e s m args below meth c A ls X hr hlk hnm hA hK hw hl
  have hl : lv_has ls 3 [(0, .ref (mh)), (1, .int (f1)), (2, .int (m1))] := hl
  refine mg_aload_n X 1 d_Mo_child_0 (lv_at hl 0 rfl) rfl ?_
  refine mg_aload_n X 2 d_Mo_child_1 (lv_at hl 0 rfl) rfl ?_
  refine mg_iload_n X 3 d_Mo_child_2 (lv_at hl 1 rfl) rfl ?_
  refine mg_callVi X hK hw hA 6 [0] 0 (fun _ => [mg_ob mh 6 [.int (nI (flt)), .int (nI (np)), .int (nI (nf)), .int (nI (nc)), .ref (qor), .ref (qfa), .ref (qmo), .int (nI (nm)), .ref (qwt), .ref (qrt), .ref (qnw), .ref (qsn), .ref (qlt), .ref (qkn), .ref (qft), .ref (qbf), .ref (qbh), .ref (qjt), .ref (qot), .ref (qsm), .ref (qpt), .ref (qpr), .ref (qch), .ref (qbt), .int (nI (wr)), .ref (qpg)]]) rfl rfl (k_Mo_isPerson l D K mh qor qfa qmo qwt qrt qnw qsn qlt qkn qft qbf qbh qjt qot qsm qpt qpr qch qbt qpg flt np nf nc nm wr f1 (by omega)) g_Mo_103 ⟨by decide, by decide⟩ ⟨rfl, rfl⟩ rfl rfl rfl hl.1 (rest := [.ref (mh)]) (As := [.int (f1)]) rfl (Nat.le_of_ble_eq_true rfl) d_Mo_child_3 ⟨Nat.zero_le _, Nat.zero_le _⟩ (fun _ => rfl) (fun _ => rfl) rfl ?_
  intro r _ H locs hp2 hw
  subst hp2
  refine mg_bif_eq X 17 9 d_Mo_child_6 (by decide) rfl (fun b3 => ?_) (fun b3 => ?_)
  · -- pc 6 t
    refine mg_iconst X 18 1 d_Mo_child_17 mg_ci_1 rfl ?_
    refine mg_goto X 41 d_Mo_child_18 (by decide) ?_
    refine mg_callVi X hK hw hA 44 [0] 0 (fun _ => [mg_ob mh 6 [.int (nI (1)), .int (nI (np)), .int (nI (nf)), .int (nI (nc)), .ref (qor), .ref (qfa), .ref (qmo), .int (nI (nm)), .ref (qwt), .ref (qrt), .ref (qnw), .ref (qsn), .ref (qlt), .ref (qkn), .ref (qft), .ref (qbf), .ref (qbh), .ref (qjt), .ref (qot), .ref (qsm), .ref (qpt), .ref (qpr), .ref (qch), .ref (qbt), .int (nI (wr)), .ref (qpg)]]) rfl rfl (k_Mo_refused l D K mh qor qfa qmo qwt qrt qnw qsn qlt qkn qft qbf qbh qjt qot qsm qpt qpr qch qbt qpg flt np nf nc nm wr 1 (by omega)) g_Mo_96 ⟨by decide, by decide⟩ ⟨rfl, rfl⟩ rfl rfl rfl hl.1 (rest := []) (As := [.int (nI (1))]) rfl (Nat.le_of_ble_eq_true rfl) d_Mo_child_41 ⟨Nat.zero_le _, Nat.zero_le _⟩ (fun _ => rfl) (fun _ => rfl) rfl ?_
    intro r _ H locs hp5 hw
    subst hp5
    refine mg_bif_eq X 49 47 d_Mo_child_44 (by decide) rfl (fun b6 => absurd b6 (by decide)) (fun _ => ?_)
    refine mg_iconst X 48 0 d_Mo_child_47 mg_ci_0 rfl ?_
    exact mg_iret X hr hlk (rfl) (()) (rfl) hw d_Mo_child_48
  · -- pc 6 f
    obtain ⟨jf1, hf1, rfl⟩ := b3
    refine mg_aload_n X 10 d_Mo_child_9 (lv_at hl 0 rfl) rfl ?_
    refine mg_iload_n X 11 d_Mo_child_10 (lv_at hl 2 rfl) rfl ?_
    refine mg_callVi X hK hw hA 14 [0] 0 (fun _ => [mg_ob mh 6 [.int (nI (flt)), .int (nI (np)), .int (nI (nf)), .int (nI (nc)), .ref (qor), .ref (qfa), .ref (qmo), .int (nI (nm)), .ref (qwt), .ref (qrt), .ref (qnw), .ref (qsn), .ref (qlt), .ref (qkn), .ref (qft), .ref (qbf), .ref (qbh), .ref (qjt), .ref (qot), .ref (qsm), .ref (qpt), .ref (qpr), .ref (qch), .ref (qbt), .int (nI (wr)), .ref (qpg)]]) rfl rfl (k_Mo_isPerson l D K mh qor qfa qmo qwt qrt qnw qsn qlt qkn qft qbf qbh qjt qot qsm qpt qpr qch qbt qpg flt np nf nc nm wr m1 (by omega)) g_Mo_103 ⟨by decide, by decide⟩ ⟨rfl, rfl⟩ rfl rfl rfl hl.1 (rest := [.ref (mh)]) (As := [.int (m1)]) rfl (Nat.le_of_ble_eq_true rfl) d_Mo_child_11 ⟨Nat.zero_le _, Nat.zero_le _⟩ (fun _ => rfl) (fun _ => rfl) rfl ?_
    intro r _ H locs hp8 hw
    subst hp8
    refine mg_bif_ne X 21 17 d_Mo_child_14 (by decide) rfl (fun b9 => ?_) (fun b9 => ?_)
    · -- pc 14 t
      obtain ⟨jm1, hm1, rfl⟩ := b9
      exact absurd ⟨⟨jf1, hf1, rfl⟩, ⟨jm1, hm1, rfl⟩⟩ hx
    · -- pc 14 f
      refine mg_iconst X 18 1 d_Mo_child_17 mg_ci_1 rfl ?_
      refine mg_goto X 41 d_Mo_child_18 (by decide) ?_
      refine mg_callVi X hK hw hA 44 [0] 0 (fun _ => [mg_ob mh 6 [.int (nI (1)), .int (nI (np)), .int (nI (nf)), .int (nI (nc)), .ref (qor), .ref (qfa), .ref (qmo), .int (nI (nm)), .ref (qwt), .ref (qrt), .ref (qnw), .ref (qsn), .ref (qlt), .ref (qkn), .ref (qft), .ref (qbf), .ref (qbh), .ref (qjt), .ref (qot), .ref (qsm), .ref (qpt), .ref (qpr), .ref (qch), .ref (qbt), .int (nI (wr)), .ref (qpg)]]) rfl rfl (k_Mo_refused l D K mh qor qfa qmo qwt qrt qnw qsn qlt qkn qft qbf qbh qjt qot qsm qpt qpr qch qbt qpg flt np nf nc nm wr 1 (by omega)) g_Mo_96 ⟨by decide, by decide⟩ ⟨rfl, rfl⟩ rfl rfl rfl hl.1 (rest := []) (As := [.int (nI (1))]) rfl (Nat.le_of_ble_eq_true rfl) d_Mo_child_41 ⟨Nat.zero_le _, Nat.zero_le _⟩ (fun _ => rfl) (fun _ => rfl) rfl ?_
      intro r _ H locs hp11 hw
      subst hp11
      refine mg_bif_eq X 49 47 d_Mo_child_44 (by decide) rfl (fun b12 => absurd b12 (by decide)) (fun _ => ?_)
      refine mg_iconst X 48 0 d_Mo_child_47 mg_ci_0 rfl ?_
      exact mg_iret X hr hlk (rfl) (()) (rfl) hw d_Mo_child_48

set_option maxRecDepth 100000 in
set_option maxHeartbeats 4000000 in
theorem k_Mo_childN2 (l : Launch) (D : va_G) (K : Nat → ClassId) (mh : Nat) (qor : Nat) (qfa : Nat) (qmo : Nat) (qwt : Nat) (qrt : Nat) (qnw : Nat) (qsn : Nat) (qlt : Nat) (qkn : Nat) (qft : Nat) (qbf : Nat) (qbh : Nat) (qjt : Nat) (qot : Nat) (qsm : Nat) (qpt : Nat) (qpr : Nat) (qch : Nat) (qbt : Nat) (qpg : Nat) (flt : Nat) (np : Nat) (nf : Nat) (nc : Nat) (nm : Nat) (wr : Nat) (sn : Nat → Nat) (f1 : Nat) (m1 : Nat) (hsn : ∀ k, k < 24 → sn k ≤ 33) (hnp : np = nf + nc) (hnf : nf ≤ 3) (hnc : nc ≤ 3) (hf1 : f1 < np) (hm1 : m1 < np) (hx : nc = 3 ∨ ∃ j, j < 24 ∧ 0 < sn j) : mg_Mi l D K y_Mo_child b_Mo_child 3 (.int) ({ frames := 1, cells := 0, slots := 0, locals := 22 }) [.ref (mh), .int (nI (f1)), .int (nI (m1))] [mg_ob mh 6 [.int (nI (flt)), .int (nI (np)), .int (nI (nf)), .int (nI (nc)), .ref (qor), .ref (qfa), .ref (qmo), .int (nI (nm)), .ref (qwt), .ref (qrt), .ref (qnw), .ref (qsn), .ref (qlt), .ref (qkn), .ref (qft), .ref (qbf), .ref (qbh), .ref (qjt), .ref (qot), .ref (qsm), .ref (qpt), .ref (qpr), .ref (qch), .ref (qbt), .int (nI (wr)), .ref (qpg)], mg_ai K qsn 24 sn] (fun (r : Int32) (_ : Unit) => r = nI (0)) (fun (_ : Unit) => [mg_ob mh 6 [.int (nI (2)), .int (nI (np)), .int (nI (nf)), .int (nI (nc)), .ref (qor), .ref (qfa), .ref (qmo), .int (nI (nm)), .ref (qwt), .ref (qrt), .ref (qnw), .ref (qsn), .ref (qlt), .ref (qkn), .ref (qft), .ref (qbf), .ref (qbh), .ref (qjt), .ref (qot), .ref (qsm), .ref (qpt), .ref (qpr), .ref (qch), .ref (qbt), .int (nI (wr)), .ref (qpg)], mg_ai K qsn 24 sn]) := by
  intro sz
  refine mg_entry (Qc := fun A => va_Qi (fun (r : Int32) (_ : Unit) => r = nI (0)) (mg_B D A (fun (_ : Unit) => [mg_ob mh 6 [.int (nI (2)), .int (nI (np)), .int (nI (nf)), .int (nI (nc)), .ref (qor), .ref (qfa), .ref (qmo), .int (nI (nm)), .ref (qwt), .ref (qrt), .ref (qnw), .ref (qsn), .ref (qlt), .ref (qkn), .ref (qft), .ref (qbf), .ref (qbh), .ref (qjt), .ref (qot), .ref (qsm), .ref (qpt), .ref (qpr), .ref (qch), .ref (qbt), .int (nI (wr)), .ref (qpg)], mg_ai K qsn 24 sn])) A) (by decide) (Nat.le_of_ble_eq_true rfl) ?_
  intro p e s m args below meth c A ls X hr hlk hnm hA hK hw hl
  have hl : lv_has ls 3 [(0, .ref (mh)), (1, .int (nI (f1))), (2, .int (nI (m1)))] := hl
  refine mg_aload_n X 1 d_Mo_child_0 (lv_at hl 0 rfl) rfl ?_
  refine mg_aload_n X 2 d_Mo_child_1 (lv_at hl 0 rfl) rfl ?_
  refine mg_iload_n X 3 d_Mo_child_2 (lv_at hl 1 rfl) rfl ?_
  refine mg_callVi X hK hw hA 6 [0] 0 (fun _ => [mg_ob mh 6 [.int (nI (flt)), .int (nI (np)), .int (nI (nf)), .int (nI (nc)), .ref (qor), .ref (qfa), .ref (qmo), .int (nI (nm)), .ref (qwt), .ref (qrt), .ref (qnw), .ref (qsn), .ref (qlt), .ref (qkn), .ref (qft), .ref (qbf), .ref (qbh), .ref (qjt), .ref (qot), .ref (qsm), .ref (qpt), .ref (qpr), .ref (qch), .ref (qbt), .int (nI (wr)), .ref (qpg)], mg_ai K qsn 24 sn]) rfl rfl (k_Mo_isPerson l D K mh qor qfa qmo qwt qrt qnw qsn qlt qkn qft qbf qbh qjt qot qsm qpt qpr qch qbt qpg flt np nf nc nm wr (nI f1) (by omega)) g_Mo_103 ⟨by decide, by decide⟩ ⟨rfl, rfl⟩ rfl rfl rfl hl.1 (rest := [.ref (mh)]) (As := [.int (nI (f1))]) rfl (Nat.le_of_ble_eq_true rfl) d_Mo_child_3 ⟨Nat.zero_le _, Nat.zero_le _⟩ (fun _ => rfl) (fun _ => rfl) rfl ?_
  intro r _ H locs hp2 hw
  subst hp2
  refine mg_bif_eq X 17 9 d_Mo_child_6 (by decide) rfl (fun b3 => absurd (mg_lt_in hf1) b3) (fun _ => ?_)
  refine mg_aload_n X 10 d_Mo_child_9 (lv_at hl 0 rfl) rfl ?_
  refine mg_iload_n X 11 d_Mo_child_10 (lv_at hl 2 rfl) rfl ?_
  refine mg_callVi X hK hw hA 14 [0] 0 (fun _ => [mg_ob mh 6 [.int (nI (flt)), .int (nI (np)), .int (nI (nf)), .int (nI (nc)), .ref (qor), .ref (qfa), .ref (qmo), .int (nI (nm)), .ref (qwt), .ref (qrt), .ref (qnw), .ref (qsn), .ref (qlt), .ref (qkn), .ref (qft), .ref (qbf), .ref (qbh), .ref (qjt), .ref (qot), .ref (qsm), .ref (qpt), .ref (qpr), .ref (qch), .ref (qbt), .int (nI (wr)), .ref (qpg)], mg_ai K qsn 24 sn]) rfl rfl (k_Mo_isPerson l D K mh qor qfa qmo qwt qrt qnw qsn qlt qkn qft qbf qbh qjt qot qsm qpt qpr qch qbt qpg flt np nf nc nm wr (nI m1) (by omega)) g_Mo_103 ⟨by decide, by decide⟩ ⟨rfl, rfl⟩ rfl rfl rfl hl.1 (rest := [.ref (mh)]) (As := [.int (nI (m1))]) rfl (Nat.le_of_ble_eq_true rfl) d_Mo_child_11 ⟨Nat.zero_le _, Nat.zero_le _⟩ (fun _ => rfl) (fun _ => rfl) rfl ?_
  intro r _ H locs hp5 hw
  subst hp5
  refine mg_bif_ne X 21 17 d_Mo_child_14 (by decide) rfl (fun _ => ?_) (fun b6 => absurd (mg_lt_in hm1) b6)
  refine mg_aload_n X 22 d_Mo_child_21 (lv_at hl 0 rfl) rfl ?_
  refine mg_get X hK hw 25 0 3 f_Mo_86 rfl rfl d_Mo_child_22 rfl ?_
  refine mg_iconst X 26 3 d_Mo_child_25 mg_ci_3 rfl ?_
  refine mg_icmp_eq X 36 29 (by omega) (by omega) d_Mo_child_26 (by decide) rfl (fun h3 => ?_) (fun h3 => ?_)
  · -- pc 26 t
    refine mg_iconst X 37 2 d_Mo_child_36 mg_ci_2 rfl ?_
    refine mg_goto X 41 d_Mo_child_37 (by decide) ?_
    refine mg_callVi X hK hw hA 44 [0] 0 (fun _ => [mg_ob mh 6 [.int (nI (2)), .int (nI (np)), .int (nI (nf)), .int (nI (nc)), .ref (qor), .ref (qfa), .ref (qmo), .int (nI (nm)), .ref (qwt), .ref (qrt), .ref (qnw), .ref (qsn), .ref (qlt), .ref (qkn), .ref (qft), .ref (qbf), .ref (qbh), .ref (qjt), .ref (qot), .ref (qsm), .ref (qpt), .ref (qpr), .ref (qch), .ref (qbt), .int (nI (wr)), .ref (qpg)], mg_ai K qsn 24 sn]) rfl rfl (k_Mo_refused l D K mh qor qfa qmo qwt qrt qnw qsn qlt qkn qft qbf qbh qjt qot qsm qpt qpr qch qbt qpg flt np nf nc nm wr 2 (by omega)) g_Mo_96 ⟨by decide, by decide⟩ ⟨rfl, rfl⟩ rfl rfl rfl hl.1 (rest := []) (As := [.int (nI (2))]) rfl (Nat.le_of_ble_eq_true rfl) d_Mo_child_41 ⟨Nat.zero_le _, Nat.zero_le _⟩ (fun _ => rfl) (fun _ => rfl) rfl ?_
    intro r _ H locs hp8 hw
    subst hp8
    refine mg_bif_eq X 49 47 d_Mo_child_44 (by decide) rfl (fun b9 => absurd b9 (by decide)) (fun _ => ?_)
    refine mg_iconst X 48 0 d_Mo_child_47 mg_ci_0 rfl ?_
    exact mg_iret X hr hlk (rfl) (()) (rfl) hw d_Mo_child_48
  · -- pc 26 f
    refine mg_aload_n X 30 d_Mo_child_29 (lv_at hl 0 rfl) rfl ?_
    refine mg_callVi X hK hw hA 33 [0, 1] 0 (fun _ => [mg_ob mh 6 [.int (nI (flt)), .int (nI (np)), .int (nI (nf)), .int (nI (nc)), .ref (qor), .ref (qfa), .ref (qmo), .int (nI (nm)), .ref (qwt), .ref (qrt), .ref (qnw), .ref (qsn), .ref (qlt), .ref (qkn), .ref (qft), .ref (qbf), .ref (qbh), .ref (qjt), .ref (qot), .ref (qsm), .ref (qpt), .ref (qpr), .ref (qch), .ref (qbt), .int (nI (wr)), .ref (qpg)], mg_ai K qsn 24 sn]) rfl rfl (k_Mo_isAnySeen l D K mh qor qfa qmo qwt qrt qnw qsn qlt qkn qft qbf qbh qjt qot qsm qpt qpr qch qbt qpg flt np nf nc nm wr sn (by omega)) g_Mo_92 ⟨by decide, by decide⟩ ⟨rfl, rfl⟩ rfl rfl rfl hl.1 (rest := [.ref (mh)]) (As := []) rfl (Nat.le_of_ble_eq_true rfl) d_Mo_child_30 ⟨Nat.zero_le _, Nat.zero_le _⟩ (fun _ => rfl) (fun _ => rfl) rfl ?_
    intro r _ H locs hp11 hw
    subst hp11
    refine mg_bif_eq X 40 36 d_Mo_child_33 (by decide) rfl (fun ha => ?_) (fun ha => ?_)
    · -- pc 33 t
      exact absurd hx (fun q => by rcases q with h9 | h9; exact h3 h9; exact ha h9)
    · -- pc 33 f
      refine mg_iconst X 37 2 d_Mo_child_36 mg_ci_2 rfl ?_
      refine mg_goto X 41 d_Mo_child_37 (by decide) ?_
      refine mg_callVi X hK hw hA 44 [0] 0 (fun _ => [mg_ob mh 6 [.int (nI (2)), .int (nI (np)), .int (nI (nf)), .int (nI (nc)), .ref (qor), .ref (qfa), .ref (qmo), .int (nI (nm)), .ref (qwt), .ref (qrt), .ref (qnw), .ref (qsn), .ref (qlt), .ref (qkn), .ref (qft), .ref (qbf), .ref (qbh), .ref (qjt), .ref (qot), .ref (qsm), .ref (qpt), .ref (qpr), .ref (qch), .ref (qbt), .int (nI (wr)), .ref (qpg)], mg_ai K qsn 24 sn]) rfl rfl (k_Mo_refused l D K mh qor qfa qmo qwt qrt qnw qsn qlt qkn qft qbf qbh qjt qot qsm qpt qpr qch qbt qpg flt np nf nc nm wr 2 (by omega)) g_Mo_96 ⟨by decide, by decide⟩ ⟨rfl, rfl⟩ rfl rfl rfl hl.1 (rest := []) (As := [.int (nI (2))]) rfl (Nat.le_of_ble_eq_true rfl) d_Mo_child_41 ⟨Nat.zero_le _, Nat.zero_le _⟩ (fun _ => rfl) (fun _ => rfl) rfl ?_
      intro r _ H locs hp13 hw
      subst hp13
      refine mg_bif_eq X 49 47 d_Mo_child_44 (by decide) rfl (fun b14 => absurd b14 (by decide)) (fun _ => ?_)
      refine mg_iconst X 48 0 d_Mo_child_47 mg_ci_0 rfl ?_
      exact mg_iret X hr hlk (rfl) (()) (rfl) hw d_Mo_child_48

set_option maxRecDepth 100000 in
set_option maxHeartbeats 4000000 in
theorem k_Mo_child (l : Launch) (D : va_G) (K : Nat → ClassId) (mh : Nat) (qor : Nat) (qfa : Nat) (qmo : Nat) (qwt : Nat) (qrt : Nat) (qnw : Nat) (qsn : Nat) (qlt : Nat) (qkn : Nat) (qft : Nat) (qbf : Nat) (qbh : Nat) (qjt : Nat) (qot : Nat) (qsm : Nat) (qpt : Nat) (qpr : Nat) (qch : Nat) (qbt : Nat) (qpg : Nat) (flt : Nat) (np : Nat) (nf : Nat) (nc : Nat) (nm : Nat) (wr : Nat) (rk : Nat → Nat) (fa : Nat → Nat) (mo : Nat → Nat) (sn : Nat → Nat) (kn : Nat → Nat) (f1 : Nat) (m1 : Nat) (hsn : ∀ k, k < 24 → sn k ≤ 33) (hnp : np = nf + nc) (hnf : nf ≤ 3) (hnc : nc ≤ 3) (hf1 : f1 < np) (hm1 : m1 < np) (hx : nc < 3) (hno : ¬ (∃ j, j < 24 ∧ 0 < sn j)) : mg_Mi l D K y_Mo_child b_Mo_child 3 (.int) ({ frames := 1, cells := 0, slots := 0, locals := 22 }) [.ref (mh), .int (nI (f1)), .int (nI (m1))] [mg_ob mh 6 [.int (nI (flt)), .int (nI (np)), .int (nI (nf)), .int (nI (nc)), .ref (qor), .ref (qfa), .ref (qmo), .int (nI (nm)), .ref (qwt), .ref (qrt), .ref (qnw), .ref (qsn), .ref (qlt), .ref (qkn), .ref (qft), .ref (qbf), .ref (qbh), .ref (qjt), .ref (qot), .ref (qsm), .ref (qpt), .ref (qpr), .ref (qch), .ref (qbt), .int (nI (wr)), .ref (qpg)], mg_ai K qor 6 rk, mg_ai K qfa 6 fa, mg_ai K qmo 6 mo, mg_ai K qsn 24 sn, mg_az K qkn 4 kn] (fun (r : Int32) (_ : Unit) => r = nI (np)) (fun (_ : Unit) => [mg_ob mh 6 [.int (nI (0)), .int (nI (np + 1)), .int (nI (nf)), .int (nI (nc + 1)), .ref (qor), .ref (qfa), .ref (qmo), .int (nI (nm)), .ref (qwt), .ref (qrt), .ref (qnw), .ref (qsn), .ref (qlt), .ref (qkn), .ref (qft), .ref (qbf), .ref (qbh), .ref (qjt), .ref (qot), .ref (qsm), .ref (qpt), .ref (qpr), .ref (qch), .ref (qbt), .int (nI (wr)), .ref (qpg)], mg_ai K qor 6 (va_up rk np nc), mg_ai K qfa 6 (va_up fa np f1), mg_ai K qmo 6 (va_up mo np m1), mg_ai K qsn 24 sn, mg_az K qkn 4 (su_pt (fun _ => 0) kn 4)]) := by
  intro sz
  refine mg_entry (Qc := fun A => va_Qi (fun (r : Int32) (_ : Unit) => r = nI (np)) (mg_B D A (fun (_ : Unit) => [mg_ob mh 6 [.int (nI (0)), .int (nI (np + 1)), .int (nI (nf)), .int (nI (nc + 1)), .ref (qor), .ref (qfa), .ref (qmo), .int (nI (nm)), .ref (qwt), .ref (qrt), .ref (qnw), .ref (qsn), .ref (qlt), .ref (qkn), .ref (qft), .ref (qbf), .ref (qbh), .ref (qjt), .ref (qot), .ref (qsm), .ref (qpt), .ref (qpr), .ref (qch), .ref (qbt), .int (nI (wr)), .ref (qpg)], mg_ai K qor 6 (va_up rk np nc), mg_ai K qfa 6 (va_up fa np f1), mg_ai K qmo 6 (va_up mo np m1), mg_ai K qsn 24 sn, mg_az K qkn 4 (su_pt (fun _ => 0) kn 4)])) A) (by decide) (Nat.le_of_ble_eq_true rfl) ?_
  intro p e s m args below meth c A ls X hr hlk hnm hA hK hw hl
  have hl : lv_has ls 3 [(0, .ref (mh)), (1, .int (nI (f1))), (2, .int (nI (m1)))] := hl
  refine mg_aload_n X 1 d_Mo_child_0 (lv_at hl 0 rfl) rfl ?_
  refine mg_aload_n X 2 d_Mo_child_1 (lv_at hl 0 rfl) rfl ?_
  refine mg_iload_n X 3 d_Mo_child_2 (lv_at hl 1 rfl) rfl ?_
  refine mg_callVi X hK hw hA 6 [0] 0 (fun _ => [mg_ob mh 6 [.int (nI (flt)), .int (nI (np)), .int (nI (nf)), .int (nI (nc)), .ref (qor), .ref (qfa), .ref (qmo), .int (nI (nm)), .ref (qwt), .ref (qrt), .ref (qnw), .ref (qsn), .ref (qlt), .ref (qkn), .ref (qft), .ref (qbf), .ref (qbh), .ref (qjt), .ref (qot), .ref (qsm), .ref (qpt), .ref (qpr), .ref (qch), .ref (qbt), .int (nI (wr)), .ref (qpg)], mg_ai K qor 6 rk, mg_ai K qfa 6 fa, mg_ai K qmo 6 mo, mg_ai K qsn 24 sn, mg_az K qkn 4 kn]) rfl rfl (k_Mo_isPerson l D K mh qor qfa qmo qwt qrt qnw qsn qlt qkn qft qbf qbh qjt qot qsm qpt qpr qch qbt qpg flt np nf nc nm wr (nI f1) (by omega)) g_Mo_103 ⟨by decide, by decide⟩ ⟨rfl, rfl⟩ rfl rfl rfl hl.1 (rest := [.ref (mh)]) (As := [.int (nI (f1))]) rfl (Nat.le_of_ble_eq_true rfl) d_Mo_child_3 ⟨Nat.zero_le _, Nat.zero_le _⟩ (fun _ => rfl) (fun _ => rfl) rfl ?_
  intro r _ H locs hp2 hw
  subst hp2
  refine mg_bif_eq X 17 9 d_Mo_child_6 (by decide) rfl (fun b3 => absurd (mg_lt_in hf1) b3) (fun _ => ?_)
  refine mg_aload_n X 10 d_Mo_child_9 (lv_at hl 0 rfl) rfl ?_
  refine mg_iload_n X 11 d_Mo_child_10 (lv_at hl 2 rfl) rfl ?_
  refine mg_callVi X hK hw hA 14 [0] 0 (fun _ => [mg_ob mh 6 [.int (nI (flt)), .int (nI (np)), .int (nI (nf)), .int (nI (nc)), .ref (qor), .ref (qfa), .ref (qmo), .int (nI (nm)), .ref (qwt), .ref (qrt), .ref (qnw), .ref (qsn), .ref (qlt), .ref (qkn), .ref (qft), .ref (qbf), .ref (qbh), .ref (qjt), .ref (qot), .ref (qsm), .ref (qpt), .ref (qpr), .ref (qch), .ref (qbt), .int (nI (wr)), .ref (qpg)], mg_ai K qor 6 rk, mg_ai K qfa 6 fa, mg_ai K qmo 6 mo, mg_ai K qsn 24 sn, mg_az K qkn 4 kn]) rfl rfl (k_Mo_isPerson l D K mh qor qfa qmo qwt qrt qnw qsn qlt qkn qft qbf qbh qjt qot qsm qpt qpr qch qbt qpg flt np nf nc nm wr (nI m1) (by omega)) g_Mo_103 ⟨by decide, by decide⟩ ⟨rfl, rfl⟩ rfl rfl rfl hl.1 (rest := [.ref (mh)]) (As := [.int (nI (m1))]) rfl (Nat.le_of_ble_eq_true rfl) d_Mo_child_11 ⟨Nat.zero_le _, Nat.zero_le _⟩ (fun _ => rfl) (fun _ => rfl) rfl ?_
  intro r _ H locs hp5 hw
  subst hp5
  refine mg_bif_ne X 21 17 d_Mo_child_14 (by decide) rfl (fun _ => ?_) (fun b6 => absurd (mg_lt_in hm1) b6)
  refine mg_aload_n X 22 d_Mo_child_21 (lv_at hl 0 rfl) rfl ?_
  refine mg_get X hK hw 25 0 3 f_Mo_86 rfl rfl d_Mo_child_22 rfl ?_
  refine mg_iconst X 26 3 d_Mo_child_25 mg_ci_3 rfl ?_
  refine mg_icmp_eq X 36 29 (by omega) (by omega) d_Mo_child_26 (by decide) rfl (fun b7 => absurd b7 (by omega)) (fun b7 => ?_)
  refine mg_aload_n X 30 d_Mo_child_29 (lv_at hl 0 rfl) rfl ?_
  refine mg_callVi X hK hw hA 33 [0, 4] 0 (fun _ => [mg_ob mh 6 [.int (nI (flt)), .int (nI (np)), .int (nI (nf)), .int (nI (nc)), .ref (qor), .ref (qfa), .ref (qmo), .int (nI (nm)), .ref (qwt), .ref (qrt), .ref (qnw), .ref (qsn), .ref (qlt), .ref (qkn), .ref (qft), .ref (qbf), .ref (qbh), .ref (qjt), .ref (qot), .ref (qsm), .ref (qpt), .ref (qpr), .ref (qch), .ref (qbt), .int (nI (wr)), .ref (qpg)], mg_ai K qor 6 rk, mg_ai K qfa 6 fa, mg_ai K qmo 6 mo, mg_ai K qsn 24 sn, mg_az K qkn 4 kn]) rfl rfl (k_Mo_isAnySeen l D K mh qor qfa qmo qwt qrt qnw qsn qlt qkn qft qbf qbh qjt qot qsm qpt qpr qch qbt qpg flt np nf nc nm wr sn (by omega)) g_Mo_92 ⟨by decide, by decide⟩ ⟨rfl, rfl⟩ rfl rfl rfl hl.1 (rest := [.ref (mh)]) (As := []) rfl (Nat.le_of_ble_eq_true rfl) d_Mo_child_30 ⟨Nat.zero_le _, Nat.zero_le _⟩ (fun _ => rfl) (fun _ => rfl) rfl ?_
  intro r _ H locs hp9 hw
  subst hp9
  refine mg_bif_eq X 40 36 d_Mo_child_33 (by decide) rfl (fun _ => ?_) (fun b10 => absurd b10 (hno))
  refine mg_iconst X 41 0 d_Mo_child_40 mg_ci_0 rfl ?_
  refine mg_callVi X hK hw hA 44 [0] 0 (fun _ => [mg_ob mh 6 [.int (nI (0)), .int (nI (np)), .int (nI (nf)), .int (nI (nc)), .ref (qor), .ref (qfa), .ref (qmo), .int (nI (nm)), .ref (qwt), .ref (qrt), .ref (qnw), .ref (qsn), .ref (qlt), .ref (qkn), .ref (qft), .ref (qbf), .ref (qbh), .ref (qjt), .ref (qot), .ref (qsm), .ref (qpt), .ref (qpr), .ref (qch), .ref (qbt), .int (nI (wr)), .ref (qpg)], mg_ai K qor 6 rk, mg_ai K qfa 6 fa, mg_ai K qmo 6 mo, mg_ai K qsn 24 sn, mg_az K qkn 4 kn]) rfl rfl (k_Mo_refused l D K mh qor qfa qmo qwt qrt qnw qsn qlt qkn qft qbf qbh qjt qot qsm qpt qpr qch qbt qpg flt np nf nc nm wr 0 (by omega)) g_Mo_96 ⟨by decide, by decide⟩ ⟨rfl, rfl⟩ rfl rfl rfl hl.1 (rest := []) (As := [.int (nI (0))]) rfl (Nat.le_of_ble_eq_true rfl) d_Mo_child_41 ⟨Nat.zero_le _, Nat.zero_le _⟩ (fun _ => rfl) (fun _ => rfl) rfl ?_
  intro r _ H locs hp12 hw
  subst hp12
  refine mg_bif_eq X 49 47 d_Mo_child_44 (by decide) rfl (fun _ => ?_) (fun b13 => absurd b13 (by decide))
  refine mg_aload_n X 50 d_Mo_child_49 (lv_at hl 0 rfl) rfl ?_
  refine mg_get X hK hw 53 0 4 f_Mo_7 rfl rfl d_Mo_child_50 rfl ?_
  refine mg_aload_n X 54 d_Mo_child_53 (lv_at hl 0 rfl) rfl ?_
  refine mg_get X hK hw 57 0 1 f_Mo_80 rfl rfl d_Mo_child_54 rfl ?_
  refine mg_aload_n X 58 d_Mo_child_57 (lv_at hl 0 rfl) rfl ?_
  refine mg_get X hK hw 61 0 3 f_Mo_86 rfl rfl d_Mo_child_58 rfl ?_
  refine mg_iast X hK hw 62 1 [mg_ob mh 6 [.int (nI (0)), .int (nI (np)), .int (nI (nf)), .int (nI (nc)), .ref (qor), .ref (qfa), .ref (qmo), .int (nI (nm)), .ref (qwt), .ref (qrt), .ref (qnw), .ref (qsn), .ref (qlt), .ref (qkn), .ref (qft), .ref (qbf), .ref (qbh), .ref (qjt), .ref (qot), .ref (qsm), .ref (qpt), .ref (qpr), .ref (qch), .ref (qbt), .int (nI (wr)), .ref (qpg)], mg_ai K qor 6 (va_up rk np nc), mg_ai K qfa 6 fa, mg_ai K qmo 6 mo, mg_ai K qsn 24 sn, mg_az K qkn 4 kn] rfl (by omega) (by omega) d_Mo_child_61 rfl rfl (fun H locs hw => ?_)
  refine mg_aload_n X 63 d_Mo_child_62 (lv_at hl 0 rfl) rfl ?_
  refine mg_get X hK hw 66 0 5 f_Mo_13 rfl rfl d_Mo_child_63 rfl ?_
  refine mg_aload_n X 67 d_Mo_child_66 (lv_at hl 0 rfl) rfl ?_
  refine mg_get X hK hw 70 0 1 f_Mo_80 rfl rfl d_Mo_child_67 rfl ?_
  refine mg_iload_n X 71 d_Mo_child_70 (lv_at hl 1 rfl) rfl ?_
  refine mg_iast X hK hw 72 2 [mg_ob mh 6 [.int (nI (0)), .int (nI (np)), .int (nI (nf)), .int (nI (nc)), .ref (qor), .ref (qfa), .ref (qmo), .int (nI (nm)), .ref (qwt), .ref (qrt), .ref (qnw), .ref (qsn), .ref (qlt), .ref (qkn), .ref (qft), .ref (qbf), .ref (qbh), .ref (qjt), .ref (qot), .ref (qsm), .ref (qpt), .ref (qpr), .ref (qch), .ref (qbt), .int (nI (wr)), .ref (qpg)], mg_ai K qor 6 (va_up rk np nc), mg_ai K qfa 6 (va_up fa np f1), mg_ai K qmo 6 mo, mg_ai K qsn 24 sn, mg_az K qkn 4 kn] rfl (by omega) (by omega) d_Mo_child_71 rfl rfl (fun H locs hw => ?_)
  refine mg_aload_n X 73 d_Mo_child_72 (lv_at hl 0 rfl) rfl ?_
  refine mg_get X hK hw 76 0 6 f_Mo_16 rfl rfl d_Mo_child_73 rfl ?_
  refine mg_aload_n X 77 d_Mo_child_76 (lv_at hl 0 rfl) rfl ?_
  refine mg_get X hK hw 80 0 1 f_Mo_80 rfl rfl d_Mo_child_77 rfl ?_
  refine mg_iload_n X 81 d_Mo_child_80 (lv_at hl 2 rfl) rfl ?_
  refine mg_iast X hK hw 82 3 [mg_ob mh 6 [.int (nI (0)), .int (nI (np)), .int (nI (nf)), .int (nI (nc)), .ref (qor), .ref (qfa), .ref (qmo), .int (nI (nm)), .ref (qwt), .ref (qrt), .ref (qnw), .ref (qsn), .ref (qlt), .ref (qkn), .ref (qft), .ref (qbf), .ref (qbh), .ref (qjt), .ref (qot), .ref (qsm), .ref (qpt), .ref (qpr), .ref (qch), .ref (qbt), .int (nI (wr)), .ref (qpg)], mg_ai K qor 6 (va_up rk np nc), mg_ai K qfa 6 (va_up fa np f1), mg_ai K qmo 6 (va_up mo np m1), mg_ai K qsn 24 sn, mg_az K qkn 4 kn] rfl (by omega) (by omega) d_Mo_child_81 rfl rfl (fun H locs hw => ?_)
  refine mg_aload_n X 83 d_Mo_child_82 (lv_at hl 0 rfl) rfl ?_
  refine mg_dup X 84 d_Mo_child_83 rfl rfl ?_
  refine mg_get X hK hw 87 0 3 f_Mo_86 rfl rfl d_Mo_child_84 rfl ?_
  refine mg_iconst X 88 1 d_Mo_child_87 mg_ci_1 rfl ?_
  refine mg_iadd X 89 (nI (nc + 1)) d_Mo_child_88 (nI_add _ _) rfl ?_
  refine mg_put X hK hw 92 0 3 [mg_ob mh 6 [.int (nI (0)), .int (nI (np)), .int (nI (nf)), .int (nI (nc + 1)), .ref (qor), .ref (qfa), .ref (qmo), .int (nI (nm)), .ref (qwt), .ref (qrt), .ref (qnw), .ref (qsn), .ref (qlt), .ref (qkn), .ref (qft), .ref (qbf), .ref (qbh), .ref (qjt), .ref (qot), .ref (qsm), .ref (qpt), .ref (qpr), .ref (qch), .ref (qbt), .int (nI (wr)), .ref (qpg)], mg_ai K qor 6 (va_up rk np nc), mg_ai K qfa 6 (va_up fa np f1), mg_ai K qmo 6 (va_up mo np m1), mg_ai K qsn 24 sn, mg_az K qkn 4 kn] fp_Mo_86 rfl (Nat.le_of_ble_eq_true rfl) rfl rfl d_Mo_child_89 rfl rfl (fun H locs hw => ?_)
  refine mg_aload_n X 93 d_Mo_child_92 (lv_at hl 0 rfl) rfl ?_
  refine mg_dup X 94 d_Mo_child_93 rfl rfl ?_
  refine mg_get X hK hw 97 0 1 f_Mo_80 rfl rfl d_Mo_child_94 rfl ?_
  refine mg_iconst X 98 1 d_Mo_child_97 mg_ci_1 rfl ?_
  refine mg_iadd X 99 (nI (np + 1)) d_Mo_child_98 (nI_add _ _) rfl ?_
  refine mg_put X hK hw 102 0 1 [mg_ob mh 6 [.int (nI (0)), .int (nI (np + 1)), .int (nI (nf)), .int (nI (nc + 1)), .ref (qor), .ref (qfa), .ref (qmo), .int (nI (nm)), .ref (qwt), .ref (qrt), .ref (qnw), .ref (qsn), .ref (qlt), .ref (qkn), .ref (qft), .ref (qbf), .ref (qbh), .ref (qjt), .ref (qot), .ref (qsm), .ref (qpt), .ref (qpr), .ref (qch), .ref (qbt), .int (nI (wr)), .ref (qpg)], mg_ai K qor 6 (va_up rk np nc), mg_ai K qfa 6 (va_up fa np f1), mg_ai K qmo 6 (va_up mo np m1), mg_ai K qsn 24 sn, mg_az K qkn 4 kn] fp_Mo_80 rfl (Nat.le_of_ble_eq_true rfl) rfl rfl d_Mo_child_99 rfl rfl (fun H locs hw => ?_)
  refine mg_aload_n X 103 d_Mo_child_102 (lv_at hl 0 rfl) rfl ?_
  refine mg_callVv X hK hw hA 106 [0, 5] 0 (fun _ => [mg_ob mh 6 [.int (nI (0)), .int (nI (np + 1)), .int (nI (nf)), .int (nI (nc + 1)), .ref (qor), .ref (qfa), .ref (qmo), .int (nI (nm)), .ref (qwt), .ref (qrt), .ref (qnw), .ref (qsn), .ref (qlt), .ref (qkn), .ref (qft), .ref (qbf), .ref (qbh), .ref (qjt), .ref (qot), .ref (qsm), .ref (qpt), .ref (qpr), .ref (qch), .ref (qbt), .int (nI (wr)), .ref (qpg)], mg_ai K qor 6 (va_up rk np nc), mg_ai K qfa 6 (va_up fa np f1), mg_ai K qmo 6 (va_up mo np m1), mg_ai K qsn 24 sn, mg_az K qkn 4 (su_pt (fun _ => 0) kn 4)]) rfl rfl (k_Mo_forget l D K mh qor qfa qmo qwt qrt qnw qsn qlt qkn qft qbf qbh qjt qot qsm qpt qpr qch qbt qpg 0 (np + 1) nf (nc + 1) nm wr kn ) g_Mo_100 ⟨by decide, by decide⟩ ⟨rfl, rfl⟩ rfl rfl rfl hl.1 (rest := []) (As := []) rfl (Nat.le_of_ble_eq_true rfl) d_Mo_child_103 ⟨Nat.zero_le _, Nat.zero_le _⟩ (fun _ => rfl) (fun _ => rfl) rfl ?_
  intro _ H locs hp15 hw
  refine mg_aload_n X 107 d_Mo_child_106 (lv_at hl 0 rfl) rfl ?_
  refine mg_get X hK hw 110 0 1 f_Mo_80 rfl rfl d_Mo_child_107 rfl ?_
  refine mg_iconst X 111 1 d_Mo_child_110 mg_ci_1 rfl ?_
  refine mg_isub X 112 (nI ((np + 1) - 1)) d_Mo_child_111 (pk_sub (by omega)) rfl ?_
  exact mg_iret X hr hlk (rfl) (()) (rfl) hw d_Mo_child_112

set_option maxRecDepth 100000 in
set_option maxHeartbeats 4000000 in
theorem k_Mo_markerN1 (l : Launch) (D : va_G) (K : Nat → ClassId) (mh : Nat) (qor : Nat) (qfa : Nat) (qmo : Nat) (qwt : Nat) (qrt : Nat) (qnw : Nat) (qsn : Nat) (qlt : Nat) (qkn : Nat) (qft : Nat) (qbf : Nat) (qbh : Nat) (qjt : Nat) (qot : Nat) (qsm : Nat) (qpt : Nat) (qpr : Nat) (qch : Nat) (qbt : Nat) (qpg : Nat) (flt : Nat) (np : Nat) (nf : Nat) (nc : Nat) (nm : Nat) (wr : Nat) (a1 : Int32) (a2 : Int32) (a3 : Int32) (hnm4 : nm ≤ 4) (hx : ¬ mg_w3 a1 a2 a3) : mg_Mi l D K y_Mo_marker b_Mo_marker 5 (.int) ({ frames := 1, cells := 0, slots := 0, locals := 21 }) [.ref (mh), .int (a1), .int (a2), .int (a3)] [mg_ob mh 6 [.int (nI (flt)), .int (nI (np)), .int (nI (nf)), .int (nI (nc)), .ref (qor), .ref (qfa), .ref (qmo), .int (nI (nm)), .ref (qwt), .ref (qrt), .ref (qnw), .ref (qsn), .ref (qlt), .ref (qkn), .ref (qft), .ref (qbf), .ref (qbh), .ref (qjt), .ref (qot), .ref (qsm), .ref (qpt), .ref (qpr), .ref (qch), .ref (qbt), .int (nI (wr)), .ref (qpg)]] (fun (r : Int32) (_ : Unit) => r = nI (0)) (fun (_ : Unit) => [mg_ob mh 6 [.int (nI (1)), .int (nI (np)), .int (nI (nf)), .int (nI (nc)), .ref (qor), .ref (qfa), .ref (qmo), .int (nI (nm)), .ref (qwt), .ref (qrt), .ref (qnw), .ref (qsn), .ref (qlt), .ref (qkn), .ref (qft), .ref (qbf), .ref (qbh), .ref (qjt), .ref (qot), .ref (qsm), .ref (qpt), .ref (qpr), .ref (qch), .ref (qbt), .int (nI (wr)), .ref (qpg)]]) := by
  intro sz
  refine mg_entry (Qc := fun A => va_Qi (fun (r : Int32) (_ : Unit) => r = nI (0)) (mg_B D A (fun (_ : Unit) => [mg_ob mh 6 [.int (nI (1)), .int (nI (np)), .int (nI (nf)), .int (nI (nc)), .ref (qor), .ref (qfa), .ref (qmo), .int (nI (nm)), .ref (qwt), .ref (qrt), .ref (qnw), .ref (qsn), .ref (qlt), .ref (qkn), .ref (qft), .ref (qbf), .ref (qbh), .ref (qjt), .ref (qot), .ref (qsm), .ref (qpt), .ref (qpr), .ref (qch), .ref (qbt), .int (nI (wr)), .ref (qpg)]])) A) (by decide) (Nat.le_of_ble_eq_true rfl) ?_
  intro p e s m args below meth c A ls X hr hlk hnm hA hK hw hl
  have hl : lv_has ls 5 [(0, .ref (mh)), (1, .int (a1)), (2, .int (a2)), (3, .int (a3))] := hl
  refine mg_iload_n X 1 d_Mo_marker_0 (lv_at hl 1 rfl) rfl ?_
  refine mg_iflt_r X 44 4 d_Mo_marker_1 (by decide) rfl (fun b1 => ?_) (fun ja hja eja => ?_)
  · -- pc 1 t
    refine mg_iconst X 45 0 d_Mo_marker_44 mg_ci_0 rfl ?_
    refine mg_istore X 47 [(4, .int (nI (0))), (0, .ref (mh)), (1, .int (a1)), (2, .int (a2)), (3, .int (a3))] d_Mo_marker_45 hl (by decide) rfl rfl (fun ls hl => ?_)
    refine mg_aload_n X 48 d_Mo_marker_47 (lv_at hl 1 rfl) rfl ?_
    refine mg_iload X 50 d_Mo_marker_48 (lv_at hl 0 rfl) rfl ?_
    refine mg_if_ne X 57 53 (by decide) d_Mo_marker_50 (by decide) rfl (fun b2 => absurd b2 (by decide)) (fun _ => ?_)
    refine mg_iconst X 54 1 d_Mo_marker_53 mg_ci_1 rfl ?_
    refine mg_goto X 70 d_Mo_marker_54 (by decide) ?_
    refine mg_callVi X hK hw hA 73 [0] 0 (fun _ => [mg_ob mh 6 [.int (nI (1)), .int (nI (np)), .int (nI (nf)), .int (nI (nc)), .ref (qor), .ref (qfa), .ref (qmo), .int (nI (nm)), .ref (qwt), .ref (qrt), .ref (qnw), .ref (qsn), .ref (qlt), .ref (qkn), .ref (qft), .ref (qbf), .ref (qbh), .ref (qjt), .ref (qot), .ref (qsm), .ref (qpt), .ref (qpr), .ref (qch), .ref (qbt), .int (nI (wr)), .ref (qpg)]]) rfl rfl (k_Mo_refused l D K mh qor qfa qmo qwt qrt qnw qsn qlt qkn qft qbf qbh qjt qot qsm qpt qpr qch qbt qpg flt np nf nc nm wr 1 (by omega)) g_Mo_96 ⟨by decide, by decide⟩ ⟨rfl, rfl⟩ rfl rfl rfl hl.1 (rest := []) (As := [.int (nI (1))]) rfl (Nat.le_of_ble_eq_true rfl) d_Mo_marker_70 ⟨Nat.zero_le _, Nat.zero_le _⟩ (fun _ => rfl) (fun _ => rfl) rfl ?_
    intro r _ H locs hp4 hw
    subst hp4
    refine mg_bif_eq X 78 76 d_Mo_marker_73 (by decide) rfl (fun b5 => absurd b5 (by decide)) (fun _ => ?_)
    refine mg_iconst X 77 0 d_Mo_marker_76 mg_ci_0 rfl ?_
    exact mg_iret X hr hlk (rfl) (()) (rfl) hw d_Mo_marker_77
  · -- pc 1 f
    subst eja
    refine mg_iload_n X 5 d_Mo_marker_4 (lv_at hl 2 rfl) rfl ?_
    refine mg_iflt_r X 44 8 d_Mo_marker_5 (by decide) rfl (fun b6 => ?_) (fun jb hjb ejb => ?_)
    · -- pc 5 t
      refine mg_iconst X 45 0 d_Mo_marker_44 mg_ci_0 rfl ?_
      refine mg_istore X 47 [(4, .int (nI (0))), (0, .ref (mh)), (1, .int (nI (ja))), (2, .int (a2)), (3, .int (a3))] d_Mo_marker_45 hl (by decide) rfl rfl (fun ls hl => ?_)
      refine mg_aload_n X 48 d_Mo_marker_47 (lv_at hl 1 rfl) rfl ?_
      refine mg_iload X 50 d_Mo_marker_48 (lv_at hl 0 rfl) rfl ?_
      refine mg_if_ne X 57 53 (by decide) d_Mo_marker_50 (by decide) rfl (fun b7 => absurd b7 (by decide)) (fun _ => ?_)
      refine mg_iconst X 54 1 d_Mo_marker_53 mg_ci_1 rfl ?_
      refine mg_goto X 70 d_Mo_marker_54 (by decide) ?_
      refine mg_callVi X hK hw hA 73 [0] 0 (fun _ => [mg_ob mh 6 [.int (nI (1)), .int (nI (np)), .int (nI (nf)), .int (nI (nc)), .ref (qor), .ref (qfa), .ref (qmo), .int (nI (nm)), .ref (qwt), .ref (qrt), .ref (qnw), .ref (qsn), .ref (qlt), .ref (qkn), .ref (qft), .ref (qbf), .ref (qbh), .ref (qjt), .ref (qot), .ref (qsm), .ref (qpt), .ref (qpr), .ref (qch), .ref (qbt), .int (nI (wr)), .ref (qpg)]]) rfl rfl (k_Mo_refused l D K mh qor qfa qmo qwt qrt qnw qsn qlt qkn qft qbf qbh qjt qot qsm qpt qpr qch qbt qpg flt np nf nc nm wr 1 (by omega)) g_Mo_96 ⟨by decide, by decide⟩ ⟨rfl, rfl⟩ rfl rfl rfl hl.1 (rest := []) (As := [.int (nI (1))]) rfl (Nat.le_of_ble_eq_true rfl) d_Mo_marker_70 ⟨Nat.zero_le _, Nat.zero_le _⟩ (fun _ => rfl) (fun _ => rfl) rfl ?_
      intro r _ H locs hp9 hw
      subst hp9
      refine mg_bif_eq X 78 76 d_Mo_marker_73 (by decide) rfl (fun b10 => absurd b10 (by decide)) (fun _ => ?_)
      refine mg_iconst X 77 0 d_Mo_marker_76 mg_ci_0 rfl ?_
      exact mg_iret X hr hlk (rfl) (()) (rfl) hw d_Mo_marker_77
    · -- pc 5 f
      subst ejb
      refine mg_iload_n X 9 d_Mo_marker_8 (lv_at hl 3 rfl) rfl ?_
      refine mg_iflt_r X 44 12 d_Mo_marker_9 (by decide) rfl (fun b11 => ?_) (fun jc hjc ejc => ?_)
      · -- pc 9 t
        refine mg_iconst X 45 0 d_Mo_marker_44 mg_ci_0 rfl ?_
        refine mg_istore X 47 [(4, .int (nI (0))), (0, .ref (mh)), (1, .int (nI (ja))), (2, .int (nI (jb))), (3, .int (a3))] d_Mo_marker_45 hl (by decide) rfl rfl (fun ls hl => ?_)
        refine mg_aload_n X 48 d_Mo_marker_47 (lv_at hl 1 rfl) rfl ?_
        refine mg_iload X 50 d_Mo_marker_48 (lv_at hl 0 rfl) rfl ?_
        refine mg_if_ne X 57 53 (by decide) d_Mo_marker_50 (by decide) rfl (fun b12 => absurd b12 (by decide)) (fun _ => ?_)
        refine mg_iconst X 54 1 d_Mo_marker_53 mg_ci_1 rfl ?_
        refine mg_goto X 70 d_Mo_marker_54 (by decide) ?_
        refine mg_callVi X hK hw hA 73 [0] 0 (fun _ => [mg_ob mh 6 [.int (nI (1)), .int (nI (np)), .int (nI (nf)), .int (nI (nc)), .ref (qor), .ref (qfa), .ref (qmo), .int (nI (nm)), .ref (qwt), .ref (qrt), .ref (qnw), .ref (qsn), .ref (qlt), .ref (qkn), .ref (qft), .ref (qbf), .ref (qbh), .ref (qjt), .ref (qot), .ref (qsm), .ref (qpt), .ref (qpr), .ref (qch), .ref (qbt), .int (nI (wr)), .ref (qpg)]]) rfl rfl (k_Mo_refused l D K mh qor qfa qmo qwt qrt qnw qsn qlt qkn qft qbf qbh qjt qot qsm qpt qpr qch qbt qpg flt np nf nc nm wr 1 (by omega)) g_Mo_96 ⟨by decide, by decide⟩ ⟨rfl, rfl⟩ rfl rfl rfl hl.1 (rest := []) (As := [.int (nI (1))]) rfl (Nat.le_of_ble_eq_true rfl) d_Mo_marker_70 ⟨Nat.zero_le _, Nat.zero_le _⟩ (fun _ => rfl) (fun _ => rfl) rfl ?_
        intro r _ H locs hp14 hw
        subst hp14
        refine mg_bif_eq X 78 76 d_Mo_marker_73 (by decide) rfl (fun b15 => absurd b15 (by decide)) (fun _ => ?_)
        refine mg_iconst X 77 0 d_Mo_marker_76 mg_ci_0 rfl ?_
        exact mg_iret X hr hlk (rfl) (()) (rfl) hw d_Mo_marker_77
      · -- pc 9 f
        subst ejc
        refine mg_iload_n X 13 d_Mo_marker_12 (lv_at hl 1 rfl) rfl ?_
        refine mg_bipush X 15 8 d_Mo_marker_13 mg_cb_8 rfl ?_
        refine mg_icmp_gt X 44 18 (by omega) (by omega) d_Mo_marker_15 (by decide) rfl (fun b16 => ?_) (fun b16 => ?_)
        · -- pc 15 t
          refine mg_iconst X 45 0 d_Mo_marker_44 mg_ci_0 rfl ?_
          refine mg_istore X 47 [(4, .int (nI (0))), (0, .ref (mh)), (1, .int (nI (ja))), (2, .int (nI (jb))), (3, .int (nI (jc)))] d_Mo_marker_45 hl (by decide) rfl rfl (fun ls hl => ?_)
          refine mg_aload_n X 48 d_Mo_marker_47 (lv_at hl 1 rfl) rfl ?_
          refine mg_iload X 50 d_Mo_marker_48 (lv_at hl 0 rfl) rfl ?_
          refine mg_if_ne X 57 53 (by decide) d_Mo_marker_50 (by decide) rfl (fun b17 => absurd b17 (by decide)) (fun _ => ?_)
          refine mg_iconst X 54 1 d_Mo_marker_53 mg_ci_1 rfl ?_
          refine mg_goto X 70 d_Mo_marker_54 (by decide) ?_
          refine mg_callVi X hK hw hA 73 [0] 0 (fun _ => [mg_ob mh 6 [.int (nI (1)), .int (nI (np)), .int (nI (nf)), .int (nI (nc)), .ref (qor), .ref (qfa), .ref (qmo), .int (nI (nm)), .ref (qwt), .ref (qrt), .ref (qnw), .ref (qsn), .ref (qlt), .ref (qkn), .ref (qft), .ref (qbf), .ref (qbh), .ref (qjt), .ref (qot), .ref (qsm), .ref (qpt), .ref (qpr), .ref (qch), .ref (qbt), .int (nI (wr)), .ref (qpg)]]) rfl rfl (k_Mo_refused l D K mh qor qfa qmo qwt qrt qnw qsn qlt qkn qft qbf qbh qjt qot qsm qpt qpr qch qbt qpg flt np nf nc nm wr 1 (by omega)) g_Mo_96 ⟨by decide, by decide⟩ ⟨rfl, rfl⟩ rfl rfl rfl hl.1 (rest := []) (As := [.int (nI (1))]) rfl (Nat.le_of_ble_eq_true rfl) d_Mo_marker_70 ⟨Nat.zero_le _, Nat.zero_le _⟩ (fun _ => rfl) (fun _ => rfl) rfl ?_
          intro r _ H locs hp19 hw
          subst hp19
          refine mg_bif_eq X 78 76 d_Mo_marker_73 (by decide) rfl (fun b20 => absurd b20 (by decide)) (fun _ => ?_)
          refine mg_iconst X 77 0 d_Mo_marker_76 mg_ci_0 rfl ?_
          exact mg_iret X hr hlk (rfl) (()) (rfl) hw d_Mo_marker_77
        · -- pc 15 f
          refine mg_iload_n X 19 d_Mo_marker_18 (lv_at hl 2 rfl) rfl ?_
          refine mg_bipush X 21 8 d_Mo_marker_19 mg_cb_8 rfl ?_
          refine mg_icmp_gt X 44 24 (by omega) (by omega) d_Mo_marker_21 (by decide) rfl (fun b21 => ?_) (fun b21 => ?_)
          · -- pc 21 t
            refine mg_iconst X 45 0 d_Mo_marker_44 mg_ci_0 rfl ?_
            refine mg_istore X 47 [(4, .int (nI (0))), (0, .ref (mh)), (1, .int (nI (ja))), (2, .int (nI (jb))), (3, .int (nI (jc)))] d_Mo_marker_45 hl (by decide) rfl rfl (fun ls hl => ?_)
            refine mg_aload_n X 48 d_Mo_marker_47 (lv_at hl 1 rfl) rfl ?_
            refine mg_iload X 50 d_Mo_marker_48 (lv_at hl 0 rfl) rfl ?_
            refine mg_if_ne X 57 53 (by decide) d_Mo_marker_50 (by decide) rfl (fun b22 => absurd b22 (by decide)) (fun _ => ?_)
            refine mg_iconst X 54 1 d_Mo_marker_53 mg_ci_1 rfl ?_
            refine mg_goto X 70 d_Mo_marker_54 (by decide) ?_
            refine mg_callVi X hK hw hA 73 [0] 0 (fun _ => [mg_ob mh 6 [.int (nI (1)), .int (nI (np)), .int (nI (nf)), .int (nI (nc)), .ref (qor), .ref (qfa), .ref (qmo), .int (nI (nm)), .ref (qwt), .ref (qrt), .ref (qnw), .ref (qsn), .ref (qlt), .ref (qkn), .ref (qft), .ref (qbf), .ref (qbh), .ref (qjt), .ref (qot), .ref (qsm), .ref (qpt), .ref (qpr), .ref (qch), .ref (qbt), .int (nI (wr)), .ref (qpg)]]) rfl rfl (k_Mo_refused l D K mh qor qfa qmo qwt qrt qnw qsn qlt qkn qft qbf qbh qjt qot qsm qpt qpr qch qbt qpg flt np nf nc nm wr 1 (by omega)) g_Mo_96 ⟨by decide, by decide⟩ ⟨rfl, rfl⟩ rfl rfl rfl hl.1 (rest := []) (As := [.int (nI (1))]) rfl (Nat.le_of_ble_eq_true rfl) d_Mo_marker_70 ⟨Nat.zero_le _, Nat.zero_le _⟩ (fun _ => rfl) (fun _ => rfl) rfl ?_
            intro r _ H locs hp24 hw
            subst hp24
            refine mg_bif_eq X 78 76 d_Mo_marker_73 (by decide) rfl (fun b25 => absurd b25 (by decide)) (fun _ => ?_)
            refine mg_iconst X 77 0 d_Mo_marker_76 mg_ci_0 rfl ?_
            exact mg_iret X hr hlk (rfl) (()) (rfl) hw d_Mo_marker_77
          · -- pc 21 f
            refine mg_iload_n X 25 d_Mo_marker_24 (lv_at hl 3 rfl) rfl ?_
            refine mg_bipush X 27 8 d_Mo_marker_25 mg_cb_8 rfl ?_
            refine mg_icmp_gt X 44 30 (by omega) (by omega) d_Mo_marker_27 (by decide) rfl (fun b26 => ?_) (fun b26 => ?_)
            · -- pc 27 t
              refine mg_iconst X 45 0 d_Mo_marker_44 mg_ci_0 rfl ?_
              refine mg_istore X 47 [(4, .int (nI (0))), (0, .ref (mh)), (1, .int (nI (ja))), (2, .int (nI (jb))), (3, .int (nI (jc)))] d_Mo_marker_45 hl (by decide) rfl rfl (fun ls hl => ?_)
              refine mg_aload_n X 48 d_Mo_marker_47 (lv_at hl 1 rfl) rfl ?_
              refine mg_iload X 50 d_Mo_marker_48 (lv_at hl 0 rfl) rfl ?_
              refine mg_if_ne X 57 53 (by decide) d_Mo_marker_50 (by decide) rfl (fun b27 => absurd b27 (by decide)) (fun _ => ?_)
              refine mg_iconst X 54 1 d_Mo_marker_53 mg_ci_1 rfl ?_
              refine mg_goto X 70 d_Mo_marker_54 (by decide) ?_
              refine mg_callVi X hK hw hA 73 [0] 0 (fun _ => [mg_ob mh 6 [.int (nI (1)), .int (nI (np)), .int (nI (nf)), .int (nI (nc)), .ref (qor), .ref (qfa), .ref (qmo), .int (nI (nm)), .ref (qwt), .ref (qrt), .ref (qnw), .ref (qsn), .ref (qlt), .ref (qkn), .ref (qft), .ref (qbf), .ref (qbh), .ref (qjt), .ref (qot), .ref (qsm), .ref (qpt), .ref (qpr), .ref (qch), .ref (qbt), .int (nI (wr)), .ref (qpg)]]) rfl rfl (k_Mo_refused l D K mh qor qfa qmo qwt qrt qnw qsn qlt qkn qft qbf qbh qjt qot qsm qpt qpr qch qbt qpg flt np nf nc nm wr 1 (by omega)) g_Mo_96 ⟨by decide, by decide⟩ ⟨rfl, rfl⟩ rfl rfl rfl hl.1 (rest := []) (As := [.int (nI (1))]) rfl (Nat.le_of_ble_eq_true rfl) d_Mo_marker_70 ⟨Nat.zero_le _, Nat.zero_le _⟩ (fun _ => rfl) (fun _ => rfl) rfl ?_
              intro r _ H locs hp29 hw
              subst hp29
              refine mg_bif_eq X 78 76 d_Mo_marker_73 (by decide) rfl (fun b30 => absurd b30 (by decide)) (fun _ => ?_)
              refine mg_iconst X 77 0 d_Mo_marker_76 mg_ci_0 rfl ?_
              exact mg_iret X hr hlk (rfl) (()) (rfl) hw d_Mo_marker_77
            · -- pc 27 f
              refine mg_iload_n X 31 d_Mo_marker_30 (lv_at hl 1 rfl) rfl ?_
              refine mg_iload_n X 32 d_Mo_marker_31 (lv_at hl 2 rfl) rfl ?_
              refine mg_iadd X 33 (nI (ja + jb)) d_Mo_marker_32 (nI_add _ _) rfl ?_
              refine mg_iload_n X 34 d_Mo_marker_33 (lv_at hl 3 rfl) rfl ?_
              refine mg_iadd X 35 (nI ((ja + jb) + jc)) d_Mo_marker_34 (nI_add _ _) rfl ?_
              refine mg_bipush X 37 8 d_Mo_marker_35 mg_cb_8 rfl ?_
              refine mg_icmp_ne X 44 40 (by omega) (by omega) d_Mo_marker_37 (by decide) rfl (fun b31 => ?_) (fun b31 => ?_)
              · -- pc 37 t
                refine mg_iconst X 45 0 d_Mo_marker_44 mg_ci_0 rfl ?_
                refine mg_istore X 47 [(4, .int (nI (0))), (0, .ref (mh)), (1, .int (nI (ja))), (2, .int (nI (jb))), (3, .int (nI (jc)))] d_Mo_marker_45 hl (by decide) rfl rfl (fun ls hl => ?_)
                refine mg_aload_n X 48 d_Mo_marker_47 (lv_at hl 1 rfl) rfl ?_
                refine mg_iload X 50 d_Mo_marker_48 (lv_at hl 0 rfl) rfl ?_
                refine mg_if_ne X 57 53 (by decide) d_Mo_marker_50 (by decide) rfl (fun b32 => absurd b32 (by decide)) (fun _ => ?_)
                refine mg_iconst X 54 1 d_Mo_marker_53 mg_ci_1 rfl ?_
                refine mg_goto X 70 d_Mo_marker_54 (by decide) ?_
                refine mg_callVi X hK hw hA 73 [0] 0 (fun _ => [mg_ob mh 6 [.int (nI (1)), .int (nI (np)), .int (nI (nf)), .int (nI (nc)), .ref (qor), .ref (qfa), .ref (qmo), .int (nI (nm)), .ref (qwt), .ref (qrt), .ref (qnw), .ref (qsn), .ref (qlt), .ref (qkn), .ref (qft), .ref (qbf), .ref (qbh), .ref (qjt), .ref (qot), .ref (qsm), .ref (qpt), .ref (qpr), .ref (qch), .ref (qbt), .int (nI (wr)), .ref (qpg)]]) rfl rfl (k_Mo_refused l D K mh qor qfa qmo qwt qrt qnw qsn qlt qkn qft qbf qbh qjt qot qsm qpt qpr qch qbt qpg flt np nf nc nm wr 1 (by omega)) g_Mo_96 ⟨by decide, by decide⟩ ⟨rfl, rfl⟩ rfl rfl rfl hl.1 (rest := []) (As := [.int (nI (1))]) rfl (Nat.le_of_ble_eq_true rfl) d_Mo_marker_70 ⟨Nat.zero_le _, Nat.zero_le _⟩ (fun _ => rfl) (fun _ => rfl) rfl ?_
                intro r _ H locs hp34 hw
                subst hp34
                refine mg_bif_eq X 78 76 d_Mo_marker_73 (by decide) rfl (fun b35 => absurd b35 (by decide)) (fun _ => ?_)
                refine mg_iconst X 77 0 d_Mo_marker_76 mg_ci_0 rfl ?_
                exact mg_iret X hr hlk (rfl) (()) (rfl) hw d_Mo_marker_77
              · -- pc 37 f
                exact absurd ⟨ja, jb, jc, rfl, rfl, rfl, by omega⟩ hx

set_option maxRecDepth 100000 in
set_option maxHeartbeats 4000000 in
theorem k_Mo_markerN2 (l : Launch) (D : va_G) (K : Nat → ClassId) (mh : Nat) (qor : Nat) (qfa : Nat) (qmo : Nat) (qwt : Nat) (qrt : Nat) (qnw : Nat) (qsn : Nat) (qlt : Nat) (qkn : Nat) (qft : Nat) (qbf : Nat) (qbh : Nat) (qjt : Nat) (qot : Nat) (qsm : Nat) (qpt : Nat) (qpr : Nat) (qch : Nat) (qbt : Nat) (qpg : Nat) (flt : Nat) (np : Nat) (nf : Nat) (nc : Nat) (nm : Nat) (wr : Nat) (a1 : Nat) (a2 : Nat) (a3 : Nat) (h8 : a1 + a2 + a3 = 8) (hx : nm = 4) : mg_Mi l D K y_Mo_marker b_Mo_marker 5 (.int) ({ frames := 1, cells := 0, slots := 0, locals := 21 }) [.ref (mh), .int (nI (a1)), .int (nI (a2)), .int (nI (a3))] [mg_ob mh 6 [.int (nI (flt)), .int (nI (np)), .int (nI (nf)), .int (nI (nc)), .ref (qor), .ref (qfa), .ref (qmo), .int (nI (nm)), .ref (qwt), .ref (qrt), .ref (qnw), .ref (qsn), .ref (qlt), .ref (qkn), .ref (qft), .ref (qbf), .ref (qbh), .ref (qjt), .ref (qot), .ref (qsm), .ref (qpt), .ref (qpr), .ref (qch), .ref (qbt), .int (nI (wr)), .ref (qpg)]] (fun (r : Int32) (_ : Unit) => r = nI (0)) (fun (_ : Unit) => [mg_ob mh 6 [.int (nI (2)), .int (nI (np)), .int (nI (nf)), .int (nI (nc)), .ref (qor), .ref (qfa), .ref (qmo), .int (nI (nm)), .ref (qwt), .ref (qrt), .ref (qnw), .ref (qsn), .ref (qlt), .ref (qkn), .ref (qft), .ref (qbf), .ref (qbh), .ref (qjt), .ref (qot), .ref (qsm), .ref (qpt), .ref (qpr), .ref (qch), .ref (qbt), .int (nI (wr)), .ref (qpg)]]) := by
  intro sz
  refine mg_entry (Qc := fun A => va_Qi (fun (r : Int32) (_ : Unit) => r = nI (0)) (mg_B D A (fun (_ : Unit) => [mg_ob mh 6 [.int (nI (2)), .int (nI (np)), .int (nI (nf)), .int (nI (nc)), .ref (qor), .ref (qfa), .ref (qmo), .int (nI (nm)), .ref (qwt), .ref (qrt), .ref (qnw), .ref (qsn), .ref (qlt), .ref (qkn), .ref (qft), .ref (qbf), .ref (qbh), .ref (qjt), .ref (qot), .ref (qsm), .ref (qpt), .ref (qpr), .ref (qch), .ref (qbt), .int (nI (wr)), .ref (qpg)]])) A) (by decide) (Nat.le_of_ble_eq_true rfl) ?_
  intro p e s m args below meth c A ls X hr hlk hnm hA hK hw hl
  have hl : lv_has ls 5 [(0, .ref (mh)), (1, .int (nI (a1))), (2, .int (nI (a2))), (3, .int (nI (a3)))] := hl
  refine mg_iload_n X 1 d_Mo_marker_0 (lv_at hl 1 rfl) rfl ?_
  refine mg_iflt_n X 4 (by omega) (tgt := 44) d_Mo_marker_1 (by decide) rfl ?_
  refine mg_iload_n X 5 d_Mo_marker_4 (lv_at hl 2 rfl) rfl ?_
  refine mg_iflt_n X 8 (by omega) (tgt := 44) d_Mo_marker_5 (by decide) rfl ?_
  refine mg_iload_n X 9 d_Mo_marker_8 (lv_at hl 3 rfl) rfl ?_
  refine mg_iflt_n X 12 (by omega) (tgt := 44) d_Mo_marker_9 (by decide) rfl ?_
  refine mg_iload_n X 13 d_Mo_marker_12 (lv_at hl 1 rfl) rfl ?_
  refine mg_bipush X 15 8 d_Mo_marker_13 mg_cb_8 rfl ?_
  refine mg_icmp_gt X 44 18 (by omega) (by omega) d_Mo_marker_15 (by decide) rfl (fun b4 => absurd b4 (by omega)) (fun b4 => ?_)
  refine mg_iload_n X 19 d_Mo_marker_18 (lv_at hl 2 rfl) rfl ?_
  refine mg_bipush X 21 8 d_Mo_marker_19 mg_cb_8 rfl ?_
  refine mg_icmp_gt X 44 24 (by omega) (by omega) d_Mo_marker_21 (by decide) rfl (fun b5 => absurd b5 (by omega)) (fun b5 => ?_)
  refine mg_iload_n X 25 d_Mo_marker_24 (lv_at hl 3 rfl) rfl ?_
  refine mg_bipush X 27 8 d_Mo_marker_25 mg_cb_8 rfl ?_
  refine mg_icmp_gt X 44 30 (by omega) (by omega) d_Mo_marker_27 (by decide) rfl (fun b6 => absurd b6 (by omega)) (fun b6 => ?_)
  refine mg_iload_n X 31 d_Mo_marker_30 (lv_at hl 1 rfl) rfl ?_
  refine mg_iload_n X 32 d_Mo_marker_31 (lv_at hl 2 rfl) rfl ?_
  refine mg_iadd X 33 (nI (a1 + a2)) d_Mo_marker_32 (nI_add _ _) rfl ?_
  refine mg_iload_n X 34 d_Mo_marker_33 (lv_at hl 3 rfl) rfl ?_
  refine mg_iadd X 35 (nI ((a1 + a2) + a3)) d_Mo_marker_34 (nI_add _ _) rfl ?_
  refine mg_bipush X 37 8 d_Mo_marker_35 mg_cb_8 rfl ?_
  refine mg_icmp_ne X 44 40 (by omega) (by omega) d_Mo_marker_37 (by decide) rfl (fun b7 => absurd b7 (by omega)) (fun b7 => ?_)
  refine mg_iconst X 41 1 d_Mo_marker_40 mg_ci_1 rfl ?_
  refine mg_goto X 45 d_Mo_marker_41 (by decide) ?_
  refine mg_istore X 47 [(4, .int (nI (1))), (0, .ref (mh)), (1, .int (nI (a1))), (2, .int (nI (a2))), (3, .int (nI (a3)))] d_Mo_marker_45 hl (by decide) rfl rfl (fun ls hl => ?_)
  refine mg_aload_n X 48 d_Mo_marker_47 (lv_at hl 1 rfl) rfl ?_
  refine mg_iload X 50 d_Mo_marker_48 (lv_at hl 0 rfl) rfl ?_
  refine mg_if_ne X 57 53 (by decide) d_Mo_marker_50 (by decide) rfl (fun _ => ?_) (fun b8 => absurd b8 (by decide))
  refine mg_aload_n X 58 d_Mo_marker_57 (lv_at hl 1 rfl) rfl ?_
  refine mg_get X hK hw 61 0 7 f_Mo_83 rfl rfl d_Mo_marker_58 rfl ?_
  refine mg_iconst X 62 4 d_Mo_marker_61 mg_ci_4 rfl ?_
  refine mg_icmp_ne X 69 65 (by omega) (by omega) d_Mo_marker_62 (by decide) rfl (fun b9 => absurd b9 (by omega)) (fun b9 => ?_)
  refine mg_iconst X 66 2 d_Mo_marker_65 mg_ci_2 rfl ?_
  refine mg_goto X 70 d_Mo_marker_66 (by decide) ?_
  refine mg_callVi X hK hw hA 73 [0] 0 (fun _ => [mg_ob mh 6 [.int (nI (2)), .int (nI (np)), .int (nI (nf)), .int (nI (nc)), .ref (qor), .ref (qfa), .ref (qmo), .int (nI (nm)), .ref (qwt), .ref (qrt), .ref (qnw), .ref (qsn), .ref (qlt), .ref (qkn), .ref (qft), .ref (qbf), .ref (qbh), .ref (qjt), .ref (qot), .ref (qsm), .ref (qpt), .ref (qpr), .ref (qch), .ref (qbt), .int (nI (wr)), .ref (qpg)]]) rfl rfl (k_Mo_refused l D K mh qor qfa qmo qwt qrt qnw qsn qlt qkn qft qbf qbh qjt qot qsm qpt qpr qch qbt qpg flt np nf nc nm wr 2 (by omega)) g_Mo_96 ⟨by decide, by decide⟩ ⟨rfl, rfl⟩ rfl rfl rfl hl.1 (rest := []) (As := [.int (nI (2))]) rfl (Nat.le_of_ble_eq_true rfl) d_Mo_marker_70 ⟨Nat.zero_le _, Nat.zero_le _⟩ (fun _ => rfl) (fun _ => rfl) rfl ?_
  intro r _ H locs hp11 hw
  subst hp11
  refine mg_bif_eq X 78 76 d_Mo_marker_73 (by decide) rfl (fun b12 => absurd b12 (by decide)) (fun _ => ?_)
  refine mg_iconst X 77 0 d_Mo_marker_76 mg_ci_0 rfl ?_
  exact mg_iret X hr hlk (rfl) (()) (rfl) hw d_Mo_marker_77

set_option maxRecDepth 100000 in
set_option maxHeartbeats 4000000 in
theorem k_Mo_marker (l : Launch) (D : va_G) (K : Nat → ClassId) (mh : Nat) (qor : Nat) (qfa : Nat) (qmo : Nat) (qwt : Nat) (qrt : Nat) (qnw : Nat) (qsn : Nat) (qlt : Nat) (qkn : Nat) (qft : Nat) (qbf : Nat) (qbh : Nat) (qjt : Nat) (qot : Nat) (qsm : Nat) (qpt : Nat) (qpr : Nat) (qch : Nat) (qbt : Nat) (qpg : Nat) (flt : Nat) (np : Nat) (nf : Nat) (nc : Nat) (nm : Nat) (wr : Nat) (mw : Nat → Nat) (mr : Nat → Nat) (kn : Nat → Nat) (a1 : Nat) (a2 : Nat) (a3 : Nat) (h8 : a1 + a2 + a3 = 8) (hx : nm < 4) : mg_Mi l D K y_Mo_marker b_Mo_marker 5 (.int) ({ frames := 1, cells := 0, slots := 0, locals := 21 }) [.ref (mh), .int (nI (a1)), .int (nI (a2)), .int (nI (a3))] [mg_ob mh 6 [.int (nI (flt)), .int (nI (np)), .int (nI (nf)), .int (nI (nc)), .ref (qor), .ref (qfa), .ref (qmo), .int (nI (nm)), .ref (qwt), .ref (qrt), .ref (qnw), .ref (qsn), .ref (qlt), .ref (qkn), .ref (qft), .ref (qbf), .ref (qbh), .ref (qjt), .ref (qot), .ref (qsm), .ref (qpt), .ref (qpr), .ref (qch), .ref (qbt), .int (nI (wr)), .ref (qpg)], mg_ai K qwt 16 mw, mg_ai K qrt 4 mr, mg_az K qkn 4 kn] (fun (r : Int32) (_ : Unit) => r = nI (nm)) (fun (_ : Unit) => [mg_ob mh 6 [.int (nI (0)), .int (nI (np)), .int (nI (nf)), .int (nI (nc)), .ref (qor), .ref (qfa), .ref (qmo), .int (nI (nm + 1)), .ref (qwt), .ref (qrt), .ref (qnw), .ref (qsn), .ref (qlt), .ref (qkn), .ref (qft), .ref (qbf), .ref (qbh), .ref (qjt), .ref (qot), .ref (qsm), .ref (qpt), .ref (qpr), .ref (qch), .ref (qbt), .int (nI (wr)), .ref (qpg)], mg_ai K qwt 16 (va_up (va_up (va_up mw (4 * nm + 1) a1) (4 * nm + 2) a2) (4 * nm + 3) a3), mg_ai K qrt 4 (va_up mr nm 8), mg_az K qkn 4 (va_up kn nm 0)]) := by
  intro sz
  refine mg_entry (Qc := fun A => va_Qi (fun (r : Int32) (_ : Unit) => r = nI (nm)) (mg_B D A (fun (_ : Unit) => [mg_ob mh 6 [.int (nI (0)), .int (nI (np)), .int (nI (nf)), .int (nI (nc)), .ref (qor), .ref (qfa), .ref (qmo), .int (nI (nm + 1)), .ref (qwt), .ref (qrt), .ref (qnw), .ref (qsn), .ref (qlt), .ref (qkn), .ref (qft), .ref (qbf), .ref (qbh), .ref (qjt), .ref (qot), .ref (qsm), .ref (qpt), .ref (qpr), .ref (qch), .ref (qbt), .int (nI (wr)), .ref (qpg)], mg_ai K qwt 16 (va_up (va_up (va_up mw (4 * nm + 1) a1) (4 * nm + 2) a2) (4 * nm + 3) a3), mg_ai K qrt 4 (va_up mr nm 8), mg_az K qkn 4 (va_up kn nm 0)])) A) (by decide) (Nat.le_of_ble_eq_true rfl) ?_
  intro p e s m args below meth c A ls X hr hlk hnm hA hK hw hl
  have hl : lv_has ls 5 [(0, .ref (mh)), (1, .int (nI (a1))), (2, .int (nI (a2))), (3, .int (nI (a3)))] := hl
  refine mg_iload_n X 1 d_Mo_marker_0 (lv_at hl 1 rfl) rfl ?_
  refine mg_iflt_n X 4 (by omega) (tgt := 44) d_Mo_marker_1 (by decide) rfl ?_
  refine mg_iload_n X 5 d_Mo_marker_4 (lv_at hl 2 rfl) rfl ?_
  refine mg_iflt_n X 8 (by omega) (tgt := 44) d_Mo_marker_5 (by decide) rfl ?_
  refine mg_iload_n X 9 d_Mo_marker_8 (lv_at hl 3 rfl) rfl ?_
  refine mg_iflt_n X 12 (by omega) (tgt := 44) d_Mo_marker_9 (by decide) rfl ?_
  refine mg_iload_n X 13 d_Mo_marker_12 (lv_at hl 1 rfl) rfl ?_
  refine mg_bipush X 15 8 d_Mo_marker_13 mg_cb_8 rfl ?_
  refine mg_icmp_gt X 44 18 (by omega) (by omega) d_Mo_marker_15 (by decide) rfl (fun b4 => absurd b4 (by omega)) (fun b4 => ?_)
  refine mg_iload_n X 19 d_Mo_marker_18 (lv_at hl 2 rfl) rfl ?_
  refine mg_bipush X 21 8 d_Mo_marker_19 mg_cb_8 rfl ?_
  refine mg_icmp_gt X 44 24 (by omega) (by omega) d_Mo_marker_21 (by decide) rfl (fun b5 => absurd b5 (by omega)) (fun b5 => ?_)
  refine mg_iload_n X 25 d_Mo_marker_24 (lv_at hl 3 rfl) rfl ?_
  refine mg_bipush X 27 8 d_Mo_marker_25 mg_cb_8 rfl ?_
  refine mg_icmp_gt X 44 30 (by omega) (by omega) d_Mo_marker_27 (by decide) rfl (fun b6 => absurd b6 (by omega)) (fun b6 => ?_)
  refine mg_iload_n X 31 d_Mo_marker_30 (lv_at hl 1 rfl) rfl ?_
  refine mg_iload_n X 32 d_Mo_marker_31 (lv_at hl 2 rfl) rfl ?_
  refine mg_iadd X 33 (nI (a1 + a2)) d_Mo_marker_32 (nI_add _ _) rfl ?_
  refine mg_iload_n X 34 d_Mo_marker_33 (lv_at hl 3 rfl) rfl ?_
  refine mg_iadd X 35 (nI ((a1 + a2) + a3)) d_Mo_marker_34 (nI_add _ _) rfl ?_
  refine mg_bipush X 37 8 d_Mo_marker_35 mg_cb_8 rfl ?_
  refine mg_icmp_ne X 44 40 (by omega) (by omega) d_Mo_marker_37 (by decide) rfl (fun b7 => absurd b7 (by omega)) (fun b7 => ?_)
  refine mg_iconst X 41 1 d_Mo_marker_40 mg_ci_1 rfl ?_
  refine mg_goto X 45 d_Mo_marker_41 (by decide) ?_
  refine mg_istore X 47 [(4, .int (nI (1))), (0, .ref (mh)), (1, .int (nI (a1))), (2, .int (nI (a2))), (3, .int (nI (a3)))] d_Mo_marker_45 hl (by decide) rfl rfl (fun ls hl => ?_)
  refine mg_aload_n X 48 d_Mo_marker_47 (lv_at hl 1 rfl) rfl ?_
  refine mg_iload X 50 d_Mo_marker_48 (lv_at hl 0 rfl) rfl ?_
  refine mg_if_ne X 57 53 (by decide) d_Mo_marker_50 (by decide) rfl (fun _ => ?_) (fun b8 => absurd b8 (by decide))
  refine mg_aload_n X 58 d_Mo_marker_57 (lv_at hl 1 rfl) rfl ?_
  refine mg_get X hK hw 61 0 7 f_Mo_83 rfl rfl d_Mo_marker_58 rfl ?_
  refine mg_iconst X 62 4 d_Mo_marker_61 mg_ci_4 rfl ?_
  refine mg_icmp_ne X 69 65 (by omega) (by omega) d_Mo_marker_62 (by decide) rfl (fun b9 => ?_) (fun b9 => absurd b9 (by omega))
  refine mg_iconst X 70 0 d_Mo_marker_69 mg_ci_0 rfl ?_
  refine mg_callVi X hK hw hA 73 [0] 0 (fun _ => [mg_ob mh 6 [.int (nI (0)), .int (nI (np)), .int (nI (nf)), .int (nI (nc)), .ref (qor), .ref (qfa), .ref (qmo), .int (nI (nm)), .ref (qwt), .ref (qrt), .ref (qnw), .ref (qsn), .ref (qlt), .ref (qkn), .ref (qft), .ref (qbf), .ref (qbh), .ref (qjt), .ref (qot), .ref (qsm), .ref (qpt), .ref (qpr), .ref (qch), .ref (qbt), .int (nI (wr)), .ref (qpg)], mg_ai K qwt 16 mw, mg_ai K qrt 4 mr, mg_az K qkn 4 kn]) rfl rfl (k_Mo_refused l D K mh qor qfa qmo qwt qrt qnw qsn qlt qkn qft qbf qbh qjt qot qsm qpt qpr qch qbt qpg flt np nf nc nm wr 0 (by omega)) g_Mo_96 ⟨by decide, by decide⟩ ⟨rfl, rfl⟩ rfl rfl rfl hl.1 (rest := []) (As := [.int (nI (0))]) rfl (Nat.le_of_ble_eq_true rfl) d_Mo_marker_70 ⟨Nat.zero_le _, Nat.zero_le _⟩ (fun _ => rfl) (fun _ => rfl) rfl ?_
  intro r _ H locs hp11 hw
  subst hp11
  refine mg_bif_eq X 78 76 d_Mo_marker_73 (by decide) rfl (fun _ => ?_) (fun b12 => absurd b12 (by decide))
  refine mg_aload_n X 79 d_Mo_marker_78 (lv_at hl 1 rfl) rfl ?_
  refine mg_get X hK hw 82 0 8 f_Mo_19 rfl rfl d_Mo_marker_79 rfl ?_
  refine mg_iconst X 83 4 d_Mo_marker_82 mg_ci_4 rfl ?_
  refine mg_aload_n X 84 d_Mo_marker_83 (lv_at hl 1 rfl) rfl ?_
  refine mg_get X hK hw 87 0 7 f_Mo_83 rfl rfl d_Mo_marker_84 rfl ?_
  refine mg_imul X 88 (nI (4 * nm)) d_Mo_marker_87 (pk_mul _ _) rfl ?_
  refine mg_iconst X 89 1 d_Mo_marker_88 mg_ci_1 rfl ?_
  refine mg_iadd X 90 (nI ((4 * nm) + 1)) d_Mo_marker_89 (nI_add _ _) rfl ?_
  refine mg_iload_n X 91 d_Mo_marker_90 (lv_at hl 2 rfl) rfl ?_
  refine mg_iast X hK hw 92 1 [mg_ob mh 6 [.int (nI (0)), .int (nI (np)), .int (nI (nf)), .int (nI (nc)), .ref (qor), .ref (qfa), .ref (qmo), .int (nI (nm)), .ref (qwt), .ref (qrt), .ref (qnw), .ref (qsn), .ref (qlt), .ref (qkn), .ref (qft), .ref (qbf), .ref (qbh), .ref (qjt), .ref (qot), .ref (qsm), .ref (qpt), .ref (qpr), .ref (qch), .ref (qbt), .int (nI (wr)), .ref (qpg)], mg_ai K qwt 16 (va_up mw ((4 * nm) + 1) a1), mg_ai K qrt 4 mr, mg_az K qkn 4 kn] rfl (by omega) (by omega) d_Mo_marker_91 rfl rfl (fun H locs hw => ?_)
  refine mg_aload_n X 93 d_Mo_marker_92 (lv_at hl 1 rfl) rfl ?_
  refine mg_get X hK hw 96 0 8 f_Mo_19 rfl rfl d_Mo_marker_93 rfl ?_
  refine mg_iconst X 97 4 d_Mo_marker_96 mg_ci_4 rfl ?_
  refine mg_aload_n X 98 d_Mo_marker_97 (lv_at hl 1 rfl) rfl ?_
  refine mg_get X hK hw 101 0 7 f_Mo_83 rfl rfl d_Mo_marker_98 rfl ?_
  refine mg_imul X 102 (nI (4 * nm)) d_Mo_marker_101 (pk_mul _ _) rfl ?_
  refine mg_iconst X 103 2 d_Mo_marker_102 mg_ci_2 rfl ?_
  refine mg_iadd X 104 (nI ((4 * nm) + 2)) d_Mo_marker_103 (nI_add _ _) rfl ?_
  refine mg_iload_n X 105 d_Mo_marker_104 (lv_at hl 3 rfl) rfl ?_
  refine mg_iast X hK hw 106 1 [mg_ob mh 6 [.int (nI (0)), .int (nI (np)), .int (nI (nf)), .int (nI (nc)), .ref (qor), .ref (qfa), .ref (qmo), .int (nI (nm)), .ref (qwt), .ref (qrt), .ref (qnw), .ref (qsn), .ref (qlt), .ref (qkn), .ref (qft), .ref (qbf), .ref (qbh), .ref (qjt), .ref (qot), .ref (qsm), .ref (qpt), .ref (qpr), .ref (qch), .ref (qbt), .int (nI (wr)), .ref (qpg)], mg_ai K qwt 16 (va_up (va_up mw ((4 * nm) + 1) a1) ((4 * nm) + 2) a2), mg_ai K qrt 4 mr, mg_az K qkn 4 kn] rfl (by omega) (by omega) d_Mo_marker_105 rfl rfl (fun H locs hw => ?_)
  refine mg_aload_n X 107 d_Mo_marker_106 (lv_at hl 1 rfl) rfl ?_
  refine mg_get X hK hw 110 0 8 f_Mo_19 rfl rfl d_Mo_marker_107 rfl ?_
  refine mg_iconst X 111 4 d_Mo_marker_110 mg_ci_4 rfl ?_
  refine mg_aload_n X 112 d_Mo_marker_111 (lv_at hl 1 rfl) rfl ?_
  refine mg_get X hK hw 115 0 7 f_Mo_83 rfl rfl d_Mo_marker_112 rfl ?_
  refine mg_imul X 116 (nI (4 * nm)) d_Mo_marker_115 (pk_mul _ _) rfl ?_
  refine mg_iconst X 117 3 d_Mo_marker_116 mg_ci_3 rfl ?_
  refine mg_iadd X 118 (nI ((4 * nm) + 3)) d_Mo_marker_117 (nI_add _ _) rfl ?_
  refine mg_iload_n X 119 d_Mo_marker_118 (lv_at hl 4 rfl) rfl ?_
  refine mg_iast X hK hw 120 1 [mg_ob mh 6 [.int (nI (0)), .int (nI (np)), .int (nI (nf)), .int (nI (nc)), .ref (qor), .ref (qfa), .ref (qmo), .int (nI (nm)), .ref (qwt), .ref (qrt), .ref (qnw), .ref (qsn), .ref (qlt), .ref (qkn), .ref (qft), .ref (qbf), .ref (qbh), .ref (qjt), .ref (qot), .ref (qsm), .ref (qpt), .ref (qpr), .ref (qch), .ref (qbt), .int (nI (wr)), .ref (qpg)], mg_ai K qwt 16 (va_up (va_up (va_up mw ((4 * nm) + 1) a1) ((4 * nm) + 2) a2) ((4 * nm) + 3) a3), mg_ai K qrt 4 mr, mg_az K qkn 4 kn] rfl (by omega) (by omega) d_Mo_marker_119 rfl rfl (fun H locs hw => ?_)
  refine mg_aload_n X 121 d_Mo_marker_120 (lv_at hl 1 rfl) rfl ?_
  refine mg_get X hK hw 124 0 9 f_Mo_22 rfl rfl d_Mo_marker_121 rfl ?_
  refine mg_aload_n X 125 d_Mo_marker_124 (lv_at hl 1 rfl) rfl ?_
  refine mg_get X hK hw 128 0 7 f_Mo_83 rfl rfl d_Mo_marker_125 rfl ?_
  refine mg_bipush X 130 8 d_Mo_marker_128 mg_cb_8 rfl ?_
  refine mg_iast X hK hw 131 2 [mg_ob mh 6 [.int (nI (0)), .int (nI (np)), .int (nI (nf)), .int (nI (nc)), .ref (qor), .ref (qfa), .ref (qmo), .int (nI (nm)), .ref (qwt), .ref (qrt), .ref (qnw), .ref (qsn), .ref (qlt), .ref (qkn), .ref (qft), .ref (qbf), .ref (qbh), .ref (qjt), .ref (qot), .ref (qsm), .ref (qpt), .ref (qpr), .ref (qch), .ref (qbt), .int (nI (wr)), .ref (qpg)], mg_ai K qwt 16 (va_up (va_up (va_up mw ((4 * nm) + 1) a1) ((4 * nm) + 2) a2) ((4 * nm) + 3) a3), mg_ai K qrt 4 (va_up mr nm 8), mg_az K qkn 4 kn] rfl (by omega) (by omega) d_Mo_marker_130 rfl rfl (fun H locs hw => ?_)
  refine mg_aload_n X 132 d_Mo_marker_131 (lv_at hl 1 rfl) rfl ?_
  refine mg_get X hK hw 135 0 13 f_Mo_34 rfl rfl d_Mo_marker_132 rfl ?_
  refine mg_aload_n X 136 d_Mo_marker_135 (lv_at hl 1 rfl) rfl ?_
  refine mg_get X hK hw 139 0 7 f_Mo_83 rfl rfl d_Mo_marker_136 rfl ?_
  refine mg_iconst X 140 0 d_Mo_marker_139 mg_ci_0 rfl ?_
  refine mg_zast X hK hw 141 3 [mg_ob mh 6 [.int (nI (0)), .int (nI (np)), .int (nI (nf)), .int (nI (nc)), .ref (qor), .ref (qfa), .ref (qmo), .int (nI (nm)), .ref (qwt), .ref (qrt), .ref (qnw), .ref (qsn), .ref (qlt), .ref (qkn), .ref (qft), .ref (qbf), .ref (qbh), .ref (qjt), .ref (qot), .ref (qsm), .ref (qpt), .ref (qpr), .ref (qch), .ref (qbt), .int (nI (wr)), .ref (qpg)], mg_ai K qwt 16 (va_up (va_up (va_up mw ((4 * nm) + 1) a1) ((4 * nm) + 2) a2) ((4 * nm) + 3) a3), mg_ai K qrt 4 (va_up mr nm 8), mg_az K qkn 4 (va_up kn nm 0)] rfl (by omega) (by omega) (by omega) d_Mo_marker_140 rfl rfl (fun H locs hw => ?_)
  refine mg_aload_n X 142 d_Mo_marker_141 (lv_at hl 1 rfl) rfl ?_
  refine mg_dup X 143 d_Mo_marker_142 rfl rfl ?_
  refine mg_get X hK hw 146 0 7 f_Mo_83 rfl rfl d_Mo_marker_143 rfl ?_
  refine mg_iconst X 147 1 d_Mo_marker_146 mg_ci_1 rfl ?_
  refine mg_iadd X 148 (nI (nm + 1)) d_Mo_marker_147 (nI_add _ _) rfl ?_
  refine mg_put X hK hw 151 0 7 [mg_ob mh 6 [.int (nI (0)), .int (nI (np)), .int (nI (nf)), .int (nI (nc)), .ref (qor), .ref (qfa), .ref (qmo), .int (nI (nm + 1)), .ref (qwt), .ref (qrt), .ref (qnw), .ref (qsn), .ref (qlt), .ref (qkn), .ref (qft), .ref (qbf), .ref (qbh), .ref (qjt), .ref (qot), .ref (qsm), .ref (qpt), .ref (qpr), .ref (qch), .ref (qbt), .int (nI (wr)), .ref (qpg)], mg_ai K qwt 16 (va_up (va_up (va_up mw ((4 * nm) + 1) a1) ((4 * nm) + 2) a2) ((4 * nm) + 3) a3), mg_ai K qrt 4 (va_up mr nm 8), mg_az K qkn 4 (va_up kn nm 0)] fp_Mo_83 rfl (Nat.le_of_ble_eq_true rfl) rfl rfl d_Mo_marker_148 rfl rfl (fun H locs hw => ?_)
  refine mg_aload_n X 152 d_Mo_marker_151 (lv_at hl 1 rfl) rfl ?_
  refine mg_get X hK hw 155 0 7 f_Mo_83 rfl rfl d_Mo_marker_152 rfl ?_
  refine mg_iconst X 156 1 d_Mo_marker_155 mg_ci_1 rfl ?_
  refine mg_isub X 157 (nI ((nm + 1) - 1)) d_Mo_marker_156 (pk_sub (by omega)) rfl ?_
  exact mg_iret X hr hlk (rfl) (()) (rfl) hw d_Mo_marker_157

set_option maxRecDepth 100000 in
set_option maxHeartbeats 4000000 in
theorem k_Mo_rateN1 (l : Launch) (D : va_G) (K : Nat → ClassId) (mh : Nat) (qor : Nat) (qfa : Nat) (qmo : Nat) (qwt : Nat) (qrt : Nat) (qnw : Nat) (qsn : Nat) (qlt : Nat) (qkn : Nat) (qft : Nat) (qbf : Nat) (qbh : Nat) (qjt : Nat) (qot : Nat) (qsm : Nat) (qpt : Nat) (qpr : Nat) (qch : Nat) (qbt : Nat) (qpg : Nat) (flt : Nat) (np : Nat) (nf : Nat) (nc : Nat) (nm : Nat) (wr : Nat) (g1 : Int32) (k1 : Int32) (hnm4 : nm ≤ 4) (hx : ¬ mg_lt g1 (nm - 1)) : mg_Mi l D K y_Mo_rate b_Mo_rate 4 (.int) ({ frames := 1, cells := 0, slots := 0, locals := 21 }) [.ref (mh), .int (g1), .int (k1)] [mg_ob mh 6 [.int (nI (flt)), .int (nI (np)), .int (nI (nf)), .int (nI (nc)), .ref (qor), .ref (qfa), .ref (qmo), .int (nI (nm)), .ref (qwt), .ref (qrt), .ref (qnw), .ref (qsn), .ref (qlt), .ref (qkn), .ref (qft), .ref (qbf), .ref (qbh), .ref (qjt), .ref (qot), .ref (qsm), .ref (qpt), .ref (qpr), .ref (qch), .ref (qbt), .int (nI (wr)), .ref (qpg)]] (fun (r : Int32) (_ : Unit) => r = nI (0)) (fun (_ : Unit) => [mg_ob mh 6 [.int (nI (1)), .int (nI (np)), .int (nI (nf)), .int (nI (nc)), .ref (qor), .ref (qfa), .ref (qmo), .int (nI (nm)), .ref (qwt), .ref (qrt), .ref (qnw), .ref (qsn), .ref (qlt), .ref (qkn), .ref (qft), .ref (qbf), .ref (qbh), .ref (qjt), .ref (qot), .ref (qsm), .ref (qpt), .ref (qpr), .ref (qch), .ref (qbt), .int (nI (wr)), .ref (qpg)]]) := by
  intro sz
  refine mg_entry (Qc := fun A => va_Qi (fun (r : Int32) (_ : Unit) => r = nI (0)) (mg_B D A (fun (_ : Unit) => [mg_ob mh 6 [.int (nI (1)), .int (nI (np)), .int (nI (nf)), .int (nI (nc)), .ref (qor), .ref (qfa), .ref (qmo), .int (nI (nm)), .ref (qwt), .ref (qrt), .ref (qnw), .ref (qsn), .ref (qlt), .ref (qkn), .ref (qft), .ref (qbf), .ref (qbh), .ref (qjt), .ref (qot), .ref (qsm), .ref (qpt), .ref (qpr), .ref (qch), .ref (qbt), .int (nI (wr)), .ref (qpg)]])) A) (by decide) (Nat.le_of_ble_eq_true rfl) ?_
  intro p e s m args below meth c A ls X hr hlk hnm hA hK hw hl
  have hl : lv_has ls 4 [(0, .ref (mh)), (1, .int (g1)), (2, .int (k1))] := hl
  refine mg_aload_n X 1 d_Mo_rate_0 (lv_at hl 0 rfl) rfl ?_
  refine mg_aload_n X 2 d_Mo_rate_1 (lv_at hl 0 rfl) rfl ?_
  refine mg_iload_n X 3 d_Mo_rate_2 (lv_at hl 1 rfl) rfl ?_
  refine mg_callVi X hK hw hA 6 [0] 0 (fun _ => [mg_ob mh 6 [.int (nI (flt)), .int (nI (np)), .int (nI (nf)), .int (nI (nc)), .ref (qor), .ref (qfa), .ref (qmo), .int (nI (nm)), .ref (qwt), .ref (qrt), .ref (qnw), .ref (qsn), .ref (qlt), .ref (qkn), .ref (qft), .ref (qbf), .ref (qbh), .ref (qjt), .ref (qot), .ref (qsm), .ref (qpt), .ref (qpr), .ref (qch), .ref (qbt), .int (nI (wr)), .ref (qpg)]]) rfl rfl (k_Mo_isGap l D K mh qor qfa qmo qwt qrt qnw qsn qlt qkn qft qbf qbh qjt qot qsm qpt qpr qch qbt qpg flt np nf nc nm wr g1 (by omega)) g_Mo_106 ⟨by decide, by decide⟩ ⟨rfl, rfl⟩ rfl rfl rfl hl.1 (rest := [.ref (mh)]) (As := [.int (g1)]) rfl (Nat.le_of_ble_eq_true rfl) d_Mo_rate_3 ⟨Nat.zero_le _, Nat.zero_le _⟩ (fun _ => rfl) (fun _ => rfl) rfl ?_
  intro r _ H locs hp2 hw
  subst hp2
  refine mg_bif_ne X 13 9 d_Mo_rate_6 (by decide) rfl (fun b3 => absurd b3 (hx)) (fun _ => ?_)
  refine mg_iconst X 10 1 d_Mo_rate_9 mg_ci_1 rfl ?_
  refine mg_goto X 28 d_Mo_rate_10 (by decide) ?_
  refine mg_callVi X hK hw hA 31 [0] 0 (fun _ => [mg_ob mh 6 [.int (nI (1)), .int (nI (np)), .int (nI (nf)), .int (nI (nc)), .ref (qor), .ref (qfa), .ref (qmo), .int (nI (nm)), .ref (qwt), .ref (qrt), .ref (qnw), .ref (qsn), .ref (qlt), .ref (qkn), .ref (qft), .ref (qbf), .ref (qbh), .ref (qjt), .ref (qot), .ref (qsm), .ref (qpt), .ref (qpr), .ref (qch), .ref (qbt), .int (nI (wr)), .ref (qpg)]]) rfl rfl (k_Mo_refused l D K mh qor qfa qmo qwt qrt qnw qsn qlt qkn qft qbf qbh qjt qot qsm qpt qpr qch qbt qpg flt np nf nc nm wr 1 (by omega)) g_Mo_96 ⟨by decide, by decide⟩ ⟨rfl, rfl⟩ rfl rfl rfl hl.1 (rest := []) (As := [.int (nI (1))]) rfl (Nat.le_of_ble_eq_true rfl) d_Mo_rate_28 ⟨Nat.zero_le _, Nat.zero_le _⟩ (fun _ => rfl) (fun _ => rfl) rfl ?_
  intro r _ H locs hp5 hw
  subst hp5
  refine mg_bif_eq X 36 34 d_Mo_rate_31 (by decide) rfl (fun b6 => absurd b6 (by decide)) (fun _ => ?_)
  refine mg_iconst X 35 0 d_Mo_rate_34 mg_ci_0 rfl ?_
  exact mg_iret X hr hlk (rfl) (()) (rfl) hw d_Mo_rate_35

set_option maxRecDepth 100000 in
set_option maxHeartbeats 4000000 in
theorem k_Mo_rateN2 (l : Launch) (D : va_G) (K : Nat → ClassId) (mh : Nat) (qor : Nat) (qfa : Nat) (qmo : Nat) (qwt : Nat) (qrt : Nat) (qnw : Nat) (qsn : Nat) (qlt : Nat) (qkn : Nat) (qft : Nat) (qbf : Nat) (qbh : Nat) (qjt : Nat) (qot : Nat) (qsm : Nat) (qpt : Nat) (qpr : Nat) (qch : Nat) (qbt : Nat) (qpg : Nat) (flt : Nat) (np : Nat) (nf : Nat) (nc : Nat) (nm : Nat) (wr : Nat) (g1 : Nat) (k1 : Int32) (hnm4 : nm ≤ 4) (hg : g1 + 1 < nm) (hx : ¬ mg_lt k1 9) : mg_Mi l D K y_Mo_rate b_Mo_rate 4 (.int) ({ frames := 1, cells := 0, slots := 0, locals := 21 }) [.ref (mh), .int (nI (g1)), .int (k1)] [mg_ob mh 6 [.int (nI (flt)), .int (nI (np)), .int (nI (nf)), .int (nI (nc)), .ref (qor), .ref (qfa), .ref (qmo), .int (nI (nm)), .ref (qwt), .ref (qrt), .ref (qnw), .ref (qsn), .ref (qlt), .ref (qkn), .ref (qft), .ref (qbf), .ref (qbh), .ref (qjt), .ref (qot), .ref (qsm), .ref (qpt), .ref (qpr), .ref (qch), .ref (qbt), .int (nI (wr)), .ref (qpg)]] (fun (r : Int32) (_ : Unit) => r = nI (0)) (fun (_ : Unit) => [mg_ob mh 6 [.int (nI (2)), .int (nI (np)), .int (nI (nf)), .int (nI (nc)), .ref (qor), .ref (qfa), .ref (qmo), .int (nI (nm)), .ref (qwt), .ref (qrt), .ref (qnw), .ref (qsn), .ref (qlt), .ref (qkn), .ref (qft), .ref (qbf), .ref (qbh), .ref (qjt), .ref (qot), .ref (qsm), .ref (qpt), .ref (qpr), .ref (qch), .ref (qbt), .int (nI (wr)), .ref (qpg)]]) := by
  intro sz
  refine mg_entry (Qc := fun A => va_Qi (fun (r : Int32) (_ : Unit) => r = nI (0)) (mg_B D A (fun (_ : Unit) => [mg_ob mh 6 [.int (nI (2)), .int (nI (np)), .int (nI (nf)), .int (nI (nc)), .ref (qor), .ref (qfa), .ref (qmo), .int (nI (nm)), .ref (qwt), .ref (qrt), .ref (qnw), .ref (qsn), .ref (qlt), .ref (qkn), .ref (qft), .ref (qbf), .ref (qbh), .ref (qjt), .ref (qot), .ref (qsm), .ref (qpt), .ref (qpr), .ref (qch), .ref (qbt), .int (nI (wr)), .ref (qpg)]])) A) (by decide) (Nat.le_of_ble_eq_true rfl) ?_
  intro p e s m args below meth c A ls X hr hlk hnm hA hK hw hl
  have hl : lv_has ls 4 [(0, .ref (mh)), (1, .int (nI (g1))), (2, .int (k1))] := hl
  refine mg_aload_n X 1 d_Mo_rate_0 (lv_at hl 0 rfl) rfl ?_
  refine mg_aload_n X 2 d_Mo_rate_1 (lv_at hl 0 rfl) rfl ?_
  refine mg_iload_n X 3 d_Mo_rate_2 (lv_at hl 1 rfl) rfl ?_
  refine mg_callVi X hK hw hA 6 [0] 0 (fun _ => [mg_ob mh 6 [.int (nI (flt)), .int (nI (np)), .int (nI (nf)), .int (nI (nc)), .ref (qor), .ref (qfa), .ref (qmo), .int (nI (nm)), .ref (qwt), .ref (qrt), .ref (qnw), .ref (qsn), .ref (qlt), .ref (qkn), .ref (qft), .ref (qbf), .ref (qbh), .ref (qjt), .ref (qot), .ref (qsm), .ref (qpt), .ref (qpr), .ref (qch), .ref (qbt), .int (nI (wr)), .ref (qpg)]]) rfl rfl (k_Mo_isGap l D K mh qor qfa qmo qwt qrt qnw qsn qlt qkn qft qbf qbh qjt qot qsm qpt qpr qch qbt qpg flt np nf nc nm wr (nI g1) (by omega)) g_Mo_106 ⟨by decide, by decide⟩ ⟨rfl, rfl⟩ rfl rfl rfl hl.1 (rest := [.ref (mh)]) (As := [.int (nI (g1))]) rfl (Nat.le_of_ble_eq_true rfl) d_Mo_rate_3 ⟨Nat.zero_le _, Nat.zero_le _⟩ (fun _ => rfl) (fun _ => rfl) rfl ?_
  intro r _ H locs hp2 hw
  subst hp2
  refine mg_bif_ne X 13 9 d_Mo_rate_6 (by decide) rfl (fun _ => ?_) (fun b3 => absurd (mg_lt_in (by omega)) b3)
  refine mg_iload_n X 14 d_Mo_rate_13 (lv_at hl 2 rfl) rfl ?_
  refine mg_iflt_r X 23 17 d_Mo_rate_14 (by decide) rfl (fun b4 => ?_) (fun j hj ej => ?_)
  · -- pc 14 t
    refine mg_iconst X 24 2 d_Mo_rate_23 mg_ci_2 rfl ?_
    refine mg_goto X 28 d_Mo_rate_24 (by decide) ?_
    refine mg_callVi X hK hw hA 31 [0] 0 (fun _ => [mg_ob mh 6 [.int (nI (2)), .int (nI (np)), .int (nI (nf)), .int (nI (nc)), .ref (qor), .ref (qfa), .ref (qmo), .int (nI (nm)), .ref (qwt), .ref (qrt), .ref (qnw), .ref (qsn), .ref (qlt), .ref (qkn), .ref (qft), .ref (qbf), .ref (qbh), .ref (qjt), .ref (qot), .ref (qsm), .ref (qpt), .ref (qpr), .ref (qch), .ref (qbt), .int (nI (wr)), .ref (qpg)]]) rfl rfl (k_Mo_refused l D K mh qor qfa qmo qwt qrt qnw qsn qlt qkn qft qbf qbh qjt qot qsm qpt qpr qch qbt qpg flt np nf nc nm wr 2 (by omega)) g_Mo_96 ⟨by decide, by decide⟩ ⟨rfl, rfl⟩ rfl rfl rfl hl.1 (rest := []) (As := [.int (nI (2))]) rfl (Nat.le_of_ble_eq_true rfl) d_Mo_rate_28 ⟨Nat.zero_le _, Nat.zero_le _⟩ (fun _ => rfl) (fun _ => rfl) rfl ?_
    intro r _ H locs hp6 hw
    subst hp6
    refine mg_bif_eq X 36 34 d_Mo_rate_31 (by decide) rfl (fun b7 => absurd b7 (by decide)) (fun _ => ?_)
    refine mg_iconst X 35 0 d_Mo_rate_34 mg_ci_0 rfl ?_
    exact mg_iret X hr hlk (rfl) (()) (rfl) hw d_Mo_rate_35
  · -- pc 14 f
    subst ej
    refine mg_iload_n X 18 d_Mo_rate_17 (lv_at hl 2 rfl) rfl ?_
    refine mg_bipush X 20 8 d_Mo_rate_18 mg_cb_8 rfl ?_
    refine mg_icmp_le X 27 23 (by omega) (by omega) d_Mo_rate_20 (by decide) rfl (fun h8 => ?_) (fun h8 => ?_)
    · -- pc 20 t
      exact absurd (mg_lt_in (show j < 9 by omega)) hx
    · -- pc 20 f
      refine mg_iconst X 24 2 d_Mo_rate_23 mg_ci_2 rfl ?_
      refine mg_goto X 28 d_Mo_rate_24 (by decide) ?_
      refine mg_callVi X hK hw hA 31 [0] 0 (fun _ => [mg_ob mh 6 [.int (nI (2)), .int (nI (np)), .int (nI (nf)), .int (nI (nc)), .ref (qor), .ref (qfa), .ref (qmo), .int (nI (nm)), .ref (qwt), .ref (qrt), .ref (qnw), .ref (qsn), .ref (qlt), .ref (qkn), .ref (qft), .ref (qbf), .ref (qbh), .ref (qjt), .ref (qot), .ref (qsm), .ref (qpt), .ref (qpr), .ref (qch), .ref (qbt), .int (nI (wr)), .ref (qpg)]]) rfl rfl (k_Mo_refused l D K mh qor qfa qmo qwt qrt qnw qsn qlt qkn qft qbf qbh qjt qot qsm qpt qpr qch qbt qpg flt np nf nc nm wr 2 (by omega)) g_Mo_96 ⟨by decide, by decide⟩ ⟨rfl, rfl⟩ rfl rfl rfl hl.1 (rest := []) (As := [.int (nI (2))]) rfl (Nat.le_of_ble_eq_true rfl) d_Mo_rate_28 ⟨Nat.zero_le _, Nat.zero_le _⟩ (fun _ => rfl) (fun _ => rfl) rfl ?_
      intro r _ H locs hp9 hw
      subst hp9
      refine mg_bif_eq X 36 34 d_Mo_rate_31 (by decide) rfl (fun b10 => absurd b10 (by decide)) (fun _ => ?_)
      refine mg_iconst X 35 0 d_Mo_rate_34 mg_ci_0 rfl ?_
      exact mg_iret X hr hlk (rfl) (()) (rfl) hw d_Mo_rate_35

set_option maxRecDepth 100000 in
set_option maxHeartbeats 4000000 in
theorem k_Mo_rate (l : Launch) (D : va_G) (K : Nat → ClassId) (mh : Nat) (qor : Nat) (qfa : Nat) (qmo : Nat) (qwt : Nat) (qrt : Nat) (qnw : Nat) (qsn : Nat) (qlt : Nat) (qkn : Nat) (qft : Nat) (qbf : Nat) (qbh : Nat) (qjt : Nat) (qot : Nat) (qsm : Nat) (qpt : Nat) (qpr : Nat) (qch : Nat) (qbt : Nat) (qpg : Nat) (flt : Nat) (np : Nat) (nf : Nat) (nc : Nat) (nm : Nat) (wr : Nat) (mr : Nat → Nat) (g1 : Nat) (k1 : Nat) (hnm4 : nm ≤ 4) (hg : g1 + 1 < nm) (hk : k1 ≤ 8) : mg_Mi l D K y_Mo_rate b_Mo_rate 4 (.int) ({ frames := 1, cells := 0, slots := 0, locals := 21 }) [.ref (mh), .int (nI (g1)), .int (nI (k1))] [mg_ob mh 6 [.int (nI (flt)), .int (nI (np)), .int (nI (nf)), .int (nI (nc)), .ref (qor), .ref (qfa), .ref (qmo), .int (nI (nm)), .ref (qwt), .ref (qrt), .ref (qnw), .ref (qsn), .ref (qlt), .ref (qkn), .ref (qft), .ref (qbf), .ref (qbh), .ref (qjt), .ref (qot), .ref (qsm), .ref (qpt), .ref (qpr), .ref (qch), .ref (qbt), .int (nI (wr)), .ref (qpg)], mg_ai K qrt 4 mr] (fun (r : Int32) (_ : Unit) => r = nI (mr g1)) (fun (_ : Unit) => [mg_ob mh 6 [.int (nI (0)), .int (nI (np)), .int (nI (nf)), .int (nI (nc)), .ref (qor), .ref (qfa), .ref (qmo), .int (nI (nm)), .ref (qwt), .ref (qrt), .ref (qnw), .ref (qsn), .ref (qlt), .ref (qkn), .ref (qft), .ref (qbf), .ref (qbh), .ref (qjt), .ref (qot), .ref (qsm), .ref (qpt), .ref (qpr), .ref (qch), .ref (qbt), .int (nI (wr)), .ref (qpg)], mg_ai K qrt 4 (va_up mr g1 k1)]) := by
  intro sz
  refine mg_entry (Qc := fun A => va_Qi (fun (r : Int32) (_ : Unit) => r = nI (mr g1)) (mg_B D A (fun (_ : Unit) => [mg_ob mh 6 [.int (nI (0)), .int (nI (np)), .int (nI (nf)), .int (nI (nc)), .ref (qor), .ref (qfa), .ref (qmo), .int (nI (nm)), .ref (qwt), .ref (qrt), .ref (qnw), .ref (qsn), .ref (qlt), .ref (qkn), .ref (qft), .ref (qbf), .ref (qbh), .ref (qjt), .ref (qot), .ref (qsm), .ref (qpt), .ref (qpr), .ref (qch), .ref (qbt), .int (nI (wr)), .ref (qpg)], mg_ai K qrt 4 (va_up mr g1 k1)])) A) (by decide) (Nat.le_of_ble_eq_true rfl) ?_
  intro p e s m args below meth c A ls X hr hlk hnm hA hK hw hl
  have hl : lv_has ls 4 [(0, .ref (mh)), (1, .int (nI (g1))), (2, .int (nI (k1)))] := hl
  refine mg_aload_n X 1 d_Mo_rate_0 (lv_at hl 0 rfl) rfl ?_
  refine mg_aload_n X 2 d_Mo_rate_1 (lv_at hl 0 rfl) rfl ?_
  refine mg_iload_n X 3 d_Mo_rate_2 (lv_at hl 1 rfl) rfl ?_
  refine mg_callVi X hK hw hA 6 [0] 0 (fun _ => [mg_ob mh 6 [.int (nI (flt)), .int (nI (np)), .int (nI (nf)), .int (nI (nc)), .ref (qor), .ref (qfa), .ref (qmo), .int (nI (nm)), .ref (qwt), .ref (qrt), .ref (qnw), .ref (qsn), .ref (qlt), .ref (qkn), .ref (qft), .ref (qbf), .ref (qbh), .ref (qjt), .ref (qot), .ref (qsm), .ref (qpt), .ref (qpr), .ref (qch), .ref (qbt), .int (nI (wr)), .ref (qpg)], mg_ai K qrt 4 mr]) rfl rfl (k_Mo_isGap l D K mh qor qfa qmo qwt qrt qnw qsn qlt qkn qft qbf qbh qjt qot qsm qpt qpr qch qbt qpg flt np nf nc nm wr (nI g1) (by omega)) g_Mo_106 ⟨by decide, by decide⟩ ⟨rfl, rfl⟩ rfl rfl rfl hl.1 (rest := [.ref (mh)]) (As := [.int (nI (g1))]) rfl (Nat.le_of_ble_eq_true rfl) d_Mo_rate_3 ⟨Nat.zero_le _, Nat.zero_le _⟩ (fun _ => rfl) (fun _ => rfl) rfl ?_
  intro r _ H locs hp2 hw
  subst hp2
  refine mg_bif_ne X 13 9 d_Mo_rate_6 (by decide) rfl (fun _ => ?_) (fun b3 => absurd (mg_lt_in (by omega)) b3)
  refine mg_iload_n X 14 d_Mo_rate_13 (lv_at hl 2 rfl) rfl ?_
  refine mg_iflt_n X 17 (by omega) (tgt := 23) d_Mo_rate_14 (by decide) rfl ?_
  refine mg_iload_n X 18 d_Mo_rate_17 (lv_at hl 2 rfl) rfl ?_
  refine mg_bipush X 20 8 d_Mo_rate_18 mg_cb_8 rfl ?_
  refine mg_icmp_le X 27 23 (by omega) (by omega) d_Mo_rate_20 (by decide) rfl (fun b5 => ?_) (fun b5 => absurd b5 (by omega))
  refine mg_iconst X 28 0 d_Mo_rate_27 mg_ci_0 rfl ?_
  refine mg_callVi X hK hw hA 31 [0] 0 (fun _ => [mg_ob mh 6 [.int (nI (0)), .int (nI (np)), .int (nI (nf)), .int (nI (nc)), .ref (qor), .ref (qfa), .ref (qmo), .int (nI (nm)), .ref (qwt), .ref (qrt), .ref (qnw), .ref (qsn), .ref (qlt), .ref (qkn), .ref (qft), .ref (qbf), .ref (qbh), .ref (qjt), .ref (qot), .ref (qsm), .ref (qpt), .ref (qpr), .ref (qch), .ref (qbt), .int (nI (wr)), .ref (qpg)], mg_ai K qrt 4 mr]) rfl rfl (k_Mo_refused l D K mh qor qfa qmo qwt qrt qnw qsn qlt qkn qft qbf qbh qjt qot qsm qpt qpr qch qbt qpg flt np nf nc nm wr 0 (by omega)) g_Mo_96 ⟨by decide, by decide⟩ ⟨rfl, rfl⟩ rfl rfl rfl hl.1 (rest := []) (As := [.int (nI (0))]) rfl (Nat.le_of_ble_eq_true rfl) d_Mo_rate_28 ⟨Nat.zero_le _, Nat.zero_le _⟩ (fun _ => rfl) (fun _ => rfl) rfl ?_
  intro r _ H locs hp7 hw
  subst hp7
  refine mg_bif_eq X 36 34 d_Mo_rate_31 (by decide) rfl (fun _ => ?_) (fun b8 => absurd b8 (by decide))
  refine mg_aload_n X 37 d_Mo_rate_36 (lv_at hl 0 rfl) rfl ?_
  refine mg_get X hK hw 40 0 9 f_Mo_22 rfl rfl d_Mo_rate_37 rfl ?_
  refine mg_iload_n X 41 d_Mo_rate_40 (lv_at hl 1 rfl) rfl ?_
  refine mg_iald X hK hw 42 1 rfl (by omega) (by omega) d_Mo_rate_41 rfl ?_
  refine mg_istore_n X 43 [(3, .int (nI (mr g1))), (0, .ref (mh)), (1, .int (nI (g1))), (2, .int (nI (k1)))] d_Mo_rate_42 hl (by decide) rfl rfl (fun ls hl => ?_)
  refine mg_aload_n X 44 d_Mo_rate_43 (lv_at hl 1 rfl) rfl ?_
  refine mg_get X hK hw 47 0 9 f_Mo_22 rfl rfl d_Mo_rate_44 rfl ?_
  refine mg_iload_n X 48 d_Mo_rate_47 (lv_at hl 2 rfl) rfl ?_
  refine mg_iload_n X 49 d_Mo_rate_48 (lv_at hl 3 rfl) rfl ?_
  refine mg_iast X hK hw 50 1 [mg_ob mh 6 [.int (nI (0)), .int (nI (np)), .int (nI (nf)), .int (nI (nc)), .ref (qor), .ref (qfa), .ref (qmo), .int (nI (nm)), .ref (qwt), .ref (qrt), .ref (qnw), .ref (qsn), .ref (qlt), .ref (qkn), .ref (qft), .ref (qbf), .ref (qbh), .ref (qjt), .ref (qot), .ref (qsm), .ref (qpt), .ref (qpr), .ref (qch), .ref (qbt), .int (nI (wr)), .ref (qpg)], mg_ai K qrt 4 (va_up mr g1 k1)] rfl (by omega) (by omega) d_Mo_rate_49 rfl rfl (fun H locs hw => ?_)
  refine mg_iload_n X 51 d_Mo_rate_50 (lv_at hl 0 rfl) rfl ?_
  exact mg_iret X hr hlk (rfl) (()) (rfl) hw d_Mo_rate_51

set_option maxRecDepth 100000 in
set_option maxHeartbeats 4000000 in
theorem k_Mo_seeN1 (l : Launch) (D : va_G) (K : Nat → ClassId) (mh : Nat) (qor : Nat) (qfa : Nat) (qmo : Nat) (qwt : Nat) (qrt : Nat) (qnw : Nat) (qsn : Nat) (qlt : Nat) (qkn : Nat) (qft : Nat) (qbf : Nat) (qbh : Nat) (qjt : Nat) (qot : Nat) (qsm : Nat) (qpt : Nat) (qpr : Nat) (qch : Nat) (qbt : Nat) (qpg : Nat) (flt : Nat) (np : Nat) (nf : Nat) (nc : Nat) (nm : Nat) (wr : Nat) (p1 : Int32) (m1 : Int32) (o1 : Int32) (t1 : Int32) (hnm4 : nm ≤ 4) (hnp6 : np ≤ 6) (hx : ¬ (mg_lt p1 np ∧ mg_lt m1 nm)) : mg_Mv l D K y_Mo_see b_Mo_see 6 ({ frames := 1, cells := 0, slots := 0, locals := 21 }) [.ref (mh), .int (p1), .int (m1), .int (o1), .int (t1)] [mg_ob mh 6 [.int (nI (flt)), .int (nI (np)), .int (nI (nf)), .int (nI (nc)), .ref (qor), .ref (qfa), .ref (qmo), .int (nI (nm)), .ref (qwt), .ref (qrt), .ref (qnw), .ref (qsn), .ref (qlt), .ref (qkn), .ref (qft), .ref (qbf), .ref (qbh), .ref (qjt), .ref (qot), .ref (qsm), .ref (qpt), .ref (qpr), .ref (qch), .ref (qbt), .int (nI (wr)), .ref (qpg)]] (fun (_ : Unit) => True) (fun (_ : Unit) => [mg_ob mh 6 [.int (nI (1)), .int (nI (np)), .int (nI (nf)), .int (nI (nc)), .ref (qor), .ref (qfa), .ref (qmo), .int (nI (nm)), .ref (qwt), .ref (qrt), .ref (qnw), .ref (qsn), .ref (qlt), .ref (qkn), .ref (qft), .ref (qbf), .ref (qbh), .ref (qjt), .ref (qot), .ref (qsm), .ref (qpt), .ref (qpr), .ref (qch), .ref (qbt), .int (nI (wr)), .ref (qpg)]]) := by
  intro sz
  refine mg_entry (Qc := fun A => va_Qv (fun (_ : Unit) => True) (mg_B D A (fun (_ : Unit) => [mg_ob mh 6 [.int (nI (1)), .int (nI (np)), .int (nI (nf)), .int (nI (nc)), .ref (qor), .ref (qfa), .ref (qmo), .int (nI (nm)), .ref (qwt), .ref (qrt), .ref (qnw), .ref (qsn), .ref (qlt), .ref (qkn), .ref (qft), .ref (qbf), .ref (qbh), .ref (qjt), .ref (qot), .ref (qsm), .ref (qpt), .ref (qpr), .ref (qch), .ref (qbt), .int (nI (wr)), .ref (qpg)]])) A) (by decide) (Nat.le_of_ble_eq_true rfl) ?_
  intro p e s m args below meth c A ls X hr hlk hnm hA hK hw hl
  have hl : lv_has ls 6 [(0, .ref (mh)), (1, .int (p1)), (2, .int (m1)), (3, .int (o1)), (4, .int (t1))] := hl
  refine mg_aload_n X 1 d_Mo_see_0 (lv_at hl 0 rfl) rfl ?_
  refine mg_iload_n X 2 d_Mo_see_1 (lv_at hl 1 rfl) rfl ?_
  refine mg_callVi X hK hw hA 5 [0] 0 (fun _ => [mg_ob mh 6 [.int (nI (flt)), .int (nI (np)), .int (nI (nf)), .int (nI (nc)), .ref (qor), .ref (qfa), .ref (qmo), .int (nI (nm)), .ref (qwt), .ref (qrt), .ref (qnw), .ref (qsn), .ref (qlt), .ref (qkn), .ref (qft), .ref (qbf), .ref (qbh), .ref (qjt), .ref (qot), .ref (qsm), .ref (qpt), .ref (qpr), .ref (qch), .ref (qbt), .int (nI (wr)), .ref (qpg)]]) rfl rfl (k_Mo_isPerson l D K mh qor qfa qmo qwt qrt qnw qsn qlt qkn qft qbf qbh qjt qot qsm qpt qpr qch qbt qpg flt np nf nc nm wr p1 (by omega)) g_Mo_103 ⟨by decide, by decide⟩ ⟨rfl, rfl⟩ rfl rfl rfl hl.1 (rest := []) (As := [.int (p1)]) rfl (Nat.le_of_ble_eq_true rfl) d_Mo_see_2 ⟨Nat.zero_le _, Nat.zero_le _⟩ (fun _ => rfl) (fun _ => rfl) rfl ?_
  intro r _ H locs hp2 hw
  subst hp2
  refine mg_bif_eq X 20 8 d_Mo_see_5 (by decide) rfl (fun b3 => ?_) (fun b3 => ?_)
  · -- pc 5 t
    refine mg_iconst X 21 0 d_Mo_see_20 mg_ci_0 rfl ?_
    refine mg_istore X 23 [(5, .int (nI (0))), (0, .ref (mh)), (1, .int (p1)), (2, .int (m1)), (3, .int (o1)), (4, .int (t1))] d_Mo_see_21 hl (by decide) rfl rfl (fun ls hl => ?_)
    refine mg_aload_n X 24 d_Mo_see_23 (lv_at hl 1 rfl) rfl ?_
    refine mg_iload X 26 d_Mo_see_24 (lv_at hl 0 rfl) rfl ?_
    refine mg_if_ne X 33 29 (by decide) d_Mo_see_26 (by decide) rfl (fun b4 => absurd b4 (by decide)) (fun _ => ?_)
    refine mg_iconst X 30 1 d_Mo_see_29 mg_ci_1 rfl ?_
    refine mg_goto X 53 d_Mo_see_30 (by decide) ?_
    refine mg_callVi X hK hw hA 56 [0] 0 (fun _ => [mg_ob mh 6 [.int (nI (1)), .int (nI (np)), .int (nI (nf)), .int (nI (nc)), .ref (qor), .ref (qfa), .ref (qmo), .int (nI (nm)), .ref (qwt), .ref (qrt), .ref (qnw), .ref (qsn), .ref (qlt), .ref (qkn), .ref (qft), .ref (qbf), .ref (qbh), .ref (qjt), .ref (qot), .ref (qsm), .ref (qpt), .ref (qpr), .ref (qch), .ref (qbt), .int (nI (wr)), .ref (qpg)]]) rfl rfl (k_Mo_refused l D K mh qor qfa qmo qwt qrt qnw qsn qlt qkn qft qbf qbh qjt qot qsm qpt qpr qch qbt qpg flt np nf nc nm wr 1 (by omega)) g_Mo_96 ⟨by decide, by decide⟩ ⟨rfl, rfl⟩ rfl rfl rfl hl.1 (rest := []) (As := [.int (nI (1))]) rfl (Nat.le_of_ble_eq_true rfl) d_Mo_see_53 ⟨Nat.zero_le _, Nat.zero_le _⟩ (fun _ => rfl) (fun _ => rfl) rfl ?_
    intro r _ H locs hp6 hw
    subst hp6
    refine mg_bif_eq X 60 59 d_Mo_see_56 (by decide) rfl (fun b7 => absurd b7 (by decide)) (fun _ => ?_)
    exact mg_vret X hr hlk (()) (trivial) hw d_Mo_see_59
  · -- pc 5 f
    obtain ⟨jp1, hp1, rfl⟩ := b3
    refine mg_aload_n X 9 d_Mo_see_8 (lv_at hl 0 rfl) rfl ?_
    refine mg_iload_n X 10 d_Mo_see_9 (lv_at hl 2 rfl) rfl ?_
    refine mg_callVi X hK hw hA 13 [0] 0 (fun _ => [mg_ob mh 6 [.int (nI (flt)), .int (nI (np)), .int (nI (nf)), .int (nI (nc)), .ref (qor), .ref (qfa), .ref (qmo), .int (nI (nm)), .ref (qwt), .ref (qrt), .ref (qnw), .ref (qsn), .ref (qlt), .ref (qkn), .ref (qft), .ref (qbf), .ref (qbh), .ref (qjt), .ref (qot), .ref (qsm), .ref (qpt), .ref (qpr), .ref (qch), .ref (qbt), .int (nI (wr)), .ref (qpg)]]) rfl rfl (k_Mo_isMarker l D K mh qor qfa qmo qwt qrt qnw qsn qlt qkn qft qbf qbh qjt qot qsm qpt qpr qch qbt qpg flt np nf nc nm wr m1 (by omega)) g_Mo_109 ⟨by decide, by decide⟩ ⟨rfl, rfl⟩ rfl rfl rfl hl.1 (rest := []) (As := [.int (m1)]) rfl (Nat.le_of_ble_eq_true rfl) d_Mo_see_10 ⟨Nat.zero_le _, Nat.zero_le _⟩ (fun _ => rfl) (fun _ => rfl) rfl ?_
    intro r _ H locs hp9 hw
    subst hp9
    refine mg_bif_eq X 20 16 d_Mo_see_13 (by decide) rfl (fun b10 => ?_) (fun b10 => ?_)
    · -- pc 13 t
      refine mg_iconst X 21 0 d_Mo_see_20 mg_ci_0 rfl ?_
      refine mg_istore X 23 [(5, .int (nI (0))), (0, .ref (mh)), (1, .int (nI (jp1))), (2, .int (m1)), (3, .int (o1)), (4, .int (t1))] d_Mo_see_21 hl (by decide) rfl rfl (fun ls hl => ?_)
      refine mg_aload_n X 24 d_Mo_see_23 (lv_at hl 1 rfl) rfl ?_
      refine mg_iload X 26 d_Mo_see_24 (lv_at hl 0 rfl) rfl ?_
      refine mg_if_ne X 33 29 (by decide) d_Mo_see_26 (by decide) rfl (fun b11 => absurd b11 (by decide)) (fun _ => ?_)
      refine mg_iconst X 30 1 d_Mo_see_29 mg_ci_1 rfl ?_
      refine mg_goto X 53 d_Mo_see_30 (by decide) ?_
      refine mg_callVi X hK hw hA 56 [0] 0 (fun _ => [mg_ob mh 6 [.int (nI (1)), .int (nI (np)), .int (nI (nf)), .int (nI (nc)), .ref (qor), .ref (qfa), .ref (qmo), .int (nI (nm)), .ref (qwt), .ref (qrt), .ref (qnw), .ref (qsn), .ref (qlt), .ref (qkn), .ref (qft), .ref (qbf), .ref (qbh), .ref (qjt), .ref (qot), .ref (qsm), .ref (qpt), .ref (qpr), .ref (qch), .ref (qbt), .int (nI (wr)), .ref (qpg)]]) rfl rfl (k_Mo_refused l D K mh qor qfa qmo qwt qrt qnw qsn qlt qkn qft qbf qbh qjt qot qsm qpt qpr qch qbt qpg flt np nf nc nm wr 1 (by omega)) g_Mo_96 ⟨by decide, by decide⟩ ⟨rfl, rfl⟩ rfl rfl rfl hl.1 (rest := []) (As := [.int (nI (1))]) rfl (Nat.le_of_ble_eq_true rfl) d_Mo_see_53 ⟨Nat.zero_le _, Nat.zero_le _⟩ (fun _ => rfl) (fun _ => rfl) rfl ?_
      intro r _ H locs hp13 hw
      subst hp13
      refine mg_bif_eq X 60 59 d_Mo_see_56 (by decide) rfl (fun b14 => absurd b14 (by decide)) (fun _ => ?_)
      exact mg_vret X hr hlk (()) (trivial) hw d_Mo_see_59
    · -- pc 13 f
      obtain ⟨jm1, hm1, rfl⟩ := b10
      exact absurd ⟨⟨jp1, hp1, rfl⟩, ⟨jm1, hm1, rfl⟩⟩ hx

set_option maxRecDepth 100000 in
set_option maxHeartbeats 4000000 in
theorem k_Mo_seeN2 (l : Launch) (D : va_G) (K : Nat → ClassId) (mh : Nat) (qor : Nat) (qfa : Nat) (qmo : Nat) (qwt : Nat) (qrt : Nat) (qnw : Nat) (qsn : Nat) (qlt : Nat) (qkn : Nat) (qft : Nat) (qbf : Nat) (qbh : Nat) (qjt : Nat) (qot : Nat) (qsm : Nat) (qpt : Nat) (qpr : Nat) (qch : Nat) (qbt : Nat) (qpg : Nat) (flt : Nat) (np : Nat) (nf : Nat) (nc : Nat) (nm : Nat) (wr : Nat) (p1 : Nat) (m1 : Nat) (o1 : Int32) (t1 : Int32) (hnm4 : nm ≤ 4) (hnp6 : np ≤ 6) (hp1 : p1 < np) (hm1 : m1 < nm) (hx : ¬ (mg_bt o1 1 3 ∧ mg_bt t1 1 3)) : mg_Mv l D K y_Mo_see b_Mo_see 6 ({ frames := 1, cells := 0, slots := 0, locals := 21 }) [.ref (mh), .int (nI (p1)), .int (nI (m1)), .int (o1), .int (t1)] [mg_ob mh 6 [.int (nI (flt)), .int (nI (np)), .int (nI (nf)), .int (nI (nc)), .ref (qor), .ref (qfa), .ref (qmo), .int (nI (nm)), .ref (qwt), .ref (qrt), .ref (qnw), .ref (qsn), .ref (qlt), .ref (qkn), .ref (qft), .ref (qbf), .ref (qbh), .ref (qjt), .ref (qot), .ref (qsm), .ref (qpt), .ref (qpr), .ref (qch), .ref (qbt), .int (nI (wr)), .ref (qpg)]] (fun (_ : Unit) => True) (fun (_ : Unit) => [mg_ob mh 6 [.int (nI (2)), .int (nI (np)), .int (nI (nf)), .int (nI (nc)), .ref (qor), .ref (qfa), .ref (qmo), .int (nI (nm)), .ref (qwt), .ref (qrt), .ref (qnw), .ref (qsn), .ref (qlt), .ref (qkn), .ref (qft), .ref (qbf), .ref (qbh), .ref (qjt), .ref (qot), .ref (qsm), .ref (qpt), .ref (qpr), .ref (qch), .ref (qbt), .int (nI (wr)), .ref (qpg)]]) := by
  intro sz
  refine mg_entry (Qc := fun A => va_Qv (fun (_ : Unit) => True) (mg_B D A (fun (_ : Unit) => [mg_ob mh 6 [.int (nI (2)), .int (nI (np)), .int (nI (nf)), .int (nI (nc)), .ref (qor), .ref (qfa), .ref (qmo), .int (nI (nm)), .ref (qwt), .ref (qrt), .ref (qnw), .ref (qsn), .ref (qlt), .ref (qkn), .ref (qft), .ref (qbf), .ref (qbh), .ref (qjt), .ref (qot), .ref (qsm), .ref (qpt), .ref (qpr), .ref (qch), .ref (qbt), .int (nI (wr)), .ref (qpg)]])) A) (by decide) (Nat.le_of_ble_eq_true rfl) ?_
  intro p e s m args below meth c A ls X hr hlk hnm hA hK hw hl
  have hl : lv_has ls 6 [(0, .ref (mh)), (1, .int (nI (p1))), (2, .int (nI (m1))), (3, .int (o1)), (4, .int (t1))] := hl
  refine mg_aload_n X 1 d_Mo_see_0 (lv_at hl 0 rfl) rfl ?_
  refine mg_iload_n X 2 d_Mo_see_1 (lv_at hl 1 rfl) rfl ?_
  refine mg_callVi X hK hw hA 5 [0] 0 (fun _ => [mg_ob mh 6 [.int (nI (flt)), .int (nI (np)), .int (nI (nf)), .int (nI (nc)), .ref (qor), .ref (qfa), .ref (qmo), .int (nI (nm)), .ref (qwt), .ref (qrt), .ref (qnw), .ref (qsn), .ref (qlt), .ref (qkn), .ref (qft), .ref (qbf), .ref (qbh), .ref (qjt), .ref (qot), .ref (qsm), .ref (qpt), .ref (qpr), .ref (qch), .ref (qbt), .int (nI (wr)), .ref (qpg)]]) rfl rfl (k_Mo_isPerson l D K mh qor qfa qmo qwt qrt qnw qsn qlt qkn qft qbf qbh qjt qot qsm qpt qpr qch qbt qpg flt np nf nc nm wr (nI p1) (by omega)) g_Mo_103 ⟨by decide, by decide⟩ ⟨rfl, rfl⟩ rfl rfl rfl hl.1 (rest := []) (As := [.int (nI (p1))]) rfl (Nat.le_of_ble_eq_true rfl) d_Mo_see_2 ⟨Nat.zero_le _, Nat.zero_le _⟩ (fun _ => rfl) (fun _ => rfl) rfl ?_
  intro r _ H locs hp2 hw
  subst hp2
  refine mg_bif_eq X 20 8 d_Mo_see_5 (by decide) rfl (fun b3 => absurd (mg_lt_in hp1) b3) (fun _ => ?_)
  refine mg_aload_n X 9 d_Mo_see_8 (lv_at hl 0 rfl) rfl ?_
  refine mg_iload_n X 10 d_Mo_see_9 (lv_at hl 2 rfl) rfl ?_
  refine mg_callVi X hK hw hA 13 [0] 0 (fun _ => [mg_ob mh 6 [.int (nI (flt)), .int (nI (np)), .int (nI (nf)), .int (nI (nc)), .ref (qor), .ref (qfa), .ref (qmo), .int (nI (nm)), .ref (qwt), .ref (qrt), .ref (qnw), .ref (qsn), .ref (qlt), .ref (qkn), .ref (qft), .ref (qbf), .ref (qbh), .ref (qjt), .ref (qot), .ref (qsm), .ref (qpt), .ref (qpr), .ref (qch), .ref (qbt), .int (nI (wr)), .ref (qpg)]]) rfl rfl (k_Mo_isMarker l D K mh qor qfa qmo qwt qrt qnw qsn qlt qkn qft qbf qbh qjt qot qsm qpt qpr qch qbt qpg flt np nf nc nm wr (nI m1) (by omega)) g_Mo_109 ⟨by decide, by decide⟩ ⟨rfl, rfl⟩ rfl rfl rfl hl.1 (rest := []) (As := [.int (nI (m1))]) rfl (Nat.le_of_ble_eq_true rfl) d_Mo_see_10 ⟨Nat.zero_le _, Nat.zero_le _⟩ (fun _ => rfl) (fun _ => rfl) rfl ?_
  intro r _ H locs hp5 hw
  subst hp5
  refine mg_bif_eq X 20 16 d_Mo_see_13 (by decide) rfl (fun b6 => absurd (mg_lt_in hm1) b6) (fun _ => ?_)
  refine mg_iconst X 17 1 d_Mo_see_16 mg_ci_1 rfl ?_
  refine mg_goto X 21 d_Mo_see_17 (by decide) ?_
  refine mg_istore X 23 [(5, .int (nI (1))), (0, .ref (mh)), (1, .int (nI (p1))), (2, .int (nI (m1))), (3, .int (o1)), (4, .int (t1))] d_Mo_see_21 hl (by decide) rfl rfl (fun ls hl => ?_)
  refine mg_aload_n X 24 d_Mo_see_23 (lv_at hl 1 rfl) rfl ?_
  refine mg_iload X 26 d_Mo_see_24 (lv_at hl 0 rfl) rfl ?_
  refine mg_if_ne X 33 29 (by decide) d_Mo_see_26 (by decide) rfl (fun _ => ?_) (fun b7 => absurd b7 (by decide))
  refine mg_iload_n X 34 d_Mo_see_33 (lv_at hl 4 rfl) rfl ?_
  refine mg_callSi X hK hw hA 37 [] (fun _ => [mg_ob mh 6 [.int (nI (flt)), .int (nI (np)), .int (nI (nf)), .int (nI (nc)), .ref (qor), .ref (qfa), .ref (qmo), .int (nI (nm)), .ref (qwt), .ref (qrt), .ref (qnw), .ref (qsn), .ref (qlt), .ref (qkn), .ref (qft), .ref (qbf), .ref (qbh), .ref (qjt), .ref (qot), .ref (qsm), .ref (qpt), .ref (qpr), .ref (qch), .ref (qbt), .int (nI (wr)), .ref (qpg)]]) (k_Mo_isLetter l D K o1 ) g_Mo_112 ⟨by decide, by decide⟩ ⟨rfl, rfl⟩ rfl rfl rfl hl.1 (rest := [.ref (mh)]) (As := [.int (o1)]) rfl (Nat.le_of_ble_eq_true rfl) d_Mo_see_34 ⟨Nat.zero_le _, Nat.zero_le _⟩ (fun _ => rfl) (fun _ => rfl) rfl ?_
  intro r _ H locs hp9 hw
  subst hp9
  refine mg_bif_eq X 48 40 d_Mo_see_37 (by decide) rfl (fun b10 => ?_) (fun b10 => ?_)
  · -- pc 37 t
    refine mg_iconst X 49 2 d_Mo_see_48 mg_ci_2 rfl ?_
    refine mg_goto X 53 d_Mo_see_49 (by decide) ?_
    refine mg_callVi X hK hw hA 56 [0] 0 (fun _ => [mg_ob mh 6 [.int (nI (2)), .int (nI (np)), .int (nI (nf)), .int (nI (nc)), .ref (qor), .ref (qfa), .ref (qmo), .int (nI (nm)), .ref (qwt), .ref (qrt), .ref (qnw), .ref (qsn), .ref (qlt), .ref (qkn), .ref (qft), .ref (qbf), .ref (qbh), .ref (qjt), .ref (qot), .ref (qsm), .ref (qpt), .ref (qpr), .ref (qch), .ref (qbt), .int (nI (wr)), .ref (qpg)]]) rfl rfl (k_Mo_refused l D K mh qor qfa qmo qwt qrt qnw qsn qlt qkn qft qbf qbh qjt qot qsm qpt qpr qch qbt qpg flt np nf nc nm wr 2 (by omega)) g_Mo_96 ⟨by decide, by decide⟩ ⟨rfl, rfl⟩ rfl rfl rfl hl.1 (rest := []) (As := [.int (nI (2))]) rfl (Nat.le_of_ble_eq_true rfl) d_Mo_see_53 ⟨Nat.zero_le _, Nat.zero_le _⟩ (fun _ => rfl) (fun _ => rfl) rfl ?_
    intro r _ H locs hp12 hw
    subst hp12
    refine mg_bif_eq X 60 59 d_Mo_see_56 (by decide) rfl (fun b13 => absurd b13 (by decide)) (fun _ => ?_)
    exact mg_vret X hr hlk (()) (trivial) hw d_Mo_see_59
  · -- pc 37 f
    obtain ⟨jo1, ho1, rfl⟩ := b10
    refine mg_iload X 42 d_Mo_see_40 (lv_at hl 5 rfl) rfl ?_
    refine mg_callSi X hK hw hA 45 [] (fun _ => [mg_ob mh 6 [.int (nI (flt)), .int (nI (np)), .int (nI (nf)), .int (nI (nc)), .ref (qor), .ref (qfa), .ref (qmo), .int (nI (nm)), .ref (qwt), .ref (qrt), .ref (qnw), .ref (qsn), .ref (qlt), .ref (qkn), .ref (qft), .ref (qbf), .ref (qbh), .ref (qjt), .ref (qot), .ref (qsm), .ref (qpt), .ref (qpr), .ref (qch), .ref (qbt), .int (nI (wr)), .ref (qpg)]]) (k_Mo_isLetter l D K t1 ) g_Mo_112 ⟨by decide, by decide⟩ ⟨rfl, rfl⟩ rfl rfl rfl hl.1 (rest := [.ref (mh)]) (As := [.int (t1)]) rfl (Nat.le_of_ble_eq_true rfl) d_Mo_see_42 ⟨Nat.zero_le _, Nat.zero_le _⟩ (fun _ => rfl) (fun _ => rfl) rfl ?_
    intro r _ H locs hp15 hw
    subst hp15
    refine mg_bif_ne X 52 48 d_Mo_see_45 (by decide) rfl (fun b16 => ?_) (fun b16 => ?_)
    · -- pc 45 t
      obtain ⟨jt1, ht1, rfl⟩ := b16
      exact absurd ⟨⟨jo1, ho1, rfl⟩, ⟨jt1, ht1, rfl⟩⟩ hx
    · -- pc 45 f
      refine mg_iconst X 49 2 d_Mo_see_48 mg_ci_2 rfl ?_
      refine mg_goto X 53 d_Mo_see_49 (by decide) ?_
      refine mg_callVi X hK hw hA 56 [0] 0 (fun _ => [mg_ob mh 6 [.int (nI (2)), .int (nI (np)), .int (nI (nf)), .int (nI (nc)), .ref (qor), .ref (qfa), .ref (qmo), .int (nI (nm)), .ref (qwt), .ref (qrt), .ref (qnw), .ref (qsn), .ref (qlt), .ref (qkn), .ref (qft), .ref (qbf), .ref (qbh), .ref (qjt), .ref (qot), .ref (qsm), .ref (qpt), .ref (qpr), .ref (qch), .ref (qbt), .int (nI (wr)), .ref (qpg)]]) rfl rfl (k_Mo_refused l D K mh qor qfa qmo qwt qrt qnw qsn qlt qkn qft qbf qbh qjt qot qsm qpt qpr qch qbt qpg flt np nf nc nm wr 2 (by omega)) g_Mo_96 ⟨by decide, by decide⟩ ⟨rfl, rfl⟩ rfl rfl rfl hl.1 (rest := []) (As := [.int (nI (2))]) rfl (Nat.le_of_ble_eq_true rfl) d_Mo_see_53 ⟨Nat.zero_le _, Nat.zero_le _⟩ (fun _ => rfl) (fun _ => rfl) rfl ?_
      intro r _ H locs hp18 hw
      subst hp18
      refine mg_bif_eq X 60 59 d_Mo_see_56 (by decide) rfl (fun b19 => absurd b19 (by decide)) (fun _ => ?_)
      exact mg_vret X hr hlk (()) (trivial) hw d_Mo_see_59

set_option maxRecDepth 100000 in
set_option maxHeartbeats 4000000 in
theorem k_Mo_see (l : Launch) (D : va_G) (K : Nat → ClassId) (mh : Nat) (qor : Nat) (qfa : Nat) (qmo : Nat) (qwt : Nat) (qrt : Nat) (qnw : Nat) (qsn : Nat) (qlt : Nat) (qkn : Nat) (qft : Nat) (qbf : Nat) (qbh : Nat) (qjt : Nat) (qot : Nat) (qsm : Nat) (qpt : Nat) (qpr : Nat) (qch : Nat) (qbt : Nat) (qpg : Nat) (flt : Nat) (np : Nat) (nf : Nat) (nc : Nat) (nm : Nat) (wr : Nat) (sn : Nat → Nat) (kn : Nat → Nat) (p1 : Nat) (m1 : Nat) (o1 : Nat) (t1 : Nat) (hnm4 : nm ≤ 4) (hnp6 : np ≤ 6) (hp1 : p1 < np) (hm1 : m1 < nm) (ho1 : 1 ≤ o1 ∧ o1 ≤ 3) (ht1 : 1 ≤ t1 ∧ t1 ≤ 3) : mg_Mv l D K y_Mo_see b_Mo_see 6 ({ frames := 1, cells := 0, slots := 0, locals := 21 }) [.ref (mh), .int (nI (p1)), .int (nI (m1)), .int (nI (o1)), .int (nI (t1))] [mg_ob mh 6 [.int (nI (flt)), .int (nI (np)), .int (nI (nf)), .int (nI (nc)), .ref (qor), .ref (qfa), .ref (qmo), .int (nI (nm)), .ref (qwt), .ref (qrt), .ref (qnw), .ref (qsn), .ref (qlt), .ref (qkn), .ref (qft), .ref (qbf), .ref (qbh), .ref (qjt), .ref (qot), .ref (qsm), .ref (qpt), .ref (qpr), .ref (qch), .ref (qbt), .int (nI (wr)), .ref (qpg)], mg_ai K qsn 24 sn, mg_az K qkn 4 kn] (fun (_ : Unit) => True) (fun (_ : Unit) => [mg_ob mh 6 [.int (nI (0)), .int (nI (np)), .int (nI (nf)), .int (nI (nc)), .ref (qor), .ref (qfa), .ref (qmo), .int (nI (nm)), .ref (qwt), .ref (qrt), .ref (qnw), .ref (qsn), .ref (qlt), .ref (qkn), .ref (qft), .ref (qbf), .ref (qbh), .ref (qjt), .ref (qot), .ref (qsm), .ref (qpt), .ref (qpr), .ref (qch), .ref (qbt), .int (nI (wr)), .ref (qpg)], mg_ai K qsn 24 (va_up sn (4 * p1 + m1) (mo_cd o1 t1)), mg_az K qkn 4 (va_up kn m1 0)]) := by
  intro sz
  refine mg_entry (Qc := fun A => va_Qv (fun (_ : Unit) => True) (mg_B D A (fun (_ : Unit) => [mg_ob mh 6 [.int (nI (0)), .int (nI (np)), .int (nI (nf)), .int (nI (nc)), .ref (qor), .ref (qfa), .ref (qmo), .int (nI (nm)), .ref (qwt), .ref (qrt), .ref (qnw), .ref (qsn), .ref (qlt), .ref (qkn), .ref (qft), .ref (qbf), .ref (qbh), .ref (qjt), .ref (qot), .ref (qsm), .ref (qpt), .ref (qpr), .ref (qch), .ref (qbt), .int (nI (wr)), .ref (qpg)], mg_ai K qsn 24 (va_up sn (4 * p1 + m1) (mo_cd o1 t1)), mg_az K qkn 4 (va_up kn m1 0)])) A) (by decide) (Nat.le_of_ble_eq_true rfl) ?_
  intro p e s m args below meth c A ls X hr hlk hnm hA hK hw hl
  have hl : lv_has ls 6 [(0, .ref (mh)), (1, .int (nI (p1))), (2, .int (nI (m1))), (3, .int (nI (o1))), (4, .int (nI (t1)))] := hl
  refine mg_aload_n X 1 d_Mo_see_0 (lv_at hl 0 rfl) rfl ?_
  refine mg_iload_n X 2 d_Mo_see_1 (lv_at hl 1 rfl) rfl ?_
  refine mg_callVi X hK hw hA 5 [0] 0 (fun _ => [mg_ob mh 6 [.int (nI (flt)), .int (nI (np)), .int (nI (nf)), .int (nI (nc)), .ref (qor), .ref (qfa), .ref (qmo), .int (nI (nm)), .ref (qwt), .ref (qrt), .ref (qnw), .ref (qsn), .ref (qlt), .ref (qkn), .ref (qft), .ref (qbf), .ref (qbh), .ref (qjt), .ref (qot), .ref (qsm), .ref (qpt), .ref (qpr), .ref (qch), .ref (qbt), .int (nI (wr)), .ref (qpg)], mg_ai K qsn 24 sn, mg_az K qkn 4 kn]) rfl rfl (k_Mo_isPerson l D K mh qor qfa qmo qwt qrt qnw qsn qlt qkn qft qbf qbh qjt qot qsm qpt qpr qch qbt qpg flt np nf nc nm wr (nI p1) (by omega)) g_Mo_103 ⟨by decide, by decide⟩ ⟨rfl, rfl⟩ rfl rfl rfl hl.1 (rest := []) (As := [.int (nI (p1))]) rfl (Nat.le_of_ble_eq_true rfl) d_Mo_see_2 ⟨Nat.zero_le _, Nat.zero_le _⟩ (fun _ => rfl) (fun _ => rfl) rfl ?_
  intro r _ H locs hp2 hw
  subst hp2
  refine mg_bif_eq X 20 8 d_Mo_see_5 (by decide) rfl (fun b3 => absurd (mg_lt_in hp1) b3) (fun _ => ?_)
  refine mg_aload_n X 9 d_Mo_see_8 (lv_at hl 0 rfl) rfl ?_
  refine mg_iload_n X 10 d_Mo_see_9 (lv_at hl 2 rfl) rfl ?_
  refine mg_callVi X hK hw hA 13 [0] 0 (fun _ => [mg_ob mh 6 [.int (nI (flt)), .int (nI (np)), .int (nI (nf)), .int (nI (nc)), .ref (qor), .ref (qfa), .ref (qmo), .int (nI (nm)), .ref (qwt), .ref (qrt), .ref (qnw), .ref (qsn), .ref (qlt), .ref (qkn), .ref (qft), .ref (qbf), .ref (qbh), .ref (qjt), .ref (qot), .ref (qsm), .ref (qpt), .ref (qpr), .ref (qch), .ref (qbt), .int (nI (wr)), .ref (qpg)], mg_ai K qsn 24 sn, mg_az K qkn 4 kn]) rfl rfl (k_Mo_isMarker l D K mh qor qfa qmo qwt qrt qnw qsn qlt qkn qft qbf qbh qjt qot qsm qpt qpr qch qbt qpg flt np nf nc nm wr (nI m1) (by omega)) g_Mo_109 ⟨by decide, by decide⟩ ⟨rfl, rfl⟩ rfl rfl rfl hl.1 (rest := []) (As := [.int (nI (m1))]) rfl (Nat.le_of_ble_eq_true rfl) d_Mo_see_10 ⟨Nat.zero_le _, Nat.zero_le _⟩ (fun _ => rfl) (fun _ => rfl) rfl ?_
  intro r _ H locs hp5 hw
  subst hp5
  refine mg_bif_eq X 20 16 d_Mo_see_13 (by decide) rfl (fun b6 => absurd (mg_lt_in hm1) b6) (fun _ => ?_)
  refine mg_iconst X 17 1 d_Mo_see_16 mg_ci_1 rfl ?_
  refine mg_goto X 21 d_Mo_see_17 (by decide) ?_
  refine mg_istore X 23 [(5, .int (nI (1))), (0, .ref (mh)), (1, .int (nI (p1))), (2, .int (nI (m1))), (3, .int (nI (o1))), (4, .int (nI (t1)))] d_Mo_see_21 hl (by decide) rfl rfl (fun ls hl => ?_)
  refine mg_aload_n X 24 d_Mo_see_23 (lv_at hl 1 rfl) rfl ?_
  refine mg_iload X 26 d_Mo_see_24 (lv_at hl 0 rfl) rfl ?_
  refine mg_if_ne X 33 29 (by decide) d_Mo_see_26 (by decide) rfl (fun _ => ?_) (fun b7 => absurd b7 (by decide))
  refine mg_iload_n X 34 d_Mo_see_33 (lv_at hl 4 rfl) rfl ?_
  refine mg_callSi X hK hw hA 37 [] (fun _ => [mg_ob mh 6 [.int (nI (flt)), .int (nI (np)), .int (nI (nf)), .int (nI (nc)), .ref (qor), .ref (qfa), .ref (qmo), .int (nI (nm)), .ref (qwt), .ref (qrt), .ref (qnw), .ref (qsn), .ref (qlt), .ref (qkn), .ref (qft), .ref (qbf), .ref (qbh), .ref (qjt), .ref (qot), .ref (qsm), .ref (qpt), .ref (qpr), .ref (qch), .ref (qbt), .int (nI (wr)), .ref (qpg)], mg_ai K qsn 24 sn, mg_az K qkn 4 kn]) (k_Mo_isLetter l D K (nI o1) ) g_Mo_112 ⟨by decide, by decide⟩ ⟨rfl, rfl⟩ rfl rfl rfl hl.1 (rest := [.ref (mh)]) (As := [.int (nI (o1))]) rfl (Nat.le_of_ble_eq_true rfl) d_Mo_see_34 ⟨Nat.zero_le _, Nat.zero_le _⟩ (fun _ => rfl) (fun _ => rfl) rfl ?_
  intro r _ H locs hp9 hw
  subst hp9
  refine mg_bif_eq X 48 40 d_Mo_see_37 (by decide) rfl (fun b10 => absurd (mg_bt_in ho1.1 ho1.2) b10) (fun _ => ?_)
  refine mg_iload X 42 d_Mo_see_40 (lv_at hl 5 rfl) rfl ?_
  refine mg_callSi X hK hw hA 45 [] (fun _ => [mg_ob mh 6 [.int (nI (flt)), .int (nI (np)), .int (nI (nf)), .int (nI (nc)), .ref (qor), .ref (qfa), .ref (qmo), .int (nI (nm)), .ref (qwt), .ref (qrt), .ref (qnw), .ref (qsn), .ref (qlt), .ref (qkn), .ref (qft), .ref (qbf), .ref (qbh), .ref (qjt), .ref (qot), .ref (qsm), .ref (qpt), .ref (qpr), .ref (qch), .ref (qbt), .int (nI (wr)), .ref (qpg)], mg_ai K qsn 24 sn, mg_az K qkn 4 kn]) (k_Mo_isLetter l D K (nI t1) ) g_Mo_112 ⟨by decide, by decide⟩ ⟨rfl, rfl⟩ rfl rfl rfl hl.1 (rest := [.ref (mh)]) (As := [.int (nI (t1))]) rfl (Nat.le_of_ble_eq_true rfl) d_Mo_see_42 ⟨Nat.zero_le _, Nat.zero_le _⟩ (fun _ => rfl) (fun _ => rfl) rfl ?_
  intro r _ H locs hp12 hw
  subst hp12
  refine mg_bif_ne X 52 48 d_Mo_see_45 (by decide) rfl (fun _ => ?_) (fun b13 => absurd (mg_bt_in ht1.1 ht1.2) b13)
  refine mg_iconst X 53 0 d_Mo_see_52 mg_ci_0 rfl ?_
  refine mg_callVi X hK hw hA 56 [0] 0 (fun _ => [mg_ob mh 6 [.int (nI (0)), .int (nI (np)), .int (nI (nf)), .int (nI (nc)), .ref (qor), .ref (qfa), .ref (qmo), .int (nI (nm)), .ref (qwt), .ref (qrt), .ref (qnw), .ref (qsn), .ref (qlt), .ref (qkn), .ref (qft), .ref (qbf), .ref (qbh), .ref (qjt), .ref (qot), .ref (qsm), .ref (qpt), .ref (qpr), .ref (qch), .ref (qbt), .int (nI (wr)), .ref (qpg)], mg_ai K qsn 24 sn, mg_az K qkn 4 kn]) rfl rfl (k_Mo_refused l D K mh qor qfa qmo qwt qrt qnw qsn qlt qkn qft qbf qbh qjt qot qsm qpt qpr qch qbt qpg flt np nf nc nm wr 0 (by omega)) g_Mo_96 ⟨by decide, by decide⟩ ⟨rfl, rfl⟩ rfl rfl rfl hl.1 (rest := []) (As := [.int (nI (0))]) rfl (Nat.le_of_ble_eq_true rfl) d_Mo_see_53 ⟨Nat.zero_le _, Nat.zero_le _⟩ (fun _ => rfl) (fun _ => rfl) rfl ?_
  intro r _ H locs hp15 hw
  subst hp15
  refine mg_bif_eq X 60 59 d_Mo_see_56 (by decide) rfl (fun _ => ?_) (fun b16 => absurd b16 (by decide))
  refine mg_aload_n X 61 d_Mo_see_60 (lv_at hl 1 rfl) rfl ?_
  refine mg_get X hK hw 64 0 11 f_Mo_28 rfl rfl d_Mo_see_61 rfl ?_
  refine mg_iconst X 65 4 d_Mo_see_64 mg_ci_4 rfl ?_
  refine mg_iload_n X 66 d_Mo_see_65 (lv_at hl 2 rfl) rfl ?_
  refine mg_imul X 67 (nI (4 * p1)) d_Mo_see_66 (pk_mul _ _) rfl ?_
  refine mg_iload_n X 68 d_Mo_see_67 (lv_at hl 3 rfl) rfl ?_
  refine mg_iadd X 69 (nI ((4 * p1) + m1)) d_Mo_see_68 (nI_add _ _) rfl ?_
  refine mg_iload_n X 70 d_Mo_see_69 (lv_at hl 4 rfl) rfl ?_
  refine mg_iload X 72 d_Mo_see_70 (lv_at hl 5 rfl) rfl ?_
  refine mg_icmp_ge X 85 75 (by omega) (by omega) d_Mo_see_72 (by decide) rfl (fun hlt => ?_) (fun hlt => ?_)
  · -- pc 72 t
    refine mg_bipush X 87 10 d_Mo_see_85 mg_cb_10 rfl ?_
    refine mg_iload X 89 d_Mo_see_87 (lv_at hl 5 rfl) rfl ?_
    refine mg_imul X 90 (nI (10 * t1)) d_Mo_see_89 (pk_mul _ _) rfl ?_
    refine mg_iload_n X 91 d_Mo_see_90 (lv_at hl 4 rfl) rfl ?_
    refine mg_iadd X 92 (nI ((10 * t1) + o1)) d_Mo_see_91 (nI_add _ _) rfl ?_
    refine mg_iast X hK hw 93 1 [mg_ob mh 6 [.int (nI (0)), .int (nI (np)), .int (nI (nf)), .int (nI (nc)), .ref (qor), .ref (qfa), .ref (qmo), .int (nI (nm)), .ref (qwt), .ref (qrt), .ref (qnw), .ref (qsn), .ref (qlt), .ref (qkn), .ref (qft), .ref (qbf), .ref (qbh), .ref (qjt), .ref (qot), .ref (qsm), .ref (qpt), .ref (qpr), .ref (qch), .ref (qbt), .int (nI (wr)), .ref (qpg)], mg_ai K qsn 24 (va_up sn ((4 * p1) + m1) ((10 * t1) + o1)), mg_az K qkn 4 kn] rfl (by omega) (by omega) d_Mo_see_92 rfl rfl (fun H locs hw => ?_)
    refine mg_aload_n X 94 d_Mo_see_93 (lv_at hl 1 rfl) rfl ?_
    refine mg_get X hK hw 97 0 13 f_Mo_34 rfl rfl d_Mo_see_94 rfl ?_
    refine mg_iload_n X 98 d_Mo_see_97 (lv_at hl 3 rfl) rfl ?_
    refine mg_iconst X 99 0 d_Mo_see_98 mg_ci_0 rfl ?_
    refine mg_zast X hK hw 100 2 [mg_ob mh 6 [.int (nI (0)), .int (nI (np)), .int (nI (nf)), .int (nI (nc)), .ref (qor), .ref (qfa), .ref (qmo), .int (nI (nm)), .ref (qwt), .ref (qrt), .ref (qnw), .ref (qsn), .ref (qlt), .ref (qkn), .ref (qft), .ref (qbf), .ref (qbh), .ref (qjt), .ref (qot), .ref (qsm), .ref (qpt), .ref (qpr), .ref (qch), .ref (qbt), .int (nI (wr)), .ref (qpg)], mg_ai K qsn 24 (va_up sn ((4 * p1) + m1) ((10 * t1) + o1)), mg_az K qkn 4 (va_up kn m1 0)] rfl (by omega) (by omega) (by omega) d_Mo_see_99 rfl rfl (fun H locs hw => ?_)
    rw [show 10 * t1 + o1 = mo_cd o1 t1 from (mo_cd_ge (by omega) hlt).symm] at hw
    exact mg_vret X hr hlk (()) (trivial) hw d_Mo_see_100
  · -- pc 72 f
    refine mg_bipush X 77 10 d_Mo_see_75 mg_cb_10 rfl ?_
    refine mg_iload_n X 78 d_Mo_see_77 (lv_at hl 4 rfl) rfl ?_
    refine mg_imul X 79 (nI (10 * o1)) d_Mo_see_78 (pk_mul _ _) rfl ?_
    refine mg_iload X 81 d_Mo_see_79 (lv_at hl 5 rfl) rfl ?_
    refine mg_iadd X 82 (nI ((10 * o1) + t1)) d_Mo_see_81 (nI_add _ _) rfl ?_
    refine mg_goto X 92 d_Mo_see_82 (by decide) ?_
    refine mg_iast X hK hw 93 1 [mg_ob mh 6 [.int (nI (0)), .int (nI (np)), .int (nI (nf)), .int (nI (nc)), .ref (qor), .ref (qfa), .ref (qmo), .int (nI (nm)), .ref (qwt), .ref (qrt), .ref (qnw), .ref (qsn), .ref (qlt), .ref (qkn), .ref (qft), .ref (qbf), .ref (qbh), .ref (qjt), .ref (qot), .ref (qsm), .ref (qpt), .ref (qpr), .ref (qch), .ref (qbt), .int (nI (wr)), .ref (qpg)], mg_ai K qsn 24 (va_up sn ((4 * p1) + m1) ((10 * o1) + t1)), mg_az K qkn 4 kn] rfl (by omega) (by omega) d_Mo_see_92 rfl rfl (fun H locs hw => ?_)
    refine mg_aload_n X 94 d_Mo_see_93 (lv_at hl 1 rfl) rfl ?_
    refine mg_get X hK hw 97 0 13 f_Mo_34 rfl rfl d_Mo_see_94 rfl ?_
    refine mg_iload_n X 98 d_Mo_see_97 (lv_at hl 3 rfl) rfl ?_
    refine mg_iconst X 99 0 d_Mo_see_98 mg_ci_0 rfl ?_
    refine mg_zast X hK hw 100 2 [mg_ob mh 6 [.int (nI (0)), .int (nI (np)), .int (nI (nf)), .int (nI (nc)), .ref (qor), .ref (qfa), .ref (qmo), .int (nI (nm)), .ref (qwt), .ref (qrt), .ref (qnw), .ref (qsn), .ref (qlt), .ref (qkn), .ref (qft), .ref (qbf), .ref (qbh), .ref (qjt), .ref (qot), .ref (qsm), .ref (qpt), .ref (qpr), .ref (qch), .ref (qbt), .int (nI (wr)), .ref (qpg)], mg_ai K qsn 24 (va_up sn ((4 * p1) + m1) ((10 * o1) + t1)), mg_az K qkn 4 (va_up kn m1 0)] rfl (by omega) (by omega) (by omega) d_Mo_see_99 rfl rfl (fun H locs hw => ?_)
    rw [show 10 * o1 + t1 = mo_cd o1 t1 from (mo_cd_lt (by omega) hlt).symm] at hw
    exact mg_vret X hr hlk (()) (trivial) hw d_Mo_see_100

set_option maxRecDepth 100000 in
set_option maxHeartbeats 4000000 in
theorem k_Mo_unseeN (l : Launch) (D : va_G) (K : Nat → ClassId) (mh : Nat) (qor : Nat) (qfa : Nat) (qmo : Nat) (qwt : Nat) (qrt : Nat) (qnw : Nat) (qsn : Nat) (qlt : Nat) (qkn : Nat) (qft : Nat) (qbf : Nat) (qbh : Nat) (qjt : Nat) (qot : Nat) (qsm : Nat) (qpt : Nat) (qpr : Nat) (qch : Nat) (qbt : Nat) (qpg : Nat) (flt : Nat) (np : Nat) (nf : Nat) (nc : Nat) (nm : Nat) (wr : Nat) (p1 : Int32) (m1 : Int32) (hnm4 : nm ≤ 4) (hnp6 : np ≤ 6) (hx : ¬ (mg_lt p1 np ∧ mg_lt m1 nm)) : mg_Mi l D K y_Mo_unsee b_Mo_unsee 4 (.boolean) ({ frames := 1, cells := 0, slots := 0, locals := 21 }) [.ref (mh), .int (p1), .int (m1)] [mg_ob mh 6 [.int (nI (flt)), .int (nI (np)), .int (nI (nf)), .int (nI (nc)), .ref (qor), .ref (qfa), .ref (qmo), .int (nI (nm)), .ref (qwt), .ref (qrt), .ref (qnw), .ref (qsn), .ref (qlt), .ref (qkn), .ref (qft), .ref (qbf), .ref (qbh), .ref (qjt), .ref (qot), .ref (qsm), .ref (qpt), .ref (qpr), .ref (qch), .ref (qbt), .int (nI (wr)), .ref (qpg)]] (fun (r : Int32) (_ : Unit) => r = nI (0)) (fun (_ : Unit) => [mg_ob mh 6 [.int (nI (1)), .int (nI (np)), .int (nI (nf)), .int (nI (nc)), .ref (qor), .ref (qfa), .ref (qmo), .int (nI (nm)), .ref (qwt), .ref (qrt), .ref (qnw), .ref (qsn), .ref (qlt), .ref (qkn), .ref (qft), .ref (qbf), .ref (qbh), .ref (qjt), .ref (qot), .ref (qsm), .ref (qpt), .ref (qpr), .ref (qch), .ref (qbt), .int (nI (wr)), .ref (qpg)]]) := by
  intro sz
  refine mg_entry (Qc := fun A => va_Qi (fun (r : Int32) (_ : Unit) => r = nI (0)) (mg_B D A (fun (_ : Unit) => [mg_ob mh 6 [.int (nI (1)), .int (nI (np)), .int (nI (nf)), .int (nI (nc)), .ref (qor), .ref (qfa), .ref (qmo), .int (nI (nm)), .ref (qwt), .ref (qrt), .ref (qnw), .ref (qsn), .ref (qlt), .ref (qkn), .ref (qft), .ref (qbf), .ref (qbh), .ref (qjt), .ref (qot), .ref (qsm), .ref (qpt), .ref (qpr), .ref (qch), .ref (qbt), .int (nI (wr)), .ref (qpg)]])) A) (by decide) (Nat.le_of_ble_eq_true rfl) ?_
  intro p e s m args below meth c A ls X hr hlk hnm hA hK hw hl
  have hl : lv_has ls 4 [(0, .ref (mh)), (1, .int (p1)), (2, .int (m1))] := hl
  refine mg_aload_n X 1 d_Mo_unsee_0 (lv_at hl 0 rfl) rfl ?_
  refine mg_aload_n X 2 d_Mo_unsee_1 (lv_at hl 0 rfl) rfl ?_
  refine mg_iload_n X 3 d_Mo_unsee_2 (lv_at hl 1 rfl) rfl ?_
  refine mg_callVi X hK hw hA 6 [0] 0 (fun _ => [mg_ob mh 6 [.int (nI (flt)), .int (nI (np)), .int (nI (nf)), .int (nI (nc)), .ref (qor), .ref (qfa), .ref (qmo), .int (nI (nm)), .ref (qwt), .ref (qrt), .ref (qnw), .ref (qsn), .ref (qlt), .ref (qkn), .ref (qft), .ref (qbf), .ref (qbh), .ref (qjt), .ref (qot), .ref (qsm), .ref (qpt), .ref (qpr), .ref (qch), .ref (qbt), .int (nI (wr)), .ref (qpg)]]) rfl rfl (k_Mo_isPerson l D K mh qor qfa qmo qwt qrt qnw qsn qlt qkn qft qbf qbh qjt qot qsm qpt qpr qch qbt qpg flt np nf nc nm wr p1 (by omega)) g_Mo_103 ⟨by decide, by decide⟩ ⟨rfl, rfl⟩ rfl rfl rfl hl.1 (rest := [.ref (mh)]) (As := [.int (p1)]) rfl (Nat.le_of_ble_eq_true rfl) d_Mo_unsee_3 ⟨Nat.zero_le _, Nat.zero_le _⟩ (fun _ => rfl) (fun _ => rfl) rfl ?_
  intro r _ H locs hp2 hw
  subst hp2
  refine mg_bif_eq X 21 9 d_Mo_unsee_6 (by decide) rfl (fun b3 => ?_) (fun b3 => ?_)
  · -- pc 6 t
    refine mg_iconst X 22 1 d_Mo_unsee_21 mg_ci_1 rfl ?_
    refine mg_callVi X hK hw hA 25 [0] 0 (fun _ => [mg_ob mh 6 [.int (nI (1)), .int (nI (np)), .int (nI (nf)), .int (nI (nc)), .ref (qor), .ref (qfa), .ref (qmo), .int (nI (nm)), .ref (qwt), .ref (qrt), .ref (qnw), .ref (qsn), .ref (qlt), .ref (qkn), .ref (qft), .ref (qbf), .ref (qbh), .ref (qjt), .ref (qot), .ref (qsm), .ref (qpt), .ref (qpr), .ref (qch), .ref (qbt), .int (nI (wr)), .ref (qpg)]]) rfl rfl (k_Mo_refused l D K mh qor qfa qmo qwt qrt qnw qsn qlt qkn qft qbf qbh qjt qot qsm qpt qpr qch qbt qpg flt np nf nc nm wr 1 (by omega)) g_Mo_96 ⟨by decide, by decide⟩ ⟨rfl, rfl⟩ rfl rfl rfl hl.1 (rest := []) (As := [.int (nI (1))]) rfl (Nat.le_of_ble_eq_true rfl) d_Mo_unsee_22 ⟨Nat.zero_le _, Nat.zero_le _⟩ (fun _ => rfl) (fun _ => rfl) rfl ?_
    intro r _ H locs hp5 hw
    subst hp5
    refine mg_bif_eq X 30 28 d_Mo_unsee_25 (by decide) rfl (fun b6 => absurd b6 (by decide)) (fun _ => ?_)
    refine mg_iconst X 29 0 d_Mo_unsee_28 mg_ci_0 rfl ?_
    exact mg_iret X hr hlk (mg_nz (by omega)) (()) (rfl) hw d_Mo_unsee_29
  · -- pc 6 f
    obtain ⟨jp1, hp1, rfl⟩ := b3
    refine mg_aload_n X 10 d_Mo_unsee_9 (lv_at hl 0 rfl) rfl ?_
    refine mg_iload_n X 11 d_Mo_unsee_10 (lv_at hl 2 rfl) rfl ?_
    refine mg_callVi X hK hw hA 14 [0] 0 (fun _ => [mg_ob mh 6 [.int (nI (flt)), .int (nI (np)), .int (nI (nf)), .int (nI (nc)), .ref (qor), .ref (qfa), .ref (qmo), .int (nI (nm)), .ref (qwt), .ref (qrt), .ref (qnw), .ref (qsn), .ref (qlt), .ref (qkn), .ref (qft), .ref (qbf), .ref (qbh), .ref (qjt), .ref (qot), .ref (qsm), .ref (qpt), .ref (qpr), .ref (qch), .ref (qbt), .int (nI (wr)), .ref (qpg)]]) rfl rfl (k_Mo_isMarker l D K mh qor qfa qmo qwt qrt qnw qsn qlt qkn qft qbf qbh qjt qot qsm qpt qpr qch qbt qpg flt np nf nc nm wr m1 (by omega)) g_Mo_109 ⟨by decide, by decide⟩ ⟨rfl, rfl⟩ rfl rfl rfl hl.1 (rest := [.ref (mh)]) (As := [.int (m1)]) rfl (Nat.le_of_ble_eq_true rfl) d_Mo_unsee_11 ⟨Nat.zero_le _, Nat.zero_le _⟩ (fun _ => rfl) (fun _ => rfl) rfl ?_
    intro r _ H locs hp8 hw
    subst hp8
    refine mg_bif_eq X 21 17 d_Mo_unsee_14 (by decide) rfl (fun b9 => ?_) (fun b9 => ?_)
    · -- pc 14 t
      refine mg_iconst X 22 1 d_Mo_unsee_21 mg_ci_1 rfl ?_
      refine mg_callVi X hK hw hA 25 [0] 0 (fun _ => [mg_ob mh 6 [.int (nI (1)), .int (nI (np)), .int (nI (nf)), .int (nI (nc)), .ref (qor), .ref (qfa), .ref (qmo), .int (nI (nm)), .ref (qwt), .ref (qrt), .ref (qnw), .ref (qsn), .ref (qlt), .ref (qkn), .ref (qft), .ref (qbf), .ref (qbh), .ref (qjt), .ref (qot), .ref (qsm), .ref (qpt), .ref (qpr), .ref (qch), .ref (qbt), .int (nI (wr)), .ref (qpg)]]) rfl rfl (k_Mo_refused l D K mh qor qfa qmo qwt qrt qnw qsn qlt qkn qft qbf qbh qjt qot qsm qpt qpr qch qbt qpg flt np nf nc nm wr 1 (by omega)) g_Mo_96 ⟨by decide, by decide⟩ ⟨rfl, rfl⟩ rfl rfl rfl hl.1 (rest := []) (As := [.int (nI (1))]) rfl (Nat.le_of_ble_eq_true rfl) d_Mo_unsee_22 ⟨Nat.zero_le _, Nat.zero_le _⟩ (fun _ => rfl) (fun _ => rfl) rfl ?_
      intro r _ H locs hp11 hw
      subst hp11
      refine mg_bif_eq X 30 28 d_Mo_unsee_25 (by decide) rfl (fun b12 => absurd b12 (by decide)) (fun _ => ?_)
      refine mg_iconst X 29 0 d_Mo_unsee_28 mg_ci_0 rfl ?_
      exact mg_iret X hr hlk (mg_nz (by omega)) (()) (rfl) hw d_Mo_unsee_29
    · -- pc 14 f
      obtain ⟨jm1, hm1, rfl⟩ := b9
      exact absurd ⟨⟨jp1, hp1, rfl⟩, ⟨jm1, hm1, rfl⟩⟩ hx

set_option maxRecDepth 100000 in
set_option maxHeartbeats 4000000 in
theorem k_Mo_unsee (l : Launch) (D : va_G) (K : Nat → ClassId) (mh : Nat) (qor : Nat) (qfa : Nat) (qmo : Nat) (qwt : Nat) (qrt : Nat) (qnw : Nat) (qsn : Nat) (qlt : Nat) (qkn : Nat) (qft : Nat) (qbf : Nat) (qbh : Nat) (qjt : Nat) (qot : Nat) (qsm : Nat) (qpt : Nat) (qpr : Nat) (qch : Nat) (qbt : Nat) (qpg : Nat) (flt : Nat) (np : Nat) (nf : Nat) (nc : Nat) (nm : Nat) (wr : Nat) (sn : Nat → Nat) (kn : Nat → Nat) (p1 : Nat) (m1 : Nat) (hsn : ∀ k, k < 24 → sn k ≤ 33) (hnm4 : nm ≤ 4) (hnp6 : np ≤ 6) (hp1 : p1 < np) (hm1 : m1 < nm) : mg_Mi l D K y_Mo_unsee b_Mo_unsee 4 (.boolean) ({ frames := 1, cells := 0, slots := 0, locals := 21 }) [.ref (mh), .int (nI (p1)), .int (nI (m1))] [mg_ob mh 6 [.int (nI (flt)), .int (nI (np)), .int (nI (nf)), .int (nI (nc)), .ref (qor), .ref (qfa), .ref (qmo), .int (nI (nm)), .ref (qwt), .ref (qrt), .ref (qnw), .ref (qsn), .ref (qlt), .ref (qkn), .ref (qft), .ref (qbf), .ref (qbh), .ref (qjt), .ref (qot), .ref (qsm), .ref (qpt), .ref (qpr), .ref (qch), .ref (qbt), .int (nI (wr)), .ref (qpg)], mg_ai K qsn 24 sn, mg_az K qkn 4 kn] (fun (r : Int32) (_ : Unit) => r = nI (ft_c (0 < sn (4 * p1 + m1)))) (fun (_ : Unit) => [mg_ob mh 6 [.int (nI (0)), .int (nI (np)), .int (nI (nf)), .int (nI (nc)), .ref (qor), .ref (qfa), .ref (qmo), .int (nI (nm)), .ref (qwt), .ref (qrt), .ref (qnw), .ref (qsn), .ref (qlt), .ref (qkn), .ref (qft), .ref (qbf), .ref (qbh), .ref (qjt), .ref (qot), .ref (qsm), .ref (qpt), .ref (qpr), .ref (qch), .ref (qbt), .int (nI (wr)), .ref (qpg)], mg_ai K qsn 24 (va_up sn (4 * p1 + m1) 0), mg_az K qkn 4 (va_up kn m1 0)]) := by
  intro sz
  refine mg_entry (Qc := fun A => va_Qi (fun (r : Int32) (_ : Unit) => r = nI (ft_c (0 < sn (4 * p1 + m1)))) (mg_B D A (fun (_ : Unit) => [mg_ob mh 6 [.int (nI (0)), .int (nI (np)), .int (nI (nf)), .int (nI (nc)), .ref (qor), .ref (qfa), .ref (qmo), .int (nI (nm)), .ref (qwt), .ref (qrt), .ref (qnw), .ref (qsn), .ref (qlt), .ref (qkn), .ref (qft), .ref (qbf), .ref (qbh), .ref (qjt), .ref (qot), .ref (qsm), .ref (qpt), .ref (qpr), .ref (qch), .ref (qbt), .int (nI (wr)), .ref (qpg)], mg_ai K qsn 24 (va_up sn (4 * p1 + m1) 0), mg_az K qkn 4 (va_up kn m1 0)])) A) (by decide) (Nat.le_of_ble_eq_true rfl) ?_
  intro p e s m args below meth c A ls X hr hlk hnm hA hK hw hl
  have hl : lv_has ls 4 [(0, .ref (mh)), (1, .int (nI (p1))), (2, .int (nI (m1)))] := hl
  refine mg_aload_n X 1 d_Mo_unsee_0 (lv_at hl 0 rfl) rfl ?_
  refine mg_aload_n X 2 d_Mo_unsee_1 (lv_at hl 0 rfl) rfl ?_
  refine mg_iload_n X 3 d_Mo_unsee_2 (lv_at hl 1 rfl) rfl ?_
  refine mg_callVi X hK hw hA 6 [0] 0 (fun _ => [mg_ob mh 6 [.int (nI (flt)), .int (nI (np)), .int (nI (nf)), .int (nI (nc)), .ref (qor), .ref (qfa), .ref (qmo), .int (nI (nm)), .ref (qwt), .ref (qrt), .ref (qnw), .ref (qsn), .ref (qlt), .ref (qkn), .ref (qft), .ref (qbf), .ref (qbh), .ref (qjt), .ref (qot), .ref (qsm), .ref (qpt), .ref (qpr), .ref (qch), .ref (qbt), .int (nI (wr)), .ref (qpg)], mg_ai K qsn 24 sn, mg_az K qkn 4 kn]) rfl rfl (k_Mo_isPerson l D K mh qor qfa qmo qwt qrt qnw qsn qlt qkn qft qbf qbh qjt qot qsm qpt qpr qch qbt qpg flt np nf nc nm wr (nI p1) (by omega)) g_Mo_103 ⟨by decide, by decide⟩ ⟨rfl, rfl⟩ rfl rfl rfl hl.1 (rest := [.ref (mh)]) (As := [.int (nI (p1))]) rfl (Nat.le_of_ble_eq_true rfl) d_Mo_unsee_3 ⟨Nat.zero_le _, Nat.zero_le _⟩ (fun _ => rfl) (fun _ => rfl) rfl ?_
  intro r _ H locs hp2 hw
  subst hp2
  refine mg_bif_eq X 21 9 d_Mo_unsee_6 (by decide) rfl (fun b3 => absurd (mg_lt_in hp1) b3) (fun _ => ?_)
  refine mg_aload_n X 10 d_Mo_unsee_9 (lv_at hl 0 rfl) rfl ?_
  refine mg_iload_n X 11 d_Mo_unsee_10 (lv_at hl 2 rfl) rfl ?_
  refine mg_callVi X hK hw hA 14 [0] 0 (fun _ => [mg_ob mh 6 [.int (nI (flt)), .int (nI (np)), .int (nI (nf)), .int (nI (nc)), .ref (qor), .ref (qfa), .ref (qmo), .int (nI (nm)), .ref (qwt), .ref (qrt), .ref (qnw), .ref (qsn), .ref (qlt), .ref (qkn), .ref (qft), .ref (qbf), .ref (qbh), .ref (qjt), .ref (qot), .ref (qsm), .ref (qpt), .ref (qpr), .ref (qch), .ref (qbt), .int (nI (wr)), .ref (qpg)], mg_ai K qsn 24 sn, mg_az K qkn 4 kn]) rfl rfl (k_Mo_isMarker l D K mh qor qfa qmo qwt qrt qnw qsn qlt qkn qft qbf qbh qjt qot qsm qpt qpr qch qbt qpg flt np nf nc nm wr (nI m1) (by omega)) g_Mo_109 ⟨by decide, by decide⟩ ⟨rfl, rfl⟩ rfl rfl rfl hl.1 (rest := [.ref (mh)]) (As := [.int (nI (m1))]) rfl (Nat.le_of_ble_eq_true rfl) d_Mo_unsee_11 ⟨Nat.zero_le _, Nat.zero_le _⟩ (fun _ => rfl) (fun _ => rfl) rfl ?_
  intro r _ H locs hp5 hw
  subst hp5
  refine mg_bif_eq X 21 17 d_Mo_unsee_14 (by decide) rfl (fun b6 => absurd (mg_lt_in hm1) b6) (fun _ => ?_)
  refine mg_iconst X 18 0 d_Mo_unsee_17 mg_ci_0 rfl ?_
  refine mg_goto X 22 d_Mo_unsee_18 (by decide) ?_
  refine mg_callVi X hK hw hA 25 [0] 0 (fun _ => [mg_ob mh 6 [.int (nI (0)), .int (nI (np)), .int (nI (nf)), .int (nI (nc)), .ref (qor), .ref (qfa), .ref (qmo), .int (nI (nm)), .ref (qwt), .ref (qrt), .ref (qnw), .ref (qsn), .ref (qlt), .ref (qkn), .ref (qft), .ref (qbf), .ref (qbh), .ref (qjt), .ref (qot), .ref (qsm), .ref (qpt), .ref (qpr), .ref (qch), .ref (qbt), .int (nI (wr)), .ref (qpg)], mg_ai K qsn 24 sn, mg_az K qkn 4 kn]) rfl rfl (k_Mo_refused l D K mh qor qfa qmo qwt qrt qnw qsn qlt qkn qft qbf qbh qjt qot qsm qpt qpr qch qbt qpg flt np nf nc nm wr 0 (by omega)) g_Mo_96 ⟨by decide, by decide⟩ ⟨rfl, rfl⟩ rfl rfl rfl hl.1 (rest := []) (As := [.int (nI (0))]) rfl (Nat.le_of_ble_eq_true rfl) d_Mo_unsee_22 ⟨Nat.zero_le _, Nat.zero_le _⟩ (fun _ => rfl) (fun _ => rfl) rfl ?_
  intro r _ H locs hp8 hw
  subst hp8
  refine mg_bif_eq X 30 28 d_Mo_unsee_25 (by decide) rfl (fun _ => ?_) (fun b9 => absurd b9 (by decide))
  refine mg_aload_n X 31 d_Mo_unsee_30 (lv_at hl 0 rfl) rfl ?_
  refine mg_get X hK hw 34 0 11 f_Mo_28 rfl rfl d_Mo_unsee_31 rfl ?_
  refine mg_iconst X 35 4 d_Mo_unsee_34 mg_ci_4 rfl ?_
  refine mg_iload_n X 36 d_Mo_unsee_35 (lv_at hl 1 rfl) rfl ?_
  refine mg_imul X 37 (nI (4 * p1)) d_Mo_unsee_36 (pk_mul _ _) rfl ?_
  refine mg_iload_n X 38 d_Mo_unsee_37 (lv_at hl 2 rfl) rfl ?_
  refine mg_iadd X 39 (nI ((4 * p1) + m1)) d_Mo_unsee_38 (nI_add _ _) rfl ?_
  refine mg_iald X hK hw 40 1 rfl (by omega) (by omega) d_Mo_unsee_39 rfl ?_
  refine mg_if_le X 47 43 (by have := hsn (4 * p1 + m1) (by omega); omega) d_Mo_unsee_40 (by decide) rfl (fun hs => ?_) (fun hs => ?_)
  · -- pc 40 t
    refine mg_iconst X 48 0 d_Mo_unsee_47 mg_ci_0 rfl ?_
    refine mg_istore_n X 49 [(3, .int (nI (0))), (0, .ref (mh)), (1, .int (nI (p1))), (2, .int (nI (m1)))] d_Mo_unsee_48 hl (by decide) rfl rfl (fun ls hl => ?_)
    refine mg_aload_n X 50 d_Mo_unsee_49 (lv_at hl 1 rfl) rfl ?_
    refine mg_get X hK hw 53 0 11 f_Mo_28 rfl rfl d_Mo_unsee_50 rfl ?_
    refine mg_iconst X 54 4 d_Mo_unsee_53 mg_ci_4 rfl ?_
    refine mg_iload_n X 55 d_Mo_unsee_54 (lv_at hl 2 rfl) rfl ?_
    refine mg_imul X 56 (nI (4 * p1)) d_Mo_unsee_55 (pk_mul _ _) rfl ?_
    refine mg_iload_n X 57 d_Mo_unsee_56 (lv_at hl 3 rfl) rfl ?_
    refine mg_iadd X 58 (nI ((4 * p1) + m1)) d_Mo_unsee_57 (nI_add _ _) rfl ?_
    refine mg_iconst X 59 0 d_Mo_unsee_58 mg_ci_0 rfl ?_
    refine mg_iast X hK hw 60 1 [mg_ob mh 6 [.int (nI (0)), .int (nI (np)), .int (nI (nf)), .int (nI (nc)), .ref (qor), .ref (qfa), .ref (qmo), .int (nI (nm)), .ref (qwt), .ref (qrt), .ref (qnw), .ref (qsn), .ref (qlt), .ref (qkn), .ref (qft), .ref (qbf), .ref (qbh), .ref (qjt), .ref (qot), .ref (qsm), .ref (qpt), .ref (qpr), .ref (qch), .ref (qbt), .int (nI (wr)), .ref (qpg)], mg_ai K qsn 24 (va_up sn ((4 * p1) + m1) 0), mg_az K qkn 4 kn] rfl (by omega) (by omega) d_Mo_unsee_59 rfl rfl (fun H locs hw => ?_)
    refine mg_aload_n X 61 d_Mo_unsee_60 (lv_at hl 1 rfl) rfl ?_
    refine mg_get X hK hw 64 0 13 f_Mo_34 rfl rfl d_Mo_unsee_61 rfl ?_
    refine mg_iload_n X 65 d_Mo_unsee_64 (lv_at hl 3 rfl) rfl ?_
    refine mg_iconst X 66 0 d_Mo_unsee_65 mg_ci_0 rfl ?_
    refine mg_zast X hK hw 67 2 [mg_ob mh 6 [.int (nI (0)), .int (nI (np)), .int (nI (nf)), .int (nI (nc)), .ref (qor), .ref (qfa), .ref (qmo), .int (nI (nm)), .ref (qwt), .ref (qrt), .ref (qnw), .ref (qsn), .ref (qlt), .ref (qkn), .ref (qft), .ref (qbf), .ref (qbh), .ref (qjt), .ref (qot), .ref (qsm), .ref (qpt), .ref (qpr), .ref (qch), .ref (qbt), .int (nI (wr)), .ref (qpg)], mg_ai K qsn 24 (va_up sn ((4 * p1) + m1) 0), mg_az K qkn 4 (va_up kn m1 0)] rfl (by omega) (by omega) (by omega) d_Mo_unsee_66 rfl rfl (fun H locs hw => ?_)
    refine mg_iload_n X 68 d_Mo_unsee_67 (lv_at hl 0 rfl) rfl ?_
    exact mg_iret X hr hlk (mg_nz (by omega)) (()) (by rw [ft_c0 (by omega)]) hw d_Mo_unsee_68
  · -- pc 40 f
    refine mg_iconst X 44 1 d_Mo_unsee_43 mg_ci_1 rfl ?_
    refine mg_goto X 48 d_Mo_unsee_44 (by decide) ?_
    refine mg_istore_n X 49 [(3, .int (nI (1))), (0, .ref (mh)), (1, .int (nI (p1))), (2, .int (nI (m1)))] d_Mo_unsee_48 hl (by decide) rfl rfl (fun ls hl => ?_)
    refine mg_aload_n X 50 d_Mo_unsee_49 (lv_at hl 1 rfl) rfl ?_
    refine mg_get X hK hw 53 0 11 f_Mo_28 rfl rfl d_Mo_unsee_50 rfl ?_
    refine mg_iconst X 54 4 d_Mo_unsee_53 mg_ci_4 rfl ?_
    refine mg_iload_n X 55 d_Mo_unsee_54 (lv_at hl 2 rfl) rfl ?_
    refine mg_imul X 56 (nI (4 * p1)) d_Mo_unsee_55 (pk_mul _ _) rfl ?_
    refine mg_iload_n X 57 d_Mo_unsee_56 (lv_at hl 3 rfl) rfl ?_
    refine mg_iadd X 58 (nI ((4 * p1) + m1)) d_Mo_unsee_57 (nI_add _ _) rfl ?_
    refine mg_iconst X 59 0 d_Mo_unsee_58 mg_ci_0 rfl ?_
    refine mg_iast X hK hw 60 1 [mg_ob mh 6 [.int (nI (0)), .int (nI (np)), .int (nI (nf)), .int (nI (nc)), .ref (qor), .ref (qfa), .ref (qmo), .int (nI (nm)), .ref (qwt), .ref (qrt), .ref (qnw), .ref (qsn), .ref (qlt), .ref (qkn), .ref (qft), .ref (qbf), .ref (qbh), .ref (qjt), .ref (qot), .ref (qsm), .ref (qpt), .ref (qpr), .ref (qch), .ref (qbt), .int (nI (wr)), .ref (qpg)], mg_ai K qsn 24 (va_up sn ((4 * p1) + m1) 0), mg_az K qkn 4 kn] rfl (by omega) (by omega) d_Mo_unsee_59 rfl rfl (fun H locs hw => ?_)
    refine mg_aload_n X 61 d_Mo_unsee_60 (lv_at hl 1 rfl) rfl ?_
    refine mg_get X hK hw 64 0 13 f_Mo_34 rfl rfl d_Mo_unsee_61 rfl ?_
    refine mg_iload_n X 65 d_Mo_unsee_64 (lv_at hl 3 rfl) rfl ?_
    refine mg_iconst X 66 0 d_Mo_unsee_65 mg_ci_0 rfl ?_
    refine mg_zast X hK hw 67 2 [mg_ob mh 6 [.int (nI (0)), .int (nI (np)), .int (nI (nf)), .int (nI (nc)), .ref (qor), .ref (qfa), .ref (qmo), .int (nI (nm)), .ref (qwt), .ref (qrt), .ref (qnw), .ref (qsn), .ref (qlt), .ref (qkn), .ref (qft), .ref (qbf), .ref (qbh), .ref (qjt), .ref (qot), .ref (qsm), .ref (qpt), .ref (qpr), .ref (qch), .ref (qbt), .int (nI (wr)), .ref (qpg)], mg_ai K qsn 24 (va_up sn ((4 * p1) + m1) 0), mg_az K qkn 4 (va_up kn m1 0)] rfl (by omega) (by omega) (by omega) d_Mo_unsee_66 rfl rfl (fun H locs hw => ?_)
    refine mg_iload_n X 68 d_Mo_unsee_67 (lv_at hl 0 rfl) rfl ?_
    exact mg_iret X hr hlk (mg_nz (by omega)) (()) (by rw [ft_c1 hs]) hw d_Mo_unsee_68

set_option maxRecDepth 100000 in
set_option maxHeartbeats 4000000 in
theorem k_Mo_count0 (l : Launch) (D : va_G) (K : Nat → ClassId) (mh : Nat) (qor : Nat) (qfa : Nat) (qmo : Nat) (qwt : Nat) (qrt : Nat) (qnw : Nat) (qsn : Nat) (qlt : Nat) (qkn : Nat) (qft : Nat) (qbf : Nat) (qbh : Nat) (qjt : Nat) (qot : Nat) (qsm : Nat) (qpt : Nat) (qpr : Nat) (qch : Nat) (qbt : Nat) (qpg : Nat) (flt : Nat) (np : Nat) (nf : Nat) (nc : Nat) (nm : Nat) (wr : Nat) (hnp : np = nf + nc) (hnf : nf ≤ 3) (hnc : nc ≤ 3) (hnm4 : nm ≤ 4) : mg_Mi l D K y_Mo_count b_Mo_count 3 (.int) ({ frames := 1, cells := 0, slots := 0, locals := 20 }) [.ref (mh), .int (nI (0))] [mg_ob mh 6 [.int (nI (flt)), .int (nI (np)), .int (nI (nf)), .int (nI (nc)), .ref (qor), .ref (qfa), .ref (qmo), .int (nI (nm)), .ref (qwt), .ref (qrt), .ref (qnw), .ref (qsn), .ref (qlt), .ref (qkn), .ref (qft), .ref (qbf), .ref (qbh), .ref (qjt), .ref (qot), .ref (qsm), .ref (qpt), .ref (qpr), .ref (qch), .ref (qbt), .int (nI (wr)), .ref (qpg)]] (fun (r : Int32) (_ : Unit) => r = nI (np)) (fun (_ : Unit) => [mg_ob mh 6 [.int (nI (0)), .int (nI (np)), .int (nI (nf)), .int (nI (nc)), .ref (qor), .ref (qfa), .ref (qmo), .int (nI (nm)), .ref (qwt), .ref (qrt), .ref (qnw), .ref (qsn), .ref (qlt), .ref (qkn), .ref (qft), .ref (qbf), .ref (qbh), .ref (qjt), .ref (qot), .ref (qsm), .ref (qpt), .ref (qpr), .ref (qch), .ref (qbt), .int (nI (wr)), .ref (qpg)]]) := by
  intro sz
  refine mg_entry (Qc := fun A => va_Qi (fun (r : Int32) (_ : Unit) => r = nI (np)) (mg_B D A (fun (_ : Unit) => [mg_ob mh 6 [.int (nI (0)), .int (nI (np)), .int (nI (nf)), .int (nI (nc)), .ref (qor), .ref (qfa), .ref (qmo), .int (nI (nm)), .ref (qwt), .ref (qrt), .ref (qnw), .ref (qsn), .ref (qlt), .ref (qkn), .ref (qft), .ref (qbf), .ref (qbh), .ref (qjt), .ref (qot), .ref (qsm), .ref (qpt), .ref (qpr), .ref (qch), .ref (qbt), .int (nI (wr)), .ref (qpg)]])) A) (by decide) (Nat.le_of_ble_eq_true rfl) ?_
  intro p e s m args below meth c A ls X hr hlk hnm hA hK hw hl
  have hl : lv_has ls 3 [(0, .ref (mh)), (1, .int (nI (0)))] := hl
  refine mg_aload_n X 1 d_Mo_count_0 (lv_at hl 0 rfl) rfl ?_
  refine mg_iconst X 2 0 d_Mo_count_1 mg_ci_0 rfl ?_
  refine mg_put X hK hw 5 0 0 [mg_ob mh 6 [.int (nI (0)), .int (nI (np)), .int (nI (nf)), .int (nI (nc)), .ref (qor), .ref (qfa), .ref (qmo), .int (nI (nm)), .ref (qwt), .ref (qrt), .ref (qnw), .ref (qsn), .ref (qlt), .ref (qkn), .ref (qft), .ref (qbf), .ref (qbh), .ref (qjt), .ref (qot), .ref (qsm), .ref (qpt), .ref (qpr), .ref (qch), .ref (qbt), .int (nI (wr)), .ref (qpg)]] fp_Mo_76 rfl (Nat.le_of_ble_eq_true rfl) rfl rfl d_Mo_count_2 rfl rfl (fun H locs hw => ?_)
  refine mg_aload_n X 6 d_Mo_count_5 (lv_at hl 0 rfl) rfl ?_
  refine mg_get X hK hw 9 0 7 f_Mo_83 rfl rfl d_Mo_count_6 rfl ?_
  refine mg_if_ne X 16 12 (by omega) d_Mo_count_9 (by decide) rfl (fun hz => ?_) (fun hz => ?_)
  · -- pc 9 t
    refine mg_aload_n X 17 d_Mo_count_16 (lv_at hl 0 rfl) rfl ?_
    refine mg_get X hK hw 20 0 7 f_Mo_83 rfl rfl d_Mo_count_17 rfl ?_
    refine mg_iconst X 21 1 d_Mo_count_20 mg_ci_1 rfl ?_
    refine mg_isub X 22 (nI (nm - 1)) d_Mo_count_21 (pk_sub (by omega)) rfl ?_
    refine mg_istore_n X 23 [(2, .int (nI (nm - 1))), (0, .ref (mh)), (1, .int (nI (0)))] d_Mo_count_22 hl (by decide) rfl rfl (fun ls hl => ?_)
    refine mg_iload_n X 24 d_Mo_count_23 (lv_at hl 2 rfl) rfl ?_
    refine mg_tsin X 64 (off := 40) d_Mo_count_24 (by decide +kernel) (by decide +kernel) (by decide +kernel) (by decide) ?_
    refine mg_aload_n X 65 d_Mo_count_64 (lv_at hl 1 rfl) rfl ?_
    refine mg_get X hK hw 68 0 1 f_Mo_80 rfl rfl d_Mo_count_65 rfl ?_
    exact mg_iret X hr hlk (rfl) (()) (rfl) hw d_Mo_count_68
  · -- pc 9 f
    refine mg_iconst X 13 0 d_Mo_count_12 mg_ci_0 rfl ?_
    refine mg_goto X 22 d_Mo_count_13 (by decide) ?_
    refine mg_istore_n X 23 [(2, .int (nI (0))), (0, .ref (mh)), (1, .int (nI (0)))] d_Mo_count_22 hl (by decide) rfl rfl (fun ls hl => ?_)
    refine mg_iload_n X 24 d_Mo_count_23 (lv_at hl 2 rfl) rfl ?_
    refine mg_tsin X 64 (off := 40) d_Mo_count_24 (by decide +kernel) (by decide +kernel) (by decide +kernel) (by decide) ?_
    refine mg_aload_n X 65 d_Mo_count_64 (lv_at hl 1 rfl) rfl ?_
    refine mg_get X hK hw 68 0 1 f_Mo_80 rfl rfl d_Mo_count_65 rfl ?_
    exact mg_iret X hr hlk (rfl) (()) (rfl) hw d_Mo_count_68

set_option maxRecDepth 100000 in
set_option maxHeartbeats 4000000 in
theorem k_Mo_count1 (l : Launch) (D : va_G) (K : Nat → ClassId) (mh : Nat) (qor : Nat) (qfa : Nat) (qmo : Nat) (qwt : Nat) (qrt : Nat) (qnw : Nat) (qsn : Nat) (qlt : Nat) (qkn : Nat) (qft : Nat) (qbf : Nat) (qbh : Nat) (qjt : Nat) (qot : Nat) (qsm : Nat) (qpt : Nat) (qpr : Nat) (qch : Nat) (qbt : Nat) (qpg : Nat) (flt : Nat) (np : Nat) (nf : Nat) (nc : Nat) (nm : Nat) (wr : Nat) (hnp : np = nf + nc) (hnf : nf ≤ 3) (hnc : nc ≤ 3) (hnm4 : nm ≤ 4) : mg_Mi l D K y_Mo_count b_Mo_count 3 (.int) ({ frames := 1, cells := 0, slots := 0, locals := 20 }) [.ref (mh), .int (nI (1))] [mg_ob mh 6 [.int (nI (flt)), .int (nI (np)), .int (nI (nf)), .int (nI (nc)), .ref (qor), .ref (qfa), .ref (qmo), .int (nI (nm)), .ref (qwt), .ref (qrt), .ref (qnw), .ref (qsn), .ref (qlt), .ref (qkn), .ref (qft), .ref (qbf), .ref (qbh), .ref (qjt), .ref (qot), .ref (qsm), .ref (qpt), .ref (qpr), .ref (qch), .ref (qbt), .int (nI (wr)), .ref (qpg)]] (fun (r : Int32) (_ : Unit) => r = nI (nf)) (fun (_ : Unit) => [mg_ob mh 6 [.int (nI (0)), .int (nI (np)), .int (nI (nf)), .int (nI (nc)), .ref (qor), .ref (qfa), .ref (qmo), .int (nI (nm)), .ref (qwt), .ref (qrt), .ref (qnw), .ref (qsn), .ref (qlt), .ref (qkn), .ref (qft), .ref (qbf), .ref (qbh), .ref (qjt), .ref (qot), .ref (qsm), .ref (qpt), .ref (qpr), .ref (qch), .ref (qbt), .int (nI (wr)), .ref (qpg)]]) := by
  intro sz
  refine mg_entry (Qc := fun A => va_Qi (fun (r : Int32) (_ : Unit) => r = nI (nf)) (mg_B D A (fun (_ : Unit) => [mg_ob mh 6 [.int (nI (0)), .int (nI (np)), .int (nI (nf)), .int (nI (nc)), .ref (qor), .ref (qfa), .ref (qmo), .int (nI (nm)), .ref (qwt), .ref (qrt), .ref (qnw), .ref (qsn), .ref (qlt), .ref (qkn), .ref (qft), .ref (qbf), .ref (qbh), .ref (qjt), .ref (qot), .ref (qsm), .ref (qpt), .ref (qpr), .ref (qch), .ref (qbt), .int (nI (wr)), .ref (qpg)]])) A) (by decide) (Nat.le_of_ble_eq_true rfl) ?_
  intro p e s m args below meth c A ls X hr hlk hnm hA hK hw hl
  have hl : lv_has ls 3 [(0, .ref (mh)), (1, .int (nI (1)))] := hl
  refine mg_aload_n X 1 d_Mo_count_0 (lv_at hl 0 rfl) rfl ?_
  refine mg_iconst X 2 0 d_Mo_count_1 mg_ci_0 rfl ?_
  refine mg_put X hK hw 5 0 0 [mg_ob mh 6 [.int (nI (0)), .int (nI (np)), .int (nI (nf)), .int (nI (nc)), .ref (qor), .ref (qfa), .ref (qmo), .int (nI (nm)), .ref (qwt), .ref (qrt), .ref (qnw), .ref (qsn), .ref (qlt), .ref (qkn), .ref (qft), .ref (qbf), .ref (qbh), .ref (qjt), .ref (qot), .ref (qsm), .ref (qpt), .ref (qpr), .ref (qch), .ref (qbt), .int (nI (wr)), .ref (qpg)]] fp_Mo_76 rfl (Nat.le_of_ble_eq_true rfl) rfl rfl d_Mo_count_2 rfl rfl (fun H locs hw => ?_)
  refine mg_aload_n X 6 d_Mo_count_5 (lv_at hl 0 rfl) rfl ?_
  refine mg_get X hK hw 9 0 7 f_Mo_83 rfl rfl d_Mo_count_6 rfl ?_
  refine mg_if_ne X 16 12 (by omega) d_Mo_count_9 (by decide) rfl (fun hz => ?_) (fun hz => ?_)
  · -- pc 9 t
    refine mg_aload_n X 17 d_Mo_count_16 (lv_at hl 0 rfl) rfl ?_
    refine mg_get X hK hw 20 0 7 f_Mo_83 rfl rfl d_Mo_count_17 rfl ?_
    refine mg_iconst X 21 1 d_Mo_count_20 mg_ci_1 rfl ?_
    refine mg_isub X 22 (nI (nm - 1)) d_Mo_count_21 (pk_sub (by omega)) rfl ?_
    refine mg_istore_n X 23 [(2, .int (nI (nm - 1))), (0, .ref (mh)), (1, .int (nI (1)))] d_Mo_count_22 hl (by decide) rfl rfl (fun ls hl => ?_)
    refine mg_iload_n X 24 d_Mo_count_23 (lv_at hl 2 rfl) rfl ?_
    refine mg_tsin X 69 (off := 45) d_Mo_count_24 (by decide +kernel) (by decide +kernel) (by decide +kernel) (by decide) ?_
    refine mg_aload_n X 70 d_Mo_count_69 (lv_at hl 1 rfl) rfl ?_
    refine mg_get X hK hw 73 0 2 f_Mo_89 rfl rfl d_Mo_count_70 rfl ?_
    exact mg_iret X hr hlk (rfl) (()) (rfl) hw d_Mo_count_73
  · -- pc 9 f
    refine mg_iconst X 13 0 d_Mo_count_12 mg_ci_0 rfl ?_
    refine mg_goto X 22 d_Mo_count_13 (by decide) ?_
    refine mg_istore_n X 23 [(2, .int (nI (0))), (0, .ref (mh)), (1, .int (nI (1)))] d_Mo_count_22 hl (by decide) rfl rfl (fun ls hl => ?_)
    refine mg_iload_n X 24 d_Mo_count_23 (lv_at hl 2 rfl) rfl ?_
    refine mg_tsin X 69 (off := 45) d_Mo_count_24 (by decide +kernel) (by decide +kernel) (by decide +kernel) (by decide) ?_
    refine mg_aload_n X 70 d_Mo_count_69 (lv_at hl 1 rfl) rfl ?_
    refine mg_get X hK hw 73 0 2 f_Mo_89 rfl rfl d_Mo_count_70 rfl ?_
    exact mg_iret X hr hlk (rfl) (()) (rfl) hw d_Mo_count_73

set_option maxRecDepth 100000 in
set_option maxHeartbeats 4000000 in
theorem k_Mo_count2 (l : Launch) (D : va_G) (K : Nat → ClassId) (mh : Nat) (qor : Nat) (qfa : Nat) (qmo : Nat) (qwt : Nat) (qrt : Nat) (qnw : Nat) (qsn : Nat) (qlt : Nat) (qkn : Nat) (qft : Nat) (qbf : Nat) (qbh : Nat) (qjt : Nat) (qot : Nat) (qsm : Nat) (qpt : Nat) (qpr : Nat) (qch : Nat) (qbt : Nat) (qpg : Nat) (flt : Nat) (np : Nat) (nf : Nat) (nc : Nat) (nm : Nat) (wr : Nat) (hnp : np = nf + nc) (hnf : nf ≤ 3) (hnc : nc ≤ 3) (hnm4 : nm ≤ 4) : mg_Mi l D K y_Mo_count b_Mo_count 3 (.int) ({ frames := 1, cells := 0, slots := 0, locals := 20 }) [.ref (mh), .int (nI (2))] [mg_ob mh 6 [.int (nI (flt)), .int (nI (np)), .int (nI (nf)), .int (nI (nc)), .ref (qor), .ref (qfa), .ref (qmo), .int (nI (nm)), .ref (qwt), .ref (qrt), .ref (qnw), .ref (qsn), .ref (qlt), .ref (qkn), .ref (qft), .ref (qbf), .ref (qbh), .ref (qjt), .ref (qot), .ref (qsm), .ref (qpt), .ref (qpr), .ref (qch), .ref (qbt), .int (nI (wr)), .ref (qpg)]] (fun (r : Int32) (_ : Unit) => r = nI (nc)) (fun (_ : Unit) => [mg_ob mh 6 [.int (nI (0)), .int (nI (np)), .int (nI (nf)), .int (nI (nc)), .ref (qor), .ref (qfa), .ref (qmo), .int (nI (nm)), .ref (qwt), .ref (qrt), .ref (qnw), .ref (qsn), .ref (qlt), .ref (qkn), .ref (qft), .ref (qbf), .ref (qbh), .ref (qjt), .ref (qot), .ref (qsm), .ref (qpt), .ref (qpr), .ref (qch), .ref (qbt), .int (nI (wr)), .ref (qpg)]]) := by
  intro sz
  refine mg_entry (Qc := fun A => va_Qi (fun (r : Int32) (_ : Unit) => r = nI (nc)) (mg_B D A (fun (_ : Unit) => [mg_ob mh 6 [.int (nI (0)), .int (nI (np)), .int (nI (nf)), .int (nI (nc)), .ref (qor), .ref (qfa), .ref (qmo), .int (nI (nm)), .ref (qwt), .ref (qrt), .ref (qnw), .ref (qsn), .ref (qlt), .ref (qkn), .ref (qft), .ref (qbf), .ref (qbh), .ref (qjt), .ref (qot), .ref (qsm), .ref (qpt), .ref (qpr), .ref (qch), .ref (qbt), .int (nI (wr)), .ref (qpg)]])) A) (by decide) (Nat.le_of_ble_eq_true rfl) ?_
  intro p e s m args below meth c A ls X hr hlk hnm hA hK hw hl
  have hl : lv_has ls 3 [(0, .ref (mh)), (1, .int (nI (2)))] := hl
  refine mg_aload_n X 1 d_Mo_count_0 (lv_at hl 0 rfl) rfl ?_
  refine mg_iconst X 2 0 d_Mo_count_1 mg_ci_0 rfl ?_
  refine mg_put X hK hw 5 0 0 [mg_ob mh 6 [.int (nI (0)), .int (nI (np)), .int (nI (nf)), .int (nI (nc)), .ref (qor), .ref (qfa), .ref (qmo), .int (nI (nm)), .ref (qwt), .ref (qrt), .ref (qnw), .ref (qsn), .ref (qlt), .ref (qkn), .ref (qft), .ref (qbf), .ref (qbh), .ref (qjt), .ref (qot), .ref (qsm), .ref (qpt), .ref (qpr), .ref (qch), .ref (qbt), .int (nI (wr)), .ref (qpg)]] fp_Mo_76 rfl (Nat.le_of_ble_eq_true rfl) rfl rfl d_Mo_count_2 rfl rfl (fun H locs hw => ?_)
  refine mg_aload_n X 6 d_Mo_count_5 (lv_at hl 0 rfl) rfl ?_
  refine mg_get X hK hw 9 0 7 f_Mo_83 rfl rfl d_Mo_count_6 rfl ?_
  refine mg_if_ne X 16 12 (by omega) d_Mo_count_9 (by decide) rfl (fun hz => ?_) (fun hz => ?_)
  · -- pc 9 t
    refine mg_aload_n X 17 d_Mo_count_16 (lv_at hl 0 rfl) rfl ?_
    refine mg_get X hK hw 20 0 7 f_Mo_83 rfl rfl d_Mo_count_17 rfl ?_
    refine mg_iconst X 21 1 d_Mo_count_20 mg_ci_1 rfl ?_
    refine mg_isub X 22 (nI (nm - 1)) d_Mo_count_21 (pk_sub (by omega)) rfl ?_
    refine mg_istore_n X 23 [(2, .int (nI (nm - 1))), (0, .ref (mh)), (1, .int (nI (2)))] d_Mo_count_22 hl (by decide) rfl rfl (fun ls hl => ?_)
    refine mg_iload_n X 24 d_Mo_count_23 (lv_at hl 2 rfl) rfl ?_
    refine mg_tsin X 74 (off := 50) d_Mo_count_24 (by decide +kernel) (by decide +kernel) (by decide +kernel) (by decide) ?_
    refine mg_aload_n X 75 d_Mo_count_74 (lv_at hl 1 rfl) rfl ?_
    refine mg_get X hK hw 78 0 3 f_Mo_86 rfl rfl d_Mo_count_75 rfl ?_
    exact mg_iret X hr hlk (rfl) (()) (rfl) hw d_Mo_count_78
  · -- pc 9 f
    refine mg_iconst X 13 0 d_Mo_count_12 mg_ci_0 rfl ?_
    refine mg_goto X 22 d_Mo_count_13 (by decide) ?_
    refine mg_istore_n X 23 [(2, .int (nI (0))), (0, .ref (mh)), (1, .int (nI (2)))] d_Mo_count_22 hl (by decide) rfl rfl (fun ls hl => ?_)
    refine mg_iload_n X 24 d_Mo_count_23 (lv_at hl 2 rfl) rfl ?_
    refine mg_tsin X 74 (off := 50) d_Mo_count_24 (by decide +kernel) (by decide +kernel) (by decide +kernel) (by decide) ?_
    refine mg_aload_n X 75 d_Mo_count_74 (lv_at hl 1 rfl) rfl ?_
    refine mg_get X hK hw 78 0 3 f_Mo_86 rfl rfl d_Mo_count_75 rfl ?_
    exact mg_iret X hr hlk (rfl) (()) (rfl) hw d_Mo_count_78

set_option maxRecDepth 100000 in
set_option maxHeartbeats 4000000 in
theorem k_Mo_count3 (l : Launch) (D : va_G) (K : Nat → ClassId) (mh : Nat) (qor : Nat) (qfa : Nat) (qmo : Nat) (qwt : Nat) (qrt : Nat) (qnw : Nat) (qsn : Nat) (qlt : Nat) (qkn : Nat) (qft : Nat) (qbf : Nat) (qbh : Nat) (qjt : Nat) (qot : Nat) (qsm : Nat) (qpt : Nat) (qpr : Nat) (qch : Nat) (qbt : Nat) (qpg : Nat) (flt : Nat) (np : Nat) (nf : Nat) (nc : Nat) (nm : Nat) (wr : Nat) (hnp : np = nf + nc) (hnf : nf ≤ 3) (hnc : nc ≤ 3) (hnm4 : nm ≤ 4) : mg_Mi l D K y_Mo_count b_Mo_count 3 (.int) ({ frames := 1, cells := 0, slots := 0, locals := 20 }) [.ref (mh), .int (nI (3))] [mg_ob mh 6 [.int (nI (flt)), .int (nI (np)), .int (nI (nf)), .int (nI (nc)), .ref (qor), .ref (qfa), .ref (qmo), .int (nI (nm)), .ref (qwt), .ref (qrt), .ref (qnw), .ref (qsn), .ref (qlt), .ref (qkn), .ref (qft), .ref (qbf), .ref (qbh), .ref (qjt), .ref (qot), .ref (qsm), .ref (qpt), .ref (qpr), .ref (qch), .ref (qbt), .int (nI (wr)), .ref (qpg)]] (fun (r : Int32) (_ : Unit) => r = nI (nm)) (fun (_ : Unit) => [mg_ob mh 6 [.int (nI (0)), .int (nI (np)), .int (nI (nf)), .int (nI (nc)), .ref (qor), .ref (qfa), .ref (qmo), .int (nI (nm)), .ref (qwt), .ref (qrt), .ref (qnw), .ref (qsn), .ref (qlt), .ref (qkn), .ref (qft), .ref (qbf), .ref (qbh), .ref (qjt), .ref (qot), .ref (qsm), .ref (qpt), .ref (qpr), .ref (qch), .ref (qbt), .int (nI (wr)), .ref (qpg)]]) := by
  intro sz
  refine mg_entry (Qc := fun A => va_Qi (fun (r : Int32) (_ : Unit) => r = nI (nm)) (mg_B D A (fun (_ : Unit) => [mg_ob mh 6 [.int (nI (0)), .int (nI (np)), .int (nI (nf)), .int (nI (nc)), .ref (qor), .ref (qfa), .ref (qmo), .int (nI (nm)), .ref (qwt), .ref (qrt), .ref (qnw), .ref (qsn), .ref (qlt), .ref (qkn), .ref (qft), .ref (qbf), .ref (qbh), .ref (qjt), .ref (qot), .ref (qsm), .ref (qpt), .ref (qpr), .ref (qch), .ref (qbt), .int (nI (wr)), .ref (qpg)]])) A) (by decide) (Nat.le_of_ble_eq_true rfl) ?_
  intro p e s m args below meth c A ls X hr hlk hnm hA hK hw hl
  have hl : lv_has ls 3 [(0, .ref (mh)), (1, .int (nI (3)))] := hl
  refine mg_aload_n X 1 d_Mo_count_0 (lv_at hl 0 rfl) rfl ?_
  refine mg_iconst X 2 0 d_Mo_count_1 mg_ci_0 rfl ?_
  refine mg_put X hK hw 5 0 0 [mg_ob mh 6 [.int (nI (0)), .int (nI (np)), .int (nI (nf)), .int (nI (nc)), .ref (qor), .ref (qfa), .ref (qmo), .int (nI (nm)), .ref (qwt), .ref (qrt), .ref (qnw), .ref (qsn), .ref (qlt), .ref (qkn), .ref (qft), .ref (qbf), .ref (qbh), .ref (qjt), .ref (qot), .ref (qsm), .ref (qpt), .ref (qpr), .ref (qch), .ref (qbt), .int (nI (wr)), .ref (qpg)]] fp_Mo_76 rfl (Nat.le_of_ble_eq_true rfl) rfl rfl d_Mo_count_2 rfl rfl (fun H locs hw => ?_)
  refine mg_aload_n X 6 d_Mo_count_5 (lv_at hl 0 rfl) rfl ?_
  refine mg_get X hK hw 9 0 7 f_Mo_83 rfl rfl d_Mo_count_6 rfl ?_
  refine mg_if_ne X 16 12 (by omega) d_Mo_count_9 (by decide) rfl (fun hz => ?_) (fun hz => ?_)
  · -- pc 9 t
    refine mg_aload_n X 17 d_Mo_count_16 (lv_at hl 0 rfl) rfl ?_
    refine mg_get X hK hw 20 0 7 f_Mo_83 rfl rfl d_Mo_count_17 rfl ?_
    refine mg_iconst X 21 1 d_Mo_count_20 mg_ci_1 rfl ?_
    refine mg_isub X 22 (nI (nm - 1)) d_Mo_count_21 (pk_sub (by omega)) rfl ?_
    refine mg_istore_n X 23 [(2, .int (nI (nm - 1))), (0, .ref (mh)), (1, .int (nI (3)))] d_Mo_count_22 hl (by decide) rfl rfl (fun ls hl => ?_)
    refine mg_iload_n X 24 d_Mo_count_23 (lv_at hl 2 rfl) rfl ?_
    refine mg_tsin X 79 (off := 55) d_Mo_count_24 (by decide +kernel) (by decide +kernel) (by decide +kernel) (by decide) ?_
    refine mg_aload_n X 80 d_Mo_count_79 (lv_at hl 1 rfl) rfl ?_
    refine mg_get X hK hw 83 0 7 f_Mo_83 rfl rfl d_Mo_count_80 rfl ?_
    exact mg_iret X hr hlk (rfl) (()) (rfl) hw d_Mo_count_83
  · -- pc 9 f
    refine mg_iconst X 13 0 d_Mo_count_12 mg_ci_0 rfl ?_
    refine mg_goto X 22 d_Mo_count_13 (by decide) ?_
    refine mg_istore_n X 23 [(2, .int (nI (0))), (0, .ref (mh)), (1, .int (nI (3)))] d_Mo_count_22 hl (by decide) rfl rfl (fun ls hl => ?_)
    refine mg_iload_n X 24 d_Mo_count_23 (lv_at hl 2 rfl) rfl ?_
    refine mg_tsin X 79 (off := 55) d_Mo_count_24 (by decide +kernel) (by decide +kernel) (by decide +kernel) (by decide) ?_
    refine mg_aload_n X 80 d_Mo_count_79 (lv_at hl 1 rfl) rfl ?_
    refine mg_get X hK hw 83 0 7 f_Mo_83 rfl rfl d_Mo_count_80 rfl ?_
    exact mg_iret X hr hlk (rfl) (()) (rfl) hw d_Mo_count_83

set_option maxRecDepth 100000 in
set_option maxHeartbeats 4000000 in
theorem k_Mo_count4 (l : Launch) (D : va_G) (K : Nat → ClassId) (mh : Nat) (qor : Nat) (qfa : Nat) (qmo : Nat) (qwt : Nat) (qrt : Nat) (qnw : Nat) (qsn : Nat) (qlt : Nat) (qkn : Nat) (qft : Nat) (qbf : Nat) (qbh : Nat) (qjt : Nat) (qot : Nat) (qsm : Nat) (qpt : Nat) (qpr : Nat) (qch : Nat) (qbt : Nat) (qpg : Nat) (flt : Nat) (np : Nat) (nf : Nat) (nc : Nat) (nm : Nat) (wr : Nat) (hnp : np = nf + nc) (hnf : nf ≤ 3) (hnc : nc ≤ 3) (hnm4 : nm ≤ 4) : mg_Mi l D K y_Mo_count b_Mo_count 3 (.int) ({ frames := 1, cells := 0, slots := 0, locals := 20 }) [.ref (mh), .int (nI (4))] [mg_ob mh 6 [.int (nI (flt)), .int (nI (np)), .int (nI (nf)), .int (nI (nc)), .ref (qor), .ref (qfa), .ref (qmo), .int (nI (nm)), .ref (qwt), .ref (qrt), .ref (qnw), .ref (qsn), .ref (qlt), .ref (qkn), .ref (qft), .ref (qbf), .ref (qbh), .ref (qjt), .ref (qot), .ref (qsm), .ref (qpt), .ref (qpr), .ref (qch), .ref (qbt), .int (nI (wr)), .ref (qpg)]] (fun (r : Int32) (_ : Unit) => r = nI (2 ^ (2 * nc))) (fun (_ : Unit) => [mg_ob mh 6 [.int (nI (0)), .int (nI (np)), .int (nI (nf)), .int (nI (nc)), .ref (qor), .ref (qfa), .ref (qmo), .int (nI (nm)), .ref (qwt), .ref (qrt), .ref (qnw), .ref (qsn), .ref (qlt), .ref (qkn), .ref (qft), .ref (qbf), .ref (qbh), .ref (qjt), .ref (qot), .ref (qsm), .ref (qpt), .ref (qpr), .ref (qch), .ref (qbt), .int (nI (wr)), .ref (qpg)]]) := by
  intro sz
  refine mg_entry (Qc := fun A => va_Qi (fun (r : Int32) (_ : Unit) => r = nI (2 ^ (2 * nc))) (mg_B D A (fun (_ : Unit) => [mg_ob mh 6 [.int (nI (0)), .int (nI (np)), .int (nI (nf)), .int (nI (nc)), .ref (qor), .ref (qfa), .ref (qmo), .int (nI (nm)), .ref (qwt), .ref (qrt), .ref (qnw), .ref (qsn), .ref (qlt), .ref (qkn), .ref (qft), .ref (qbf), .ref (qbh), .ref (qjt), .ref (qot), .ref (qsm), .ref (qpt), .ref (qpr), .ref (qch), .ref (qbt), .int (nI (wr)), .ref (qpg)]])) A) (by decide) (Nat.le_of_ble_eq_true rfl) ?_
  intro p e s m args below meth c A ls X hr hlk hnm hA hK hw hl
  have hl : lv_has ls 3 [(0, .ref (mh)), (1, .int (nI (4)))] := hl
  refine mg_aload_n X 1 d_Mo_count_0 (lv_at hl 0 rfl) rfl ?_
  refine mg_iconst X 2 0 d_Mo_count_1 mg_ci_0 rfl ?_
  refine mg_put X hK hw 5 0 0 [mg_ob mh 6 [.int (nI (0)), .int (nI (np)), .int (nI (nf)), .int (nI (nc)), .ref (qor), .ref (qfa), .ref (qmo), .int (nI (nm)), .ref (qwt), .ref (qrt), .ref (qnw), .ref (qsn), .ref (qlt), .ref (qkn), .ref (qft), .ref (qbf), .ref (qbh), .ref (qjt), .ref (qot), .ref (qsm), .ref (qpt), .ref (qpr), .ref (qch), .ref (qbt), .int (nI (wr)), .ref (qpg)]] fp_Mo_76 rfl (Nat.le_of_ble_eq_true rfl) rfl rfl d_Mo_count_2 rfl rfl (fun H locs hw => ?_)
  refine mg_aload_n X 6 d_Mo_count_5 (lv_at hl 0 rfl) rfl ?_
  refine mg_get X hK hw 9 0 7 f_Mo_83 rfl rfl d_Mo_count_6 rfl ?_
  refine mg_if_ne X 16 12 (by omega) d_Mo_count_9 (by decide) rfl (fun hz => ?_) (fun hz => ?_)
  · -- pc 9 t
    refine mg_aload_n X 17 d_Mo_count_16 (lv_at hl 0 rfl) rfl ?_
    refine mg_get X hK hw 20 0 7 f_Mo_83 rfl rfl d_Mo_count_17 rfl ?_
    refine mg_iconst X 21 1 d_Mo_count_20 mg_ci_1 rfl ?_
    refine mg_isub X 22 (nI (nm - 1)) d_Mo_count_21 (pk_sub (by omega)) rfl ?_
    refine mg_istore_n X 23 [(2, .int (nI (nm - 1))), (0, .ref (mh)), (1, .int (nI (4)))] d_Mo_count_22 hl (by decide) rfl rfl (fun ls hl => ?_)
    refine mg_iload_n X 24 d_Mo_count_23 (lv_at hl 2 rfl) rfl ?_
    refine mg_tsin X 84 (off := 60) d_Mo_count_24 (by decide +kernel) (by decide +kernel) (by decide +kernel) (by decide) ?_
    refine mg_aload_n X 85 d_Mo_count_84 (lv_at hl 1 rfl) rfl ?_
    refine mg_callVi X hK hw hA 88 [0] 0 (fun _ => [mg_ob mh 6 [.int (nI (0)), .int (nI (np)), .int (nI (nf)), .int (nI (nc)), .ref (qor), .ref (qfa), .ref (qmo), .int (nI (nm)), .ref (qwt), .ref (qrt), .ref (qnw), .ref (qsn), .ref (qlt), .ref (qkn), .ref (qft), .ref (qbf), .ref (qbh), .ref (qjt), .ref (qot), .ref (qsm), .ref (qpt), .ref (qpr), .ref (qch), .ref (qbt), .int (nI (wr)), .ref (qpg)]]) rfl rfl (k_Mo_ways l D K mh qor qfa qmo qwt qrt qnw qsn qlt qkn qft qbf qbh qjt qot qsm qpt qpr qch qbt qpg 0 np nf nc nm wr (by omega)) g_Mo_115 ⟨by decide, by decide⟩ ⟨rfl, rfl⟩ rfl rfl rfl hl.1 (rest := []) (As := []) rfl (Nat.le_of_ble_eq_true rfl) d_Mo_count_85 ⟨Nat.zero_le _, Nat.zero_le _⟩ (fun _ => rfl) (fun _ => rfl) rfl ?_
    intro r _ H locs hp2 hw
    subst hp2
    exact mg_iret X hr hlk (rfl) (()) (rfl) hw d_Mo_count_88
  · -- pc 9 f
    refine mg_iconst X 13 0 d_Mo_count_12 mg_ci_0 rfl ?_
    refine mg_goto X 22 d_Mo_count_13 (by decide) ?_
    refine mg_istore_n X 23 [(2, .int (nI (0))), (0, .ref (mh)), (1, .int (nI (4)))] d_Mo_count_22 hl (by decide) rfl rfl (fun ls hl => ?_)
    refine mg_iload_n X 24 d_Mo_count_23 (lv_at hl 2 rfl) rfl ?_
    refine mg_tsin X 84 (off := 60) d_Mo_count_24 (by decide +kernel) (by decide +kernel) (by decide +kernel) (by decide) ?_
    refine mg_aload_n X 85 d_Mo_count_84 (lv_at hl 1 rfl) rfl ?_
    refine mg_callVi X hK hw hA 88 [0] 0 (fun _ => [mg_ob mh 6 [.int (nI (0)), .int (nI (np)), .int (nI (nf)), .int (nI (nc)), .ref (qor), .ref (qfa), .ref (qmo), .int (nI (nm)), .ref (qwt), .ref (qrt), .ref (qnw), .ref (qsn), .ref (qlt), .ref (qkn), .ref (qft), .ref (qbf), .ref (qbh), .ref (qjt), .ref (qot), .ref (qsm), .ref (qpt), .ref (qpr), .ref (qch), .ref (qbt), .int (nI (wr)), .ref (qpg)]]) rfl rfl (k_Mo_ways l D K mh qor qfa qmo qwt qrt qnw qsn qlt qkn qft qbf qbh qjt qot qsm qpt qpr qch qbt qpg 0 np nf nc nm wr (by omega)) g_Mo_115 ⟨by decide, by decide⟩ ⟨rfl, rfl⟩ rfl rfl rfl hl.1 (rest := []) (As := []) rfl (Nat.le_of_ble_eq_true rfl) d_Mo_count_85 ⟨Nat.zero_le _, Nat.zero_le _⟩ (fun _ => rfl) (fun _ => rfl) rfl ?_
    intro r _ H locs hp4 hw
    subst hp4
    exact mg_iret X hr hlk (rfl) (()) (rfl) hw d_Mo_count_88

set_option maxRecDepth 100000 in
set_option maxHeartbeats 4000000 in
theorem k_Mo_count5 (l : Launch) (D : va_G) (K : Nat → ClassId) (mh : Nat) (qor : Nat) (qfa : Nat) (qmo : Nat) (qwt : Nat) (qrt : Nat) (qnw : Nat) (qsn : Nat) (qlt : Nat) (qkn : Nat) (qft : Nat) (qbf : Nat) (qbh : Nat) (qjt : Nat) (qot : Nat) (qsm : Nat) (qpt : Nat) (qpr : Nat) (qch : Nat) (qbt : Nat) (qpg : Nat) (flt : Nat) (np : Nat) (nf : Nat) (nc : Nat) (nm : Nat) (wr : Nat) (hnp : np = nf + nc) (hnf : nf ≤ 3) (hnc : nc ≤ 3) (hnm4 : nm ≤ 4) : mg_Mi l D K y_Mo_count b_Mo_count 3 (.int) ({ frames := 1, cells := 0, slots := 0, locals := 20 }) [.ref (mh), .int (nI (5))] [mg_ob mh 6 [.int (nI (flt)), .int (nI (np)), .int (nI (nf)), .int (nI (nc)), .ref (qor), .ref (qfa), .ref (qmo), .int (nI (nm)), .ref (qwt), .ref (qrt), .ref (qnw), .ref (qsn), .ref (qlt), .ref (qkn), .ref (qft), .ref (qbf), .ref (qbh), .ref (qjt), .ref (qot), .ref (qsm), .ref (qpt), .ref (qpr), .ref (qch), .ref (qbt), .int (nI (wr)), .ref (qpg)]] (fun (r : Int32) (_ : Unit) => r = nI (2 * nc + 6 * nf * nm + 8 * nc * (nm - 1))) (fun (_ : Unit) => [mg_ob mh 6 [.int (nI (0)), .int (nI (np)), .int (nI (nf)), .int (nI (nc)), .ref (qor), .ref (qfa), .ref (qmo), .int (nI (nm)), .ref (qwt), .ref (qrt), .ref (qnw), .ref (qsn), .ref (qlt), .ref (qkn), .ref (qft), .ref (qbf), .ref (qbh), .ref (qjt), .ref (qot), .ref (qsm), .ref (qpt), .ref (qpr), .ref (qch), .ref (qbt), .int (nI (wr)), .ref (qpg)]]) := by
  intro sz
  refine mg_entry (Qc := fun A => va_Qi (fun (r : Int32) (_ : Unit) => r = nI (2 * nc + 6 * nf * nm + 8 * nc * (nm - 1))) (mg_B D A (fun (_ : Unit) => [mg_ob mh 6 [.int (nI (0)), .int (nI (np)), .int (nI (nf)), .int (nI (nc)), .ref (qor), .ref (qfa), .ref (qmo), .int (nI (nm)), .ref (qwt), .ref (qrt), .ref (qnw), .ref (qsn), .ref (qlt), .ref (qkn), .ref (qft), .ref (qbf), .ref (qbh), .ref (qjt), .ref (qot), .ref (qsm), .ref (qpt), .ref (qpr), .ref (qch), .ref (qbt), .int (nI (wr)), .ref (qpg)]])) A) (by decide) (Nat.le_of_ble_eq_true rfl) ?_
  intro p e s m args below meth c A ls X hr hlk hnm hA hK hw hl
  have hl : lv_has ls 3 [(0, .ref (mh)), (1, .int (nI (5)))] := hl
  refine mg_aload_n X 1 d_Mo_count_0 (lv_at hl 0 rfl) rfl ?_
  refine mg_iconst X 2 0 d_Mo_count_1 mg_ci_0 rfl ?_
  refine mg_put X hK hw 5 0 0 [mg_ob mh 6 [.int (nI (0)), .int (nI (np)), .int (nI (nf)), .int (nI (nc)), .ref (qor), .ref (qfa), .ref (qmo), .int (nI (nm)), .ref (qwt), .ref (qrt), .ref (qnw), .ref (qsn), .ref (qlt), .ref (qkn), .ref (qft), .ref (qbf), .ref (qbh), .ref (qjt), .ref (qot), .ref (qsm), .ref (qpt), .ref (qpr), .ref (qch), .ref (qbt), .int (nI (wr)), .ref (qpg)]] fp_Mo_76 rfl (Nat.le_of_ble_eq_true rfl) rfl rfl d_Mo_count_2 rfl rfl (fun H locs hw => ?_)
  refine mg_aload_n X 6 d_Mo_count_5 (lv_at hl 0 rfl) rfl ?_
  refine mg_get X hK hw 9 0 7 f_Mo_83 rfl rfl d_Mo_count_6 rfl ?_
  refine mg_if_ne X 16 12 (by omega) d_Mo_count_9 (by decide) rfl (fun hz => ?_) (fun hz => ?_)
  · -- pc 9 t
    refine mg_aload_n X 17 d_Mo_count_16 (lv_at hl 0 rfl) rfl ?_
    refine mg_get X hK hw 20 0 7 f_Mo_83 rfl rfl d_Mo_count_17 rfl ?_
    refine mg_iconst X 21 1 d_Mo_count_20 mg_ci_1 rfl ?_
    refine mg_isub X 22 (nI (nm - 1)) d_Mo_count_21 (pk_sub (by omega)) rfl ?_
    refine mg_istore_n X 23 [(2, .int (nI (nm - 1))), (0, .ref (mh)), (1, .int (nI (5)))] d_Mo_count_22 hl (by decide) rfl rfl (fun ls hl => ?_)
    refine mg_iload_n X 24 d_Mo_count_23 (lv_at hl 2 rfl) rfl ?_
    refine mg_tsin X 89 (off := 65) d_Mo_count_24 (by decide +kernel) (by decide +kernel) (by decide +kernel) (by decide) ?_
    refine mg_iconst X 90 2 d_Mo_count_89 mg_ci_2 rfl ?_
    refine mg_aload_n X 91 d_Mo_count_90 (lv_at hl 1 rfl) rfl ?_
    refine mg_get X hK hw 94 0 3 f_Mo_86 rfl rfl d_Mo_count_91 rfl ?_
    refine mg_imul X 95 (nI (2 * nc)) d_Mo_count_94 (pk_mul _ _) rfl ?_
    refine mg_bipush X 97 6 d_Mo_count_95 mg_cb_6 rfl ?_
    refine mg_aload_n X 98 d_Mo_count_97 (lv_at hl 1 rfl) rfl ?_
    refine mg_get X hK hw 101 0 2 f_Mo_89 rfl rfl d_Mo_count_98 rfl ?_
    refine mg_imul X 102 (nI (6 * nf)) d_Mo_count_101 (pk_mul _ _) rfl ?_
    refine mg_aload_n X 103 d_Mo_count_102 (lv_at hl 1 rfl) rfl ?_
    refine mg_get X hK hw 106 0 7 f_Mo_83 rfl rfl d_Mo_count_103 rfl ?_
    refine mg_imul X 107 (nI ((6 * nf) * nm)) d_Mo_count_106 (pk_mul _ _) rfl ?_
    refine mg_iadd X 108 (nI ((2 * nc) + ((6 * nf) * nm))) d_Mo_count_107 (nI_add _ _) rfl ?_
    refine mg_bipush X 110 8 d_Mo_count_108 mg_cb_8 rfl ?_
    refine mg_aload_n X 111 d_Mo_count_110 (lv_at hl 1 rfl) rfl ?_
    refine mg_get X hK hw 114 0 3 f_Mo_86 rfl rfl d_Mo_count_111 rfl ?_
    refine mg_imul X 115 (nI (8 * nc)) d_Mo_count_114 (pk_mul _ _) rfl ?_
    refine mg_iload_n X 116 d_Mo_count_115 (lv_at hl 0 rfl) rfl ?_
    refine mg_imul X 117 (nI ((8 * nc) * (nm - 1))) d_Mo_count_116 (pk_mul _ _) rfl ?_
    refine mg_iadd X 118 (nI (((2 * nc) + ((6 * nf) * nm)) + ((8 * nc) * (nm - 1)))) d_Mo_count_117 (nI_add _ _) rfl ?_
    exact mg_iret X hr hlk (rfl) (()) (rfl) hw d_Mo_count_118
  · -- pc 9 f
    refine mg_iconst X 13 0 d_Mo_count_12 mg_ci_0 rfl ?_
    refine mg_goto X 22 d_Mo_count_13 (by decide) ?_
    refine mg_istore_n X 23 [(2, .int (nI (0))), (0, .ref (mh)), (1, .int (nI (5)))] d_Mo_count_22 hl (by decide) rfl rfl (fun ls hl => ?_)
    refine mg_iload_n X 24 d_Mo_count_23 (lv_at hl 2 rfl) rfl ?_
    refine mg_tsin X 89 (off := 65) d_Mo_count_24 (by decide +kernel) (by decide +kernel) (by decide +kernel) (by decide) ?_
    refine mg_iconst X 90 2 d_Mo_count_89 mg_ci_2 rfl ?_
    refine mg_aload_n X 91 d_Mo_count_90 (lv_at hl 1 rfl) rfl ?_
    refine mg_get X hK hw 94 0 3 f_Mo_86 rfl rfl d_Mo_count_91 rfl ?_
    refine mg_imul X 95 (nI (2 * nc)) d_Mo_count_94 (pk_mul _ _) rfl ?_
    refine mg_bipush X 97 6 d_Mo_count_95 mg_cb_6 rfl ?_
    refine mg_aload_n X 98 d_Mo_count_97 (lv_at hl 1 rfl) rfl ?_
    refine mg_get X hK hw 101 0 2 f_Mo_89 rfl rfl d_Mo_count_98 rfl ?_
    refine mg_imul X 102 (nI (6 * nf)) d_Mo_count_101 (pk_mul _ _) rfl ?_
    refine mg_aload_n X 103 d_Mo_count_102 (lv_at hl 1 rfl) rfl ?_
    refine mg_get X hK hw 106 0 7 f_Mo_83 rfl rfl d_Mo_count_103 rfl ?_
    refine mg_imul X 107 (nI ((6 * nf) * nm)) d_Mo_count_106 (pk_mul _ _) rfl ?_
    refine mg_iadd X 108 (nI ((2 * nc) + ((6 * nf) * nm))) d_Mo_count_107 (nI_add _ _) rfl ?_
    refine mg_bipush X 110 8 d_Mo_count_108 mg_cb_8 rfl ?_
    refine mg_aload_n X 111 d_Mo_count_110 (lv_at hl 1 rfl) rfl ?_
    refine mg_get X hK hw 114 0 3 f_Mo_86 rfl rfl d_Mo_count_111 rfl ?_
    refine mg_imul X 115 (nI (8 * nc)) d_Mo_count_114 (pk_mul _ _) rfl ?_
    refine mg_iload_n X 116 d_Mo_count_115 (lv_at hl 0 rfl) rfl ?_
    refine mg_imul X 117 (nI ((8 * nc) * 0)) d_Mo_count_116 (pk_mul _ _) rfl ?_
    refine mg_iadd X 118 (nI (((2 * nc) + ((6 * nf) * nm)) + ((8 * nc) * 0))) d_Mo_count_117 (nI_add _ _) rfl ?_
    exact mg_iret X hr hlk (rfl) (()) (by rw [show nm - 1 = 0 by omega]) hw d_Mo_count_118

set_option maxRecDepth 100000 in
set_option maxHeartbeats 4000000 in
theorem k_Mo_countN (l : Launch) (D : va_G) (K : Nat → ClassId) (mh : Nat) (qor : Nat) (qfa : Nat) (qmo : Nat) (qwt : Nat) (qrt : Nat) (qnw : Nat) (qsn : Nat) (qlt : Nat) (qkn : Nat) (qft : Nat) (qbf : Nat) (qbh : Nat) (qjt : Nat) (qot : Nat) (qsm : Nat) (qpt : Nat) (qpr : Nat) (qch : Nat) (qbt : Nat) (qpg : Nat) (flt : Nat) (np : Nat) (nf : Nat) (nc : Nat) (nm : Nat) (wr : Nat) (x : Int32) (hnp : np = nf + nc) (hnf : nf ≤ 3) (hnc : nc ≤ 3) (hnm4 : nm ≤ 4) (hx : ¬ mg_lt x 6) : mg_Mi l D K y_Mo_count b_Mo_count 3 (.int) ({ frames := 1, cells := 0, slots := 0, locals := 20 }) [.ref (mh), .int (x)] [mg_ob mh 6 [.int (nI (flt)), .int (nI (np)), .int (nI (nf)), .int (nI (nc)), .ref (qor), .ref (qfa), .ref (qmo), .int (nI (nm)), .ref (qwt), .ref (qrt), .ref (qnw), .ref (qsn), .ref (qlt), .ref (qkn), .ref (qft), .ref (qbf), .ref (qbh), .ref (qjt), .ref (qot), .ref (qsm), .ref (qpt), .ref (qpr), .ref (qch), .ref (qbt), .int (nI (wr)), .ref (qpg)]] (fun (r : Int32) (_ : Unit) => r = nI (4294967295)) (fun (_ : Unit) => [mg_ob mh 6 [.int (nI (0)), .int (nI (np)), .int (nI (nf)), .int (nI (nc)), .ref (qor), .ref (qfa), .ref (qmo), .int (nI (nm)), .ref (qwt), .ref (qrt), .ref (qnw), .ref (qsn), .ref (qlt), .ref (qkn), .ref (qft), .ref (qbf), .ref (qbh), .ref (qjt), .ref (qot), .ref (qsm), .ref (qpt), .ref (qpr), .ref (qch), .ref (qbt), .int (nI (wr)), .ref (qpg)]]) := by
  intro sz
  refine mg_entry (Qc := fun A => va_Qi (fun (r : Int32) (_ : Unit) => r = nI (4294967295)) (mg_B D A (fun (_ : Unit) => [mg_ob mh 6 [.int (nI (0)), .int (nI (np)), .int (nI (nf)), .int (nI (nc)), .ref (qor), .ref (qfa), .ref (qmo), .int (nI (nm)), .ref (qwt), .ref (qrt), .ref (qnw), .ref (qsn), .ref (qlt), .ref (qkn), .ref (qft), .ref (qbf), .ref (qbh), .ref (qjt), .ref (qot), .ref (qsm), .ref (qpt), .ref (qpr), .ref (qch), .ref (qbt), .int (nI (wr)), .ref (qpg)]])) A) (by decide) (Nat.le_of_ble_eq_true rfl) ?_
  intro p e s m args below meth c A ls X hr hlk hnm hA hK hw hl
  have hl : lv_has ls 3 [(0, .ref (mh)), (1, .int (x))] := hl
  refine mg_aload_n X 1 d_Mo_count_0 (lv_at hl 0 rfl) rfl ?_
  refine mg_iconst X 2 0 d_Mo_count_1 mg_ci_0 rfl ?_
  refine mg_put X hK hw 5 0 0 [mg_ob mh 6 [.int (nI (0)), .int (nI (np)), .int (nI (nf)), .int (nI (nc)), .ref (qor), .ref (qfa), .ref (qmo), .int (nI (nm)), .ref (qwt), .ref (qrt), .ref (qnw), .ref (qsn), .ref (qlt), .ref (qkn), .ref (qft), .ref (qbf), .ref (qbh), .ref (qjt), .ref (qot), .ref (qsm), .ref (qpt), .ref (qpr), .ref (qch), .ref (qbt), .int (nI (wr)), .ref (qpg)]] fp_Mo_76 rfl (Nat.le_of_ble_eq_true rfl) rfl rfl d_Mo_count_2 rfl rfl (fun H locs hw => ?_)
  refine mg_aload_n X 6 d_Mo_count_5 (lv_at hl 0 rfl) rfl ?_
  refine mg_get X hK hw 9 0 7 f_Mo_83 rfl rfl d_Mo_count_6 rfl ?_
  refine mg_if_ne X 16 12 (by omega) d_Mo_count_9 (by decide) rfl (fun hz => ?_) (fun hz => ?_)
  · -- pc 9 t
    refine mg_aload_n X 17 d_Mo_count_16 (lv_at hl 0 rfl) rfl ?_
    refine mg_get X hK hw 20 0 7 f_Mo_83 rfl rfl d_Mo_count_17 rfl ?_
    refine mg_iconst X 21 1 d_Mo_count_20 mg_ci_1 rfl ?_
    refine mg_isub X 22 (nI (nm - 1)) d_Mo_count_21 (pk_sub (by omega)) rfl ?_
    refine mg_istore_n X 23 [(2, .int (nI (nm - 1))), (0, .ref (mh)), (1, .int (x))] d_Mo_count_22 hl (by decide) rfl rfl (fun ls hl => ?_)
    refine mg_iload_n X 24 d_Mo_count_23 (lv_at hl 2 rfl) rfl ?_
    refine mg_tsout X 119 d_Mo_count_24 (mg_out (n := 5) (by decide) hx) (by decide) ?_
    refine mg_iconst X 120 4294967295 d_Mo_count_119 mg_ci_m1 rfl ?_
    exact mg_iret X hr hlk (rfl) (()) (rfl) hw d_Mo_count_120
  · -- pc 9 f
    refine mg_iconst X 13 0 d_Mo_count_12 mg_ci_0 rfl ?_
    refine mg_goto X 22 d_Mo_count_13 (by decide) ?_
    refine mg_istore_n X 23 [(2, .int (nI (0))), (0, .ref (mh)), (1, .int (x))] d_Mo_count_22 hl (by decide) rfl rfl (fun ls hl => ?_)
    refine mg_iload_n X 24 d_Mo_count_23 (lv_at hl 2 rfl) rfl ?_
    refine mg_tsout X 119 d_Mo_count_24 (mg_out (n := 5) (by decide) hx) (by decide) ?_
    refine mg_iconst X 120 4294967295 d_Mo_count_119 mg_ci_m1 rfl ?_
    exact mg_iret X hr hlk (rfl) (()) (rfl) hw d_Mo_count_120

set_option maxRecDepth 100000 in
set_option maxHeartbeats 4000000 in
theorem k_Mo_count (l : Launch) (D : va_G) (K : Nat → ClassId) (mh : Nat) (qor : Nat) (qfa : Nat) (qmo : Nat) (qwt : Nat) (qrt : Nat) (qnw : Nat) (qsn : Nat) (qlt : Nat) (qkn : Nat) (qft : Nat) (qbf : Nat) (qbh : Nat) (qjt : Nat) (qot : Nat) (qsm : Nat) (qpt : Nat) (qpr : Nat) (qch : Nat) (qbt : Nat) (qpg : Nat) (flt : Nat) (np : Nat) (nf : Nat) (nc : Nat) (nm : Nat) (wr : Nat) (x : Int32) (hnp : np = nf + nc) (hnf : nf ≤ 3) (hnc : nc ≤ 3) (hnm4 : nm ≤ 4) : mg_Mi l D K y_Mo_count b_Mo_count 3 (.int) ({ frames := 1, cells := 0, slots := 0, locals := 20 }) [.ref (mh), .int (x)] [mg_ob mh 6 [.int (nI (flt)), .int (nI (np)), .int (nI (nf)), .int (nI (nc)), .ref (qor), .ref (qfa), .ref (qmo), .int (nI (nm)), .ref (qwt), .ref (qrt), .ref (qnw), .ref (qsn), .ref (qlt), .ref (qkn), .ref (qft), .ref (qbf), .ref (qbh), .ref (qjt), .ref (qot), .ref (qsm), .ref (qpt), .ref (qpr), .ref (qch), .ref (qbt), .int (nI (wr)), .ref (qpg)]] (fun (r : Int32) (_ : Unit) => r = nI (mg_cnt x np nf nc nm)) (fun (_ : Unit) => [mg_ob mh 6 [.int (nI (0)), .int (nI (np)), .int (nI (nf)), .int (nI (nc)), .ref (qor), .ref (qfa), .ref (qmo), .int (nI (nm)), .ref (qwt), .ref (qrt), .ref (qnw), .ref (qsn), .ref (qlt), .ref (qkn), .ref (qft), .ref (qbf), .ref (qbh), .ref (qjt), .ref (qot), .ref (qsm), .ref (qpt), .ref (qpr), .ref (qch), .ref (qbt), .int (nI (wr)), .ref (qpg)]]) := by
  by_cases h : mg_lt x 6
  · obtain ⟨j, hj, rfl⟩ := h
    rcases (show j = 0 ∨ j = 1 ∨ j = 2 ∨ j = 3 ∨ j = 4 ∨ j = 5 by omega) with e | e | e | e | e | e <;> subst e
    · exact k_Mo_count0 l D K mh qor qfa qmo qwt qrt qnw qsn qlt qkn qft qbf qbh qjt qot qsm qpt qpr qch qbt qpg flt np nf nc nm wr hnp hnf hnc hnm4
    · exact k_Mo_count1 l D K mh qor qfa qmo qwt qrt qnw qsn qlt qkn qft qbf qbh qjt qot qsm qpt qpr qch qbt qpg flt np nf nc nm wr hnp hnf hnc hnm4
    · exact k_Mo_count2 l D K mh qor qfa qmo qwt qrt qnw qsn qlt qkn qft qbf qbh qjt qot qsm qpt qpr qch qbt qpg flt np nf nc nm wr hnp hnf hnc hnm4
    · exact k_Mo_count3 l D K mh qor qfa qmo qwt qrt qnw qsn qlt qkn qft qbf qbh qjt qot qsm qpt qpr qch qbt qpg flt np nf nc nm wr hnp hnf hnc hnm4
    · exact k_Mo_count4 l D K mh qor qfa qmo qwt qrt qnw qsn qlt qkn qft qbf qbh qjt qot qsm qpt qpr qch qbt qpg flt np nf nc nm wr hnp hnf hnc hnm4
    · exact k_Mo_count5 l D K mh qor qfa qmo qwt qrt qnw qsn qlt qkn qft qbf qbh qjt qot qsm qpt qpr qch qbt qpg flt np nf nc nm wr hnp hnf hnc hnm4
  · rw [mg_cntN h]
    exact k_Mo_countN l D K mh qor qfa qmo qwt qrt qnw qsn qlt qkn qft qbf qbh qjt qot qsm qpt qpr qch qbt qpg flt np nf nc nm wr x hnp hnf hnc hnm4 h

set_option maxRecDepth 100000 in
set_option maxHeartbeats 4000000 in
theorem k_Mo_originN (l : Launch) (D : va_G) (K : Nat → ClassId) (mh : Nat) (qor : Nat) (qfa : Nat) (qmo : Nat) (qwt : Nat) (qrt : Nat) (qnw : Nat) (qsn : Nat) (qlt : Nat) (qkn : Nat) (qft : Nat) (qbf : Nat) (qbh : Nat) (qjt : Nat) (qot : Nat) (qsm : Nat) (qpt : Nat) (qpr : Nat) (qch : Nat) (qbt : Nat) (qpg : Nat) (flt : Nat) (np : Nat) (nf : Nat) (nc : Nat) (nm : Nat) (wr : Nat) (p1 : Int32) (c1 : Int32) (w1 : Int32) (hnp : np = nf + nc) (hnf : nf ≤ 3) (hnc : nc ≤ 3) (hx : ¬ (mg_lt p1 np ∧ mg_lt c1 2 ∧ mg_lt w1 (2 ^ (2 * nc)))) : mg_Mi l D K y_Mo_origin b_Mo_origin 5 (.int) ({ frames := 2, cells := 0, slots := 0, locals := 41 }) [.ref (mh), .int (p1), .int (c1), .int (w1)] [mg_ob mh 6 [.int (nI (flt)), .int (nI (np)), .int (nI (nf)), .int (nI (nc)), .ref (qor), .ref (qfa), .ref (qmo), .int (nI (nm)), .ref (qwt), .ref (qrt), .ref (qnw), .ref (qsn), .ref (qlt), .ref (qkn), .ref (qft), .ref (qbf), .ref (qbh), .ref (qjt), .ref (qot), .ref (qsm), .ref (qpt), .ref (qpr), .ref (qch), .ref (qbt), .int (nI (wr)), .ref (qpg)]] (fun (r : Int32) (_ : Unit) => r = nI (0)) (fun (_ : Unit) => [mg_ob mh 6 [.int (nI (1)), .int (nI (np)), .int (nI (nf)), .int (nI (nc)), .ref (qor), .ref (qfa), .ref (qmo), .int (nI (nm)), .ref (qwt), .ref (qrt), .ref (qnw), .ref (qsn), .ref (qlt), .ref (qkn), .ref (qft), .ref (qbf), .ref (qbh), .ref (qjt), .ref (qot), .ref (qsm), .ref (qpt), .ref (qpr), .ref (qch), .ref (qbt), .int (nI (wr)), .ref (qpg)]]) := by
  intro sz
  refine mg_entry (Qc := fun A => va_Qi (fun (r : Int32) (_ : Unit) => r = nI (0)) (mg_B D A (fun (_ : Unit) => [mg_ob mh 6 [.int (nI (1)), .int (nI (np)), .int (nI (nf)), .int (nI (nc)), .ref (qor), .ref (qfa), .ref (qmo), .int (nI (nm)), .ref (qwt), .ref (qrt), .ref (qnw), .ref (qsn), .ref (qlt), .ref (qkn), .ref (qft), .ref (qbf), .ref (qbh), .ref (qjt), .ref (qot), .ref (qsm), .ref (qpt), .ref (qpr), .ref (qch), .ref (qbt), .int (nI (wr)), .ref (qpg)]])) A) (by decide) (Nat.le_of_ble_eq_true rfl) ?_
  intro p e s m args below meth c A ls X hr hlk hnm hA hK hw hl
  have hl : lv_has ls 5 [(0, .ref (mh)), (1, .int (p1)), (2, .int (c1)), (3, .int (w1))] := hl
  refine mg_aload_n X 1 d_Mo_origin_0 (lv_at hl 0 rfl) rfl ?_
  refine mg_iload_n X 2 d_Mo_origin_1 (lv_at hl 1 rfl) rfl ?_
  refine mg_callVi X hK hw hA 5 [0] 0 (fun _ => [mg_ob mh 6 [.int (nI (flt)), .int (nI (np)), .int (nI (nf)), .int (nI (nc)), .ref (qor), .ref (qfa), .ref (qmo), .int (nI (nm)), .ref (qwt), .ref (qrt), .ref (qnw), .ref (qsn), .ref (qlt), .ref (qkn), .ref (qft), .ref (qbf), .ref (qbh), .ref (qjt), .ref (qot), .ref (qsm), .ref (qpt), .ref (qpr), .ref (qch), .ref (qbt), .int (nI (wr)), .ref (qpg)]]) rfl rfl (k_Mo_isPerson l D K mh qor qfa qmo qwt qrt qnw qsn qlt qkn qft qbf qbh qjt qot qsm qpt qpr qch qbt qpg flt np nf nc nm wr p1 (by omega)) g_Mo_103 ⟨by decide, by decide⟩ ⟨rfl, rfl⟩ rfl rfl rfl hl.1 (rest := []) (As := [.int (p1)]) rfl (Nat.le_of_ble_eq_true rfl) d_Mo_origin_2 ⟨Nat.zero_le _, Nat.zero_le _⟩ (fun _ => rfl) (fun _ => rfl) rfl ?_
  intro r _ H locs hp2 hw
  subst hp2
  refine mg_bif_eq X 29 8 d_Mo_origin_5 (by decide) rfl (fun b3 => ?_) (fun b3 => ?_)
  · -- pc 5 t
    refine mg_iconst X 30 0 d_Mo_origin_29 mg_ci_0 rfl ?_
    refine mg_istore X 32 [(4, .int (nI (0))), (0, .ref (mh)), (1, .int (p1)), (2, .int (c1)), (3, .int (w1))] d_Mo_origin_30 hl (by decide) rfl rfl (fun ls hl => ?_)
    refine mg_aload_n X 33 d_Mo_origin_32 (lv_at hl 1 rfl) rfl ?_
    refine mg_iload X 35 d_Mo_origin_33 (lv_at hl 0 rfl) rfl ?_
    refine mg_if_eq X 42 38 (by decide) d_Mo_origin_35 (by decide) rfl (fun _ => ?_) (fun b4 => absurd b4 (by decide))
    refine mg_iconst X 43 1 d_Mo_origin_42 mg_ci_1 rfl ?_
    refine mg_callVi X hK hw hA 46 [0] 0 (fun _ => [mg_ob mh 6 [.int (nI (1)), .int (nI (np)), .int (nI (nf)), .int (nI (nc)), .ref (qor), .ref (qfa), .ref (qmo), .int (nI (nm)), .ref (qwt), .ref (qrt), .ref (qnw), .ref (qsn), .ref (qlt), .ref (qkn), .ref (qft), .ref (qbf), .ref (qbh), .ref (qjt), .ref (qot), .ref (qsm), .ref (qpt), .ref (qpr), .ref (qch), .ref (qbt), .int (nI (wr)), .ref (qpg)]]) rfl rfl (k_Mo_refused l D K mh qor qfa qmo qwt qrt qnw qsn qlt qkn qft qbf qbh qjt qot qsm qpt qpr qch qbt qpg flt np nf nc nm wr 1 (by omega)) g_Mo_96 ⟨by decide, by decide⟩ ⟨rfl, rfl⟩ rfl rfl rfl hl.1 (rest := []) (As := [.int (nI (1))]) rfl (Nat.le_of_ble_eq_true rfl) d_Mo_origin_43 ⟨Nat.zero_le _, Nat.zero_le _⟩ (fun _ => rfl) (fun _ => rfl) rfl ?_
    intro r _ H locs hp6 hw
    subst hp6
    refine mg_bif_eq X 53 49 d_Mo_origin_46 (by decide) rfl (fun b7 => absurd b7 (by decide)) (fun _ => ?_)
    refine mg_iconst X 50 0 d_Mo_origin_49 mg_ci_0 rfl ?_
    refine mg_goto X 60 d_Mo_origin_50 (by decide) ?_
    exact mg_iret X hr hlk (rfl) (()) (rfl) hw d_Mo_origin_60
  · -- pc 5 f
    obtain ⟨jp1, hp1, rfl⟩ := b3
    refine mg_iload_n X 9 d_Mo_origin_8 (lv_at hl 2 rfl) rfl ?_
    refine mg_reif_eq X 17 12 d_Mo_origin_9 (by decide) rfl (fun h0 => ?_) (fun h0 => ?_)
    · -- pc 9 t
      refine mg_aload_n X 18 d_Mo_origin_17 (lv_at hl 0 rfl) rfl ?_
      refine mg_iload_n X 19 d_Mo_origin_18 (lv_at hl 3 rfl) rfl ?_
      refine mg_callVi X hK hw hA 22 [0] 0 (fun _ => [mg_ob mh 6 [.int (nI (flt)), .int (nI (np)), .int (nI (nf)), .int (nI (nc)), .ref (qor), .ref (qfa), .ref (qmo), .int (nI (nm)), .ref (qwt), .ref (qrt), .ref (qnw), .ref (qsn), .ref (qlt), .ref (qkn), .ref (qft), .ref (qbf), .ref (qbh), .ref (qjt), .ref (qot), .ref (qsm), .ref (qpt), .ref (qpr), .ref (qch), .ref (qbt), .int (nI (wr)), .ref (qpg)]]) rfl rfl (k_Mo_isWay l D K mh qor qfa qmo qwt qrt qnw qsn qlt qkn qft qbf qbh qjt qot qsm qpt qpr qch qbt qpg flt np nf nc nm wr w1 (by omega)) g_Mo_119 ⟨by decide, by decide⟩ ⟨rfl, rfl⟩ rfl rfl rfl hl.1 (rest := []) (As := [.int (w1)]) rfl (Nat.le_of_ble_eq_true rfl) d_Mo_origin_19 ⟨Nat.zero_le _, Nat.zero_le _⟩ (fun _ => rfl) (fun _ => rfl) rfl ?_
      intro r _ H locs hp9 hw
      subst hp9
      refine mg_bif_eq X 29 25 d_Mo_origin_22 (by decide) rfl (fun b10 => ?_) (fun b10 => ?_)
      · -- pc 22 t
        refine mg_iconst X 30 0 d_Mo_origin_29 mg_ci_0 rfl ?_
        refine mg_istore X 32 [(4, .int (nI (0))), (0, .ref (mh)), (1, .int (nI (jp1))), (2, .int (c1)), (3, .int (w1))] d_Mo_origin_30 hl (by decide) rfl rfl (fun ls hl => ?_)
        refine mg_aload_n X 33 d_Mo_origin_32 (lv_at hl 1 rfl) rfl ?_
        refine mg_iload X 35 d_Mo_origin_33 (lv_at hl 0 rfl) rfl ?_
        refine mg_if_eq X 42 38 (by decide) d_Mo_origin_35 (by decide) rfl (fun _ => ?_) (fun b11 => absurd b11 (by decide))
        refine mg_iconst X 43 1 d_Mo_origin_42 mg_ci_1 rfl ?_
        refine mg_callVi X hK hw hA 46 [0] 0 (fun _ => [mg_ob mh 6 [.int (nI (1)), .int (nI (np)), .int (nI (nf)), .int (nI (nc)), .ref (qor), .ref (qfa), .ref (qmo), .int (nI (nm)), .ref (qwt), .ref (qrt), .ref (qnw), .ref (qsn), .ref (qlt), .ref (qkn), .ref (qft), .ref (qbf), .ref (qbh), .ref (qjt), .ref (qot), .ref (qsm), .ref (qpt), .ref (qpr), .ref (qch), .ref (qbt), .int (nI (wr)), .ref (qpg)]]) rfl rfl (k_Mo_refused l D K mh qor qfa qmo qwt qrt qnw qsn qlt qkn qft qbf qbh qjt qot qsm qpt qpr qch qbt qpg flt np nf nc nm wr 1 (by omega)) g_Mo_96 ⟨by decide, by decide⟩ ⟨rfl, rfl⟩ rfl rfl rfl hl.1 (rest := []) (As := [.int (nI (1))]) rfl (Nat.le_of_ble_eq_true rfl) d_Mo_origin_43 ⟨Nat.zero_le _, Nat.zero_le _⟩ (fun _ => rfl) (fun _ => rfl) rfl ?_
        intro r _ H locs hp13 hw
        subst hp13
        refine mg_bif_eq X 53 49 d_Mo_origin_46 (by decide) rfl (fun b14 => absurd b14 (by decide)) (fun _ => ?_)
        refine mg_iconst X 50 0 d_Mo_origin_49 mg_ci_0 rfl ?_
        refine mg_goto X 60 d_Mo_origin_50 (by decide) ?_
        exact mg_iret X hr hlk (rfl) (()) (rfl) hw d_Mo_origin_60
      · -- pc 22 f
        obtain ⟨jw1, hw1, rfl⟩ := b10
        exact absurd (show mg_lt _ _ ∧ mg_lt _ _ ∧ mg_lt _ _ from ⟨⟨jp1, hp1, rfl⟩, (by first | exact ⟨0, by omega, h0⟩ | exact ⟨1, by omega, h1⟩), ⟨jw1, hw1, rfl⟩⟩) hx
    · -- pc 9 f
      refine mg_iload_n X 13 d_Mo_origin_12 (lv_at hl 2 rfl) rfl ?_
      refine mg_iconst X 14 1 d_Mo_origin_13 mg_ci_1 rfl ?_
      refine mg_reic_ne X 29 17 d_Mo_origin_14 (by decide) rfl (fun h1 => ?_) (fun h1 => ?_)
      · -- pc 14 t
        refine mg_iconst X 30 0 d_Mo_origin_29 mg_ci_0 rfl ?_
        refine mg_istore X 32 [(4, .int (nI (0))), (0, .ref (mh)), (1, .int (nI (jp1))), (2, .int (c1)), (3, .int (w1))] d_Mo_origin_30 hl (by decide) rfl rfl (fun ls hl => ?_)
        refine mg_aload_n X 33 d_Mo_origin_32 (lv_at hl 1 rfl) rfl ?_
        refine mg_iload X 35 d_Mo_origin_33 (lv_at hl 0 rfl) rfl ?_
        refine mg_if_eq X 42 38 (by decide) d_Mo_origin_35 (by decide) rfl (fun _ => ?_) (fun b15 => absurd b15 (by decide))
        refine mg_iconst X 43 1 d_Mo_origin_42 mg_ci_1 rfl ?_
        refine mg_callVi X hK hw hA 46 [0] 0 (fun _ => [mg_ob mh 6 [.int (nI (1)), .int (nI (np)), .int (nI (nf)), .int (nI (nc)), .ref (qor), .ref (qfa), .ref (qmo), .int (nI (nm)), .ref (qwt), .ref (qrt), .ref (qnw), .ref (qsn), .ref (qlt), .ref (qkn), .ref (qft), .ref (qbf), .ref (qbh), .ref (qjt), .ref (qot), .ref (qsm), .ref (qpt), .ref (qpr), .ref (qch), .ref (qbt), .int (nI (wr)), .ref (qpg)]]) rfl rfl (k_Mo_refused l D K mh qor qfa qmo qwt qrt qnw qsn qlt qkn qft qbf qbh qjt qot qsm qpt qpr qch qbt qpg flt np nf nc nm wr 1 (by omega)) g_Mo_96 ⟨by decide, by decide⟩ ⟨rfl, rfl⟩ rfl rfl rfl hl.1 (rest := []) (As := [.int (nI (1))]) rfl (Nat.le_of_ble_eq_true rfl) d_Mo_origin_43 ⟨Nat.zero_le _, Nat.zero_le _⟩ (fun _ => rfl) (fun _ => rfl) rfl ?_
        intro r _ H locs hp17 hw
        subst hp17
        refine mg_bif_eq X 53 49 d_Mo_origin_46 (by decide) rfl (fun b18 => absurd b18 (by decide)) (fun _ => ?_)
        refine mg_iconst X 50 0 d_Mo_origin_49 mg_ci_0 rfl ?_
        refine mg_goto X 60 d_Mo_origin_50 (by decide) ?_
        exact mg_iret X hr hlk (rfl) (()) (rfl) hw d_Mo_origin_60
      · -- pc 14 f
        refine mg_aload_n X 18 d_Mo_origin_17 (lv_at hl 0 rfl) rfl ?_
        refine mg_iload_n X 19 d_Mo_origin_18 (lv_at hl 3 rfl) rfl ?_
        refine mg_callVi X hK hw hA 22 [0] 0 (fun _ => [mg_ob mh 6 [.int (nI (flt)), .int (nI (np)), .int (nI (nf)), .int (nI (nc)), .ref (qor), .ref (qfa), .ref (qmo), .int (nI (nm)), .ref (qwt), .ref (qrt), .ref (qnw), .ref (qsn), .ref (qlt), .ref (qkn), .ref (qft), .ref (qbf), .ref (qbh), .ref (qjt), .ref (qot), .ref (qsm), .ref (qpt), .ref (qpr), .ref (qch), .ref (qbt), .int (nI (wr)), .ref (qpg)]]) rfl rfl (k_Mo_isWay l D K mh qor qfa qmo qwt qrt qnw qsn qlt qkn qft qbf qbh qjt qot qsm qpt qpr qch qbt qpg flt np nf nc nm wr w1 (by omega)) g_Mo_119 ⟨by decide, by decide⟩ ⟨rfl, rfl⟩ rfl rfl rfl hl.1 (rest := []) (As := [.int (w1)]) rfl (Nat.le_of_ble_eq_true rfl) d_Mo_origin_19 ⟨Nat.zero_le _, Nat.zero_le _⟩ (fun _ => rfl) (fun _ => rfl) rfl ?_
        intro r _ H locs hp20 hw
        subst hp20
        refine mg_bif_eq X 29 25 d_Mo_origin_22 (by decide) rfl (fun b21 => ?_) (fun b21 => ?_)
        · -- pc 22 t
          refine mg_iconst X 30 0 d_Mo_origin_29 mg_ci_0 rfl ?_
          refine mg_istore X 32 [(4, .int (nI (0))), (0, .ref (mh)), (1, .int (nI (jp1))), (2, .int (c1)), (3, .int (w1))] d_Mo_origin_30 hl (by decide) rfl rfl (fun ls hl => ?_)
          refine mg_aload_n X 33 d_Mo_origin_32 (lv_at hl 1 rfl) rfl ?_
          refine mg_iload X 35 d_Mo_origin_33 (lv_at hl 0 rfl) rfl ?_
          refine mg_if_eq X 42 38 (by decide) d_Mo_origin_35 (by decide) rfl (fun _ => ?_) (fun b22 => absurd b22 (by decide))
          refine mg_iconst X 43 1 d_Mo_origin_42 mg_ci_1 rfl ?_
          refine mg_callVi X hK hw hA 46 [0] 0 (fun _ => [mg_ob mh 6 [.int (nI (1)), .int (nI (np)), .int (nI (nf)), .int (nI (nc)), .ref (qor), .ref (qfa), .ref (qmo), .int (nI (nm)), .ref (qwt), .ref (qrt), .ref (qnw), .ref (qsn), .ref (qlt), .ref (qkn), .ref (qft), .ref (qbf), .ref (qbh), .ref (qjt), .ref (qot), .ref (qsm), .ref (qpt), .ref (qpr), .ref (qch), .ref (qbt), .int (nI (wr)), .ref (qpg)]]) rfl rfl (k_Mo_refused l D K mh qor qfa qmo qwt qrt qnw qsn qlt qkn qft qbf qbh qjt qot qsm qpt qpr qch qbt qpg flt np nf nc nm wr 1 (by omega)) g_Mo_96 ⟨by decide, by decide⟩ ⟨rfl, rfl⟩ rfl rfl rfl hl.1 (rest := []) (As := [.int (nI (1))]) rfl (Nat.le_of_ble_eq_true rfl) d_Mo_origin_43 ⟨Nat.zero_le _, Nat.zero_le _⟩ (fun _ => rfl) (fun _ => rfl) rfl ?_
          intro r _ H locs hp24 hw
          subst hp24
          refine mg_bif_eq X 53 49 d_Mo_origin_46 (by decide) rfl (fun b25 => absurd b25 (by decide)) (fun _ => ?_)
          refine mg_iconst X 50 0 d_Mo_origin_49 mg_ci_0 rfl ?_
          refine mg_goto X 60 d_Mo_origin_50 (by decide) ?_
          exact mg_iret X hr hlk (rfl) (()) (rfl) hw d_Mo_origin_60
        · -- pc 22 f
          obtain ⟨jw1, hw1, rfl⟩ := b21
          exact absurd (show mg_lt _ _ ∧ mg_lt _ _ ∧ mg_lt _ _ from ⟨⟨jp1, hp1, rfl⟩, (by first | exact ⟨0, by omega, h0⟩ | exact ⟨1, by omega, h1⟩), ⟨jw1, hw1, rfl⟩⟩) hx

set_option maxRecDepth 100000 in
set_option maxHeartbeats 4000000 in
theorem k_Mo_origin (l : Launch) (D : va_G) (K : Nat → ClassId) (mh : Nat) (qor : Nat) (qfa : Nat) (qmo : Nat) (qwt : Nat) (qrt : Nat) (qnw : Nat) (qsn : Nat) (qlt : Nat) (qkn : Nat) (qft : Nat) (qbf : Nat) (qbh : Nat) (qjt : Nat) (qot : Nat) (qsm : Nat) (qpt : Nat) (qpr : Nat) (qch : Nat) (qbt : Nat) (qpg : Nat) (flt : Nat) (np : Nat) (nf : Nat) (nc : Nat) (nm : Nat) (wr : Nat) (rk : Nat → Nat) (fa : Nat → Nat) (mo : Nat → Nat) (p1 : Nat) (c1 : Nat) (w1 : Nat) (hF0 : fm_ok nf nc fa mo rk) (hnp : np = nf + nc) (hp1 : p1 < np) (hc1 : c1 < 2) (hw1 : w1 < 2 ^ (2 * nc)) : mg_Mi l D K y_Mo_origin b_Mo_origin 5 (.int) ({ frames := 2, cells := 0, slots := 0, locals := 41 }) [.ref (mh), .int (nI (p1)), .int (nI (c1)), .int (nI (w1))] [mg_ob mh 6 [.int (nI (flt)), .int (nI (np)), .int (nI (nf)), .int (nI (nc)), .ref (qor), .ref (qfa), .ref (qmo), .int (nI (nm)), .ref (qwt), .ref (qrt), .ref (qnw), .ref (qsn), .ref (qlt), .ref (qkn), .ref (qft), .ref (qbf), .ref (qbh), .ref (qjt), .ref (qot), .ref (qsm), .ref (qpt), .ref (qpr), .ref (qch), .ref (qbt), .int (nI (wr)), .ref (qpg)], mg_ai K qor 6 rk, mg_ai K qfa 6 fa, mg_ai K qmo 6 mo] (fun (r : Int32) (_ : Unit) => r = nI (fm_src fa mo rk w1 3 p1 c1)) (fun (_ : Unit) => [mg_ob mh 6 [.int (nI (0)), .int (nI (np)), .int (nI (nf)), .int (nI (nc)), .ref (qor), .ref (qfa), .ref (qmo), .int (nI (nm)), .ref (qwt), .ref (qrt), .ref (qnw), .ref (qsn), .ref (qlt), .ref (qkn), .ref (qft), .ref (qbf), .ref (qbh), .ref (qjt), .ref (qot), .ref (qsm), .ref (qpt), .ref (qpr), .ref (qch), .ref (qbt), .int (nI (wr)), .ref (qpg)], mg_ai K qor 6 rk, mg_ai K qfa 6 fa, mg_ai K qmo 6 mo]) := by
  intro sz
  refine mg_entry (Qc := fun A => va_Qi (fun (r : Int32) (_ : Unit) => r = nI (fm_src fa mo rk w1 3 p1 c1)) (mg_B D A (fun (_ : Unit) => [mg_ob mh 6 [.int (nI (0)), .int (nI (np)), .int (nI (nf)), .int (nI (nc)), .ref (qor), .ref (qfa), .ref (qmo), .int (nI (nm)), .ref (qwt), .ref (qrt), .ref (qnw), .ref (qsn), .ref (qlt), .ref (qkn), .ref (qft), .ref (qbf), .ref (qbh), .ref (qjt), .ref (qot), .ref (qsm), .ref (qpt), .ref (qpr), .ref (qch), .ref (qbt), .int (nI (wr)), .ref (qpg)], mg_ai K qor 6 rk, mg_ai K qfa 6 fa, mg_ai K qmo 6 mo])) A) (by decide) (Nat.le_of_ble_eq_true rfl) ?_
  intro p e s m args below meth c A ls X hr hlk hnm hA hK hw hl
  have hl : lv_has ls 5 [(0, .ref (mh)), (1, .int (nI (p1))), (2, .int (nI (c1))), (3, .int (nI (w1)))] := hl
  have hf1 := hF0.1
  have hf2 := hF0.2.1
  have hw6 := mg_ways hf2
  refine mg_aload_n X 1 d_Mo_origin_0 (lv_at hl 0 rfl) rfl ?_
  refine mg_iload_n X 2 d_Mo_origin_1 (lv_at hl 1 rfl) rfl ?_
  refine mg_callVi X hK hw hA 5 [0] 0 (fun _ => [mg_ob mh 6 [.int (nI (flt)), .int (nI (np)), .int (nI (nf)), .int (nI (nc)), .ref (qor), .ref (qfa), .ref (qmo), .int (nI (nm)), .ref (qwt), .ref (qrt), .ref (qnw), .ref (qsn), .ref (qlt), .ref (qkn), .ref (qft), .ref (qbf), .ref (qbh), .ref (qjt), .ref (qot), .ref (qsm), .ref (qpt), .ref (qpr), .ref (qch), .ref (qbt), .int (nI (wr)), .ref (qpg)], mg_ai K qor 6 rk, mg_ai K qfa 6 fa, mg_ai K qmo 6 mo]) rfl rfl (k_Mo_isPerson l D K mh qor qfa qmo qwt qrt qnw qsn qlt qkn qft qbf qbh qjt qot qsm qpt qpr qch qbt qpg flt np nf nc nm wr (nI p1) (by omega)) g_Mo_103 ⟨by decide, by decide⟩ ⟨rfl, rfl⟩ rfl rfl rfl hl.1 (rest := []) (As := [.int (nI (p1))]) rfl (Nat.le_of_ble_eq_true rfl) d_Mo_origin_2 ⟨Nat.zero_le _, Nat.zero_le _⟩ (fun _ => rfl) (fun _ => rfl) rfl ?_
  intro r _ H locs hp2 hw
  subst hp2
  refine mg_bif_eq X 29 8 d_Mo_origin_5 (by decide) rfl (fun b3 => absurd (mg_lt_in hp1) b3) (fun _ => ?_)
  refine mg_iload_n X 9 d_Mo_origin_8 (lv_at hl 2 rfl) rfl ?_
  refine mg_if_eq X 17 12 (by omega) d_Mo_origin_9 (by decide) rfl (fun h0 => ?_) (fun h0 => ?_)
  · -- pc 9 t
    refine mg_aload_n X 18 d_Mo_origin_17 (lv_at hl 0 rfl) rfl ?_
    refine mg_iload_n X 19 d_Mo_origin_18 (lv_at hl 3 rfl) rfl ?_
    refine mg_callVi X hK hw hA 22 [0] 0 (fun _ => [mg_ob mh 6 [.int (nI (flt)), .int (nI (np)), .int (nI (nf)), .int (nI (nc)), .ref (qor), .ref (qfa), .ref (qmo), .int (nI (nm)), .ref (qwt), .ref (qrt), .ref (qnw), .ref (qsn), .ref (qlt), .ref (qkn), .ref (qft), .ref (qbf), .ref (qbh), .ref (qjt), .ref (qot), .ref (qsm), .ref (qpt), .ref (qpr), .ref (qch), .ref (qbt), .int (nI (wr)), .ref (qpg)], mg_ai K qor 6 rk, mg_ai K qfa 6 fa, mg_ai K qmo 6 mo]) rfl rfl (k_Mo_isWay l D K mh qor qfa qmo qwt qrt qnw qsn qlt qkn qft qbf qbh qjt qot qsm qpt qpr qch qbt qpg flt np nf nc nm wr (nI w1) (hf2)) g_Mo_119 ⟨by decide, by decide⟩ ⟨rfl, rfl⟩ rfl rfl rfl hl.1 (rest := []) (As := [.int (nI (w1))]) rfl (Nat.le_of_ble_eq_true rfl) d_Mo_origin_19 ⟨Nat.zero_le _, Nat.zero_le _⟩ (fun _ => rfl) (fun _ => rfl) rfl ?_
    intro r _ H locs hp5 hw
    subst hp5
    refine mg_bif_eq X 29 25 d_Mo_origin_22 (by decide) rfl (fun b6 => absurd (mg_lt_in hw1) b6) (fun _ => ?_)
    refine mg_iconst X 26 1 d_Mo_origin_25 mg_ci_1 rfl ?_
    refine mg_goto X 30 d_Mo_origin_26 (by decide) ?_
    refine mg_istore X 32 [(4, .int (nI (1))), (0, .ref (mh)), (1, .int (nI (p1))), (2, .int (nI (c1))), (3, .int (nI (w1)))] d_Mo_origin_30 hl (by decide) rfl rfl (fun ls hl => ?_)
    refine mg_aload_n X 33 d_Mo_origin_32 (lv_at hl 1 rfl) rfl ?_
    refine mg_iload X 35 d_Mo_origin_33 (lv_at hl 0 rfl) rfl ?_
    refine mg_if_eq X 42 38 (by decide) d_Mo_origin_35 (by decide) rfl (fun b7 => absurd b7 (by decide)) (fun _ => ?_)
    refine mg_iconst X 39 0 d_Mo_origin_38 mg_ci_0 rfl ?_
    refine mg_goto X 43 d_Mo_origin_39 (by decide) ?_
    refine mg_callVi X hK hw hA 46 [0] 0 (fun _ => [mg_ob mh 6 [.int (nI (0)), .int (nI (np)), .int (nI (nf)), .int (nI (nc)), .ref (qor), .ref (qfa), .ref (qmo), .int (nI (nm)), .ref (qwt), .ref (qrt), .ref (qnw), .ref (qsn), .ref (qlt), .ref (qkn), .ref (qft), .ref (qbf), .ref (qbh), .ref (qjt), .ref (qot), .ref (qsm), .ref (qpt), .ref (qpr), .ref (qch), .ref (qbt), .int (nI (wr)), .ref (qpg)], mg_ai K qor 6 rk, mg_ai K qfa 6 fa, mg_ai K qmo 6 mo]) rfl rfl (k_Mo_refused l D K mh qor qfa qmo qwt qrt qnw qsn qlt qkn qft qbf qbh qjt qot qsm qpt qpr qch qbt qpg flt np nf nc nm wr 0 (by omega)) g_Mo_96 ⟨by decide, by decide⟩ ⟨rfl, rfl⟩ rfl rfl rfl hl.1 (rest := []) (As := [.int (nI (0))]) rfl (Nat.le_of_ble_eq_true rfl) d_Mo_origin_43 ⟨Nat.zero_le _, Nat.zero_le _⟩ (fun _ => rfl) (fun _ => rfl) rfl ?_
    intro r _ H locs hp9 hw
    subst hp9
    refine mg_bif_eq X 53 49 d_Mo_origin_46 (by decide) rfl (fun _ => ?_) (fun b10 => absurd b10 (by decide))
    refine mg_aload_n X 54 d_Mo_origin_53 (lv_at hl 1 rfl) rfl ?_
    refine mg_iload_n X 55 d_Mo_origin_54 (lv_at hl 2 rfl) rfl ?_
    refine mg_iload_n X 56 d_Mo_origin_55 (lv_at hl 3 rfl) rfl ?_
    refine mg_iload_n X 57 d_Mo_origin_56 (lv_at hl 4 rfl) rfl ?_
    refine mg_callVi X hK hw hA 60 [0, 1, 2, 3] 0 (fun _ => [mg_ob mh 6 [.int (nI (0)), .int (nI (np)), .int (nI (nf)), .int (nI (nc)), .ref (qor), .ref (qfa), .ref (qmo), .int (nI (nm)), .ref (qwt), .ref (qrt), .ref (qnw), .ref (qsn), .ref (qlt), .ref (qkn), .ref (qft), .ref (qbf), .ref (qbh), .ref (qjt), .ref (qot), .ref (qsm), .ref (qpt), .ref (qpr), .ref (qch), .ref (qbt), .int (nI (wr)), .ref (qpg)], mg_ai K qor 6 rk, mg_ai K qfa 6 fa, mg_ai K qmo 6 mo]) rfl rfl (k_Mo_originOf l D K mh qor qfa qmo qwt qrt qnw qsn qlt qkn qft qbf qbh qjt qot qsm qpt qpr qch qbt qpg 0 np nf nc nm wr rk fa mo p1 c1 w1 (hF0) (by omega) (by omega) (by omega)) g_Mo_122 ⟨by decide, by decide⟩ ⟨rfl, rfl⟩ rfl rfl rfl hl.1 (rest := []) (As := [.int (nI (p1)), .int (nI (c1)), .int (nI (w1))]) rfl (Nat.le_of_ble_eq_true rfl) d_Mo_origin_57 ⟨Nat.zero_le _, Nat.zero_le _⟩ (fun _ => rfl) (fun _ => rfl) rfl ?_
    intro r _ H locs hp12 hw
    subst hp12
    exact mg_iret X hr hlk (rfl) (()) (rfl) hw d_Mo_origin_60
  · -- pc 9 f
    refine mg_iload_n X 13 d_Mo_origin_12 (lv_at hl 2 rfl) rfl ?_
    refine mg_iconst X 14 1 d_Mo_origin_13 mg_ci_1 rfl ?_
    refine mg_icmp_ne X 29 17 (by omega) (by omega) d_Mo_origin_14 (by decide) rfl (fun b13 => absurd b13 (by omega)) (fun b13 => ?_)
    refine mg_aload_n X 18 d_Mo_origin_17 (lv_at hl 0 rfl) rfl ?_
    refine mg_iload_n X 19 d_Mo_origin_18 (lv_at hl 3 rfl) rfl ?_
    refine mg_callVi X hK hw hA 22 [0] 0 (fun _ => [mg_ob mh 6 [.int (nI (flt)), .int (nI (np)), .int (nI (nf)), .int (nI (nc)), .ref (qor), .ref (qfa), .ref (qmo), .int (nI (nm)), .ref (qwt), .ref (qrt), .ref (qnw), .ref (qsn), .ref (qlt), .ref (qkn), .ref (qft), .ref (qbf), .ref (qbh), .ref (qjt), .ref (qot), .ref (qsm), .ref (qpt), .ref (qpr), .ref (qch), .ref (qbt), .int (nI (wr)), .ref (qpg)], mg_ai K qor 6 rk, mg_ai K qfa 6 fa, mg_ai K qmo 6 mo]) rfl rfl (k_Mo_isWay l D K mh qor qfa qmo qwt qrt qnw qsn qlt qkn qft qbf qbh qjt qot qsm qpt qpr qch qbt qpg flt np nf nc nm wr (nI w1) (hf2)) g_Mo_119 ⟨by decide, by decide⟩ ⟨rfl, rfl⟩ rfl rfl rfl hl.1 (rest := []) (As := [.int (nI (w1))]) rfl (Nat.le_of_ble_eq_true rfl) d_Mo_origin_19 ⟨Nat.zero_le _, Nat.zero_le _⟩ (fun _ => rfl) (fun _ => rfl) rfl ?_
    intro r _ H locs hp15 hw
    subst hp15
    refine mg_bif_eq X 29 25 d_Mo_origin_22 (by decide) rfl (fun b16 => absurd (mg_lt_in hw1) b16) (fun _ => ?_)
    refine mg_iconst X 26 1 d_Mo_origin_25 mg_ci_1 rfl ?_
    refine mg_goto X 30 d_Mo_origin_26 (by decide) ?_
    refine mg_istore X 32 [(4, .int (nI (1))), (0, .ref (mh)), (1, .int (nI (p1))), (2, .int (nI (c1))), (3, .int (nI (w1)))] d_Mo_origin_30 hl (by decide) rfl rfl (fun ls hl => ?_)
    refine mg_aload_n X 33 d_Mo_origin_32 (lv_at hl 1 rfl) rfl ?_
    refine mg_iload X 35 d_Mo_origin_33 (lv_at hl 0 rfl) rfl ?_
    refine mg_if_eq X 42 38 (by decide) d_Mo_origin_35 (by decide) rfl (fun b17 => absurd b17 (by decide)) (fun _ => ?_)
    refine mg_iconst X 39 0 d_Mo_origin_38 mg_ci_0 rfl ?_
    refine mg_goto X 43 d_Mo_origin_39 (by decide) ?_
    refine mg_callVi X hK hw hA 46 [0] 0 (fun _ => [mg_ob mh 6 [.int (nI (0)), .int (nI (np)), .int (nI (nf)), .int (nI (nc)), .ref (qor), .ref (qfa), .ref (qmo), .int (nI (nm)), .ref (qwt), .ref (qrt), .ref (qnw), .ref (qsn), .ref (qlt), .ref (qkn), .ref (qft), .ref (qbf), .ref (qbh), .ref (qjt), .ref (qot), .ref (qsm), .ref (qpt), .ref (qpr), .ref (qch), .ref (qbt), .int (nI (wr)), .ref (qpg)], mg_ai K qor 6 rk, mg_ai K qfa 6 fa, mg_ai K qmo 6 mo]) rfl rfl (k_Mo_refused l D K mh qor qfa qmo qwt qrt qnw qsn qlt qkn qft qbf qbh qjt qot qsm qpt qpr qch qbt qpg flt np nf nc nm wr 0 (by omega)) g_Mo_96 ⟨by decide, by decide⟩ ⟨rfl, rfl⟩ rfl rfl rfl hl.1 (rest := []) (As := [.int (nI (0))]) rfl (Nat.le_of_ble_eq_true rfl) d_Mo_origin_43 ⟨Nat.zero_le _, Nat.zero_le _⟩ (fun _ => rfl) (fun _ => rfl) rfl ?_
    intro r _ H locs hp19 hw
    subst hp19
    refine mg_bif_eq X 53 49 d_Mo_origin_46 (by decide) rfl (fun _ => ?_) (fun b20 => absurd b20 (by decide))
    refine mg_aload_n X 54 d_Mo_origin_53 (lv_at hl 1 rfl) rfl ?_
    refine mg_iload_n X 55 d_Mo_origin_54 (lv_at hl 2 rfl) rfl ?_
    refine mg_iload_n X 56 d_Mo_origin_55 (lv_at hl 3 rfl) rfl ?_
    refine mg_iload_n X 57 d_Mo_origin_56 (lv_at hl 4 rfl) rfl ?_
    refine mg_callVi X hK hw hA 60 [0, 1, 2, 3] 0 (fun _ => [mg_ob mh 6 [.int (nI (0)), .int (nI (np)), .int (nI (nf)), .int (nI (nc)), .ref (qor), .ref (qfa), .ref (qmo), .int (nI (nm)), .ref (qwt), .ref (qrt), .ref (qnw), .ref (qsn), .ref (qlt), .ref (qkn), .ref (qft), .ref (qbf), .ref (qbh), .ref (qjt), .ref (qot), .ref (qsm), .ref (qpt), .ref (qpr), .ref (qch), .ref (qbt), .int (nI (wr)), .ref (qpg)], mg_ai K qor 6 rk, mg_ai K qfa 6 fa, mg_ai K qmo 6 mo]) rfl rfl (k_Mo_originOf l D K mh qor qfa qmo qwt qrt qnw qsn qlt qkn qft qbf qbh qjt qot qsm qpt qpr qch qbt qpg 0 np nf nc nm wr rk fa mo p1 c1 w1 (hF0) (by omega) (by omega) (by omega)) g_Mo_122 ⟨by decide, by decide⟩ ⟨rfl, rfl⟩ rfl rfl rfl hl.1 (rest := []) (As := [.int (nI (p1)), .int (nI (c1)), .int (nI (w1))]) rfl (Nat.le_of_ble_eq_true rfl) d_Mo_origin_57 ⟨Nat.zero_le _, Nat.zero_le _⟩ (fun _ => rfl) (fun _ => rfl) rfl ?_
    intro r _ H locs hp22 hw
    subst hp22
    exact mg_iret X hr hlk (rfl) (()) (rfl) hw d_Mo_origin_60

set_option maxRecDepth 100000 in
set_option maxHeartbeats 4000000 in
theorem k_Mo_fitN (l : Launch) (D : va_G) (K : Nat → ClassId) (mh : Nat) (qor : Nat) (qfa : Nat) (qmo : Nat) (qwt : Nat) (qrt : Nat) (qnw : Nat) (qsn : Nat) (qlt : Nat) (qkn : Nat) (qft : Nat) (qbf : Nat) (qbh : Nat) (qjt : Nat) (qot : Nat) (qsm : Nat) (qpt : Nat) (qpr : Nat) (qch : Nat) (qbt : Nat) (qpg : Nat) (flt : Nat) (np : Nat) (nf : Nat) (nc : Nat) (nm : Nat) (wr : Nat) (m1 : Int32) (w1 : Int32) (hnp : np = nf + nc) (hnf : nf ≤ 3) (hnc : nc ≤ 3) (hnm4 : nm ≤ 4) (hx : ¬ (mg_lt m1 nm ∧ mg_lt w1 (2 ^ (2 * nc)))) : mg_Mi l D K y_Mo_fit b_Mo_fit 3 (.int) ({ frames := 4, cells := 0, slots := 0, locals := 104 }) [.ref (mh), .int (m1), .int (w1)] [mg_ob mh 6 [.int (nI (flt)), .int (nI (np)), .int (nI (nf)), .int (nI (nc)), .ref (qor), .ref (qfa), .ref (qmo), .int (nI (nm)), .ref (qwt), .ref (qrt), .ref (qnw), .ref (qsn), .ref (qlt), .ref (qkn), .ref (qft), .ref (qbf), .ref (qbh), .ref (qjt), .ref (qot), .ref (qsm), .ref (qpt), .ref (qpr), .ref (qch), .ref (qbt), .int (nI (wr)), .ref (qpg)]] (fun (r : Int32) (_ : Unit) => r = nI (0)) (fun (_ : Unit) => [mg_ob mh 6 [.int (nI (1)), .int (nI (np)), .int (nI (nf)), .int (nI (nc)), .ref (qor), .ref (qfa), .ref (qmo), .int (nI (nm)), .ref (qwt), .ref (qrt), .ref (qnw), .ref (qsn), .ref (qlt), .ref (qkn), .ref (qft), .ref (qbf), .ref (qbh), .ref (qjt), .ref (qot), .ref (qsm), .ref (qpt), .ref (qpr), .ref (qch), .ref (qbt), .int (nI (wr)), .ref (qpg)]]) := by
  intro sz
  refine mg_entry (Qc := fun A => va_Qi (fun (r : Int32) (_ : Unit) => r = nI (0)) (mg_B D A (fun (_ : Unit) => [mg_ob mh 6 [.int (nI (1)), .int (nI (np)), .int (nI (nf)), .int (nI (nc)), .ref (qor), .ref (qfa), .ref (qmo), .int (nI (nm)), .ref (qwt), .ref (qrt), .ref (qnw), .ref (qsn), .ref (qlt), .ref (qkn), .ref (qft), .ref (qbf), .ref (qbh), .ref (qjt), .ref (qot), .ref (qsm), .ref (qpt), .ref (qpr), .ref (qch), .ref (qbt), .int (nI (wr)), .ref (qpg)]])) A) (by decide) (Nat.le_of_ble_eq_true rfl) ?_
  intro p e s m args below meth c A ls X hr hlk hnm hA hK hw hl
  have hl : lv_has ls 3 [(0, .ref (mh)), (1, .int (m1)), (2, .int (w1))] := hl
  refine mg_aload_n X 1 d_Mo_fit_0 (lv_at hl 0 rfl) rfl ?_
  refine mg_aload_n X 2 d_Mo_fit_1 (lv_at hl 0 rfl) rfl ?_
  refine mg_iload_n X 3 d_Mo_fit_2 (lv_at hl 1 rfl) rfl ?_
  refine mg_callVi X hK hw hA 6 [0] 0 (fun _ => [mg_ob mh 6 [.int (nI (flt)), .int (nI (np)), .int (nI (nf)), .int (nI (nc)), .ref (qor), .ref (qfa), .ref (qmo), .int (nI (nm)), .ref (qwt), .ref (qrt), .ref (qnw), .ref (qsn), .ref (qlt), .ref (qkn), .ref (qft), .ref (qbf), .ref (qbh), .ref (qjt), .ref (qot), .ref (qsm), .ref (qpt), .ref (qpr), .ref (qch), .ref (qbt), .int (nI (wr)), .ref (qpg)]]) rfl rfl (k_Mo_isMarker l D K mh qor qfa qmo qwt qrt qnw qsn qlt qkn qft qbf qbh qjt qot qsm qpt qpr qch qbt qpg flt np nf nc nm wr m1 (by omega)) g_Mo_109 ⟨by decide, by decide⟩ ⟨rfl, rfl⟩ rfl rfl rfl hl.1 (rest := [.ref (mh)]) (As := [.int (m1)]) rfl (Nat.le_of_ble_eq_true rfl) d_Mo_fit_3 ⟨Nat.zero_le _, Nat.zero_le _⟩ (fun _ => rfl) (fun _ => rfl) rfl ?_
  intro r _ H locs hp2 hw
  subst hp2
  refine mg_bif_eq X 21 9 d_Mo_fit_6 (by decide) rfl (fun b3 => ?_) (fun b3 => ?_)
  · -- pc 6 t
    refine mg_iconst X 22 1 d_Mo_fit_21 mg_ci_1 rfl ?_
    refine mg_callVi X hK hw hA 25 [0] 0 (fun _ => [mg_ob mh 6 [.int (nI (1)), .int (nI (np)), .int (nI (nf)), .int (nI (nc)), .ref (qor), .ref (qfa), .ref (qmo), .int (nI (nm)), .ref (qwt), .ref (qrt), .ref (qnw), .ref (qsn), .ref (qlt), .ref (qkn), .ref (qft), .ref (qbf), .ref (qbh), .ref (qjt), .ref (qot), .ref (qsm), .ref (qpt), .ref (qpr), .ref (qch), .ref (qbt), .int (nI (wr)), .ref (qpg)]]) rfl rfl (k_Mo_refused l D K mh qor qfa qmo qwt qrt qnw qsn qlt qkn qft qbf qbh qjt qot qsm qpt qpr qch qbt qpg flt np nf nc nm wr 1 (by omega)) g_Mo_96 ⟨by decide, by decide⟩ ⟨rfl, rfl⟩ rfl rfl rfl hl.1 (rest := []) (As := [.int (nI (1))]) rfl (Nat.le_of_ble_eq_true rfl) d_Mo_fit_22 ⟨Nat.zero_le _, Nat.zero_le _⟩ (fun _ => rfl) (fun _ => rfl) rfl ?_
    intro r _ H locs hp5 hw
    subst hp5
    refine mg_bif_eq X 32 28 d_Mo_fit_25 (by decide) rfl (fun b6 => absurd b6 (by decide)) (fun _ => ?_)
    refine mg_iconst X 29 0 d_Mo_fit_28 mg_ci_0 rfl ?_
    refine mg_goto X 38 d_Mo_fit_29 (by decide) ?_
    exact mg_iret X hr hlk (rfl) (()) (rfl) hw d_Mo_fit_38
  · -- pc 6 f
    obtain ⟨jm1, hm1, rfl⟩ := b3
    refine mg_aload_n X 10 d_Mo_fit_9 (lv_at hl 0 rfl) rfl ?_
    refine mg_iload_n X 11 d_Mo_fit_10 (lv_at hl 2 rfl) rfl ?_
    refine mg_callVi X hK hw hA 14 [0] 0 (fun _ => [mg_ob mh 6 [.int (nI (flt)), .int (nI (np)), .int (nI (nf)), .int (nI (nc)), .ref (qor), .ref (qfa), .ref (qmo), .int (nI (nm)), .ref (qwt), .ref (qrt), .ref (qnw), .ref (qsn), .ref (qlt), .ref (qkn), .ref (qft), .ref (qbf), .ref (qbh), .ref (qjt), .ref (qot), .ref (qsm), .ref (qpt), .ref (qpr), .ref (qch), .ref (qbt), .int (nI (wr)), .ref (qpg)]]) rfl rfl (k_Mo_isWay l D K mh qor qfa qmo qwt qrt qnw qsn qlt qkn qft qbf qbh qjt qot qsm qpt qpr qch qbt qpg flt np nf nc nm wr w1 (by omega)) g_Mo_119 ⟨by decide, by decide⟩ ⟨rfl, rfl⟩ rfl rfl rfl hl.1 (rest := [.ref (mh)]) (As := [.int (w1)]) rfl (Nat.le_of_ble_eq_true rfl) d_Mo_fit_11 ⟨Nat.zero_le _, Nat.zero_le _⟩ (fun _ => rfl) (fun _ => rfl) rfl ?_
    intro r _ H locs hp8 hw
    subst hp8
    refine mg_bif_eq X 21 17 d_Mo_fit_14 (by decide) rfl (fun b9 => ?_) (fun b9 => ?_)
    · -- pc 14 t
      refine mg_iconst X 22 1 d_Mo_fit_21 mg_ci_1 rfl ?_
      refine mg_callVi X hK hw hA 25 [0] 0 (fun _ => [mg_ob mh 6 [.int (nI (1)), .int (nI (np)), .int (nI (nf)), .int (nI (nc)), .ref (qor), .ref (qfa), .ref (qmo), .int (nI (nm)), .ref (qwt), .ref (qrt), .ref (qnw), .ref (qsn), .ref (qlt), .ref (qkn), .ref (qft), .ref (qbf), .ref (qbh), .ref (qjt), .ref (qot), .ref (qsm), .ref (qpt), .ref (qpr), .ref (qch), .ref (qbt), .int (nI (wr)), .ref (qpg)]]) rfl rfl (k_Mo_refused l D K mh qor qfa qmo qwt qrt qnw qsn qlt qkn qft qbf qbh qjt qot qsm qpt qpr qch qbt qpg flt np nf nc nm wr 1 (by omega)) g_Mo_96 ⟨by decide, by decide⟩ ⟨rfl, rfl⟩ rfl rfl rfl hl.1 (rest := []) (As := [.int (nI (1))]) rfl (Nat.le_of_ble_eq_true rfl) d_Mo_fit_22 ⟨Nat.zero_le _, Nat.zero_le _⟩ (fun _ => rfl) (fun _ => rfl) rfl ?_
      intro r _ H locs hp11 hw
      subst hp11
      refine mg_bif_eq X 32 28 d_Mo_fit_25 (by decide) rfl (fun b12 => absurd b12 (by decide)) (fun _ => ?_)
      refine mg_iconst X 29 0 d_Mo_fit_28 mg_ci_0 rfl ?_
      refine mg_goto X 38 d_Mo_fit_29 (by decide) ?_
      exact mg_iret X hr hlk (rfl) (()) (rfl) hw d_Mo_fit_38
    · -- pc 14 f
      obtain ⟨jw1, hw1, rfl⟩ := b9
      exact absurd ⟨⟨jm1, hm1, rfl⟩, ⟨jw1, hw1, rfl⟩⟩ hx

set_option maxRecDepth 100000 in
set_option maxHeartbeats 4000000 in
theorem k_Mo_fit (l : Launch) (D : va_G) (K : Nat → ClassId) (mh : Nat) (qor : Nat) (qfa : Nat) (qmo : Nat) (qwt : Nat) (qrt : Nat) (qnw : Nat) (qsn : Nat) (qlt : Nat) (qkn : Nat) (qft : Nat) (qbf : Nat) (qbh : Nat) (qjt : Nat) (qot : Nat) (qsm : Nat) (qpt : Nat) (qpr : Nat) (qch : Nat) (qbt : Nat) (qpg : Nat) (flt : Nat) (np : Nat) (nf : Nat) (nc : Nat) (nm : Nat) (wr : Nat) (rk : Nat → Nat) (fa : Nat → Nat) (mo : Nat → Nat) (mw : Nat → Nat) (sn : Nat → Nat) (lt : Nat → Nat) (wt : Nat → Nat) (ol : Nat → Nat) (tl : Nat → Nat) (kn : Nat → Nat) (ftb : Nat → Nat) (mk : Nat) (w : Nat) (hF0 : fm_ok nf nc fa mo rk) (hnp : np = nf + nc) (hS : sn_ok ol tl) (hcd : ∀ q i, q < 6 → i < 4 → sn (4 * q + i) = mo_cd (ol (i * 6 + q)) (tl (i * 6 + q))) (hmw : ∀ i l, i < nm → 1 ≤ l → l ≤ 3 → mw (4 * i + l) = ma_wt wt i l) (hW8 : ∀ i, i < nm → ma_wt wt i 1 + ma_wt wt i 2 + ma_wt wt i 3 = 8) (hm4 : nm ≤ 4) (hkn : mo_kn nm (2 ^ (2 * nc)) kn ftb (fi_fit wt ol tl fa mo rk nf nc)) (hm : mk < nm) (hwW : w < 2 ^ (2 * nc)) : mg_Mi l D K y_Mo_fit b_Mo_fit 3 (.int) ({ frames := 4, cells := 0, slots := 0, locals := 104 }) [.ref (mh), .int (nI (mk)), .int (nI (w))] [mg_ob mh 6 [.int (nI (flt)), .int (nI (np)), .int (nI (nf)), .int (nI (nc)), .ref (qor), .ref (qfa), .ref (qmo), .int (nI (nm)), .ref (qwt), .ref (qrt), .ref (qnw), .ref (qsn), .ref (qlt), .ref (qkn), .ref (qft), .ref (qbf), .ref (qbh), .ref (qjt), .ref (qot), .ref (qsm), .ref (qpt), .ref (qpr), .ref (qch), .ref (qbt), .int (nI (wr)), .ref (qpg)], mg_ai K qor 6 rk, mg_ai K qfa 6 fa, mg_ai K qmo 6 mo, mg_ai K qwt 16 mw, mg_ai K qsn 24 sn, mg_ai K qlt 6 lt, mg_az K qkn 4 kn, mg_ai K qft 256 ftb] (fun (r : Int32) (uu : (Nat → Nat) × (Nat → Nat) × (Nat → Nat)) => r = nI (fi_fit wt ol tl fa mo rk nf nc mk w) ∧ mo_kn nm (2 ^ (2 * nc)) uu.2.1 uu.2.2 (fi_fit wt ol tl fa mo rk nf nc)) (fun (uu : (Nat → Nat) × (Nat → Nat) × (Nat → Nat)) => [mg_ob mh 6 [.int (nI (0)), .int (nI (np)), .int (nI (nf)), .int (nI (nc)), .ref (qor), .ref (qfa), .ref (qmo), .int (nI (nm)), .ref (qwt), .ref (qrt), .ref (qnw), .ref (qsn), .ref (qlt), .ref (qkn), .ref (qft), .ref (qbf), .ref (qbh), .ref (qjt), .ref (qot), .ref (qsm), .ref (qpt), .ref (qpr), .ref (qch), .ref (qbt), .int (nI (wr)), .ref (qpg)], mg_ai K qor 6 rk, mg_ai K qfa 6 fa, mg_ai K qmo 6 mo, mg_ai K qwt 16 mw, mg_ai K qsn 24 sn, mg_ai K qlt 6 uu.1, mg_az K qkn 4 uu.2.1, mg_ai K qft 256 uu.2.2]) := by
  intro sz
  refine mg_entry (Qc := fun A => va_Qi (fun (r : Int32) (uu : (Nat → Nat) × (Nat → Nat) × (Nat → Nat)) => r = nI (fi_fit wt ol tl fa mo rk nf nc mk w) ∧ mo_kn nm (2 ^ (2 * nc)) uu.2.1 uu.2.2 (fi_fit wt ol tl fa mo rk nf nc)) (mg_B D A (fun (uu : (Nat → Nat) × (Nat → Nat) × (Nat → Nat)) => [mg_ob mh 6 [.int (nI (0)), .int (nI (np)), .int (nI (nf)), .int (nI (nc)), .ref (qor), .ref (qfa), .ref (qmo), .int (nI (nm)), .ref (qwt), .ref (qrt), .ref (qnw), .ref (qsn), .ref (qlt), .ref (qkn), .ref (qft), .ref (qbf), .ref (qbh), .ref (qjt), .ref (qot), .ref (qsm), .ref (qpt), .ref (qpr), .ref (qch), .ref (qbt), .int (nI (wr)), .ref (qpg)], mg_ai K qor 6 rk, mg_ai K qfa 6 fa, mg_ai K qmo 6 mo, mg_ai K qwt 16 mw, mg_ai K qsn 24 sn, mg_ai K qlt 6 uu.1, mg_az K qkn 4 uu.2.1, mg_ai K qft 256 uu.2.2])) A) (by decide) (Nat.le_of_ble_eq_true rfl) ?_
  intro p e s m args below meth c A ls X hr hlk hnm hA hK hw hl
  have hl : lv_has ls 3 [(0, .ref (mh)), (1, .int (nI (mk))), (2, .int (nI (w)))] := hl
  have hf1 := hF0.1
  have hf2 := hF0.2.1
  have hw6 := mg_ways hf2
  refine mg_aload_n X 1 d_Mo_fit_0 (lv_at hl 0 rfl) rfl ?_
  refine mg_aload_n X 2 d_Mo_fit_1 (lv_at hl 0 rfl) rfl ?_
  refine mg_iload_n X 3 d_Mo_fit_2 (lv_at hl 1 rfl) rfl ?_
  refine mg_callVi X hK hw hA 6 [0] 0 (fun _ => [mg_ob mh 6 [.int (nI (flt)), .int (nI (np)), .int (nI (nf)), .int (nI (nc)), .ref (qor), .ref (qfa), .ref (qmo), .int (nI (nm)), .ref (qwt), .ref (qrt), .ref (qnw), .ref (qsn), .ref (qlt), .ref (qkn), .ref (qft), .ref (qbf), .ref (qbh), .ref (qjt), .ref (qot), .ref (qsm), .ref (qpt), .ref (qpr), .ref (qch), .ref (qbt), .int (nI (wr)), .ref (qpg)], mg_ai K qor 6 rk, mg_ai K qfa 6 fa, mg_ai K qmo 6 mo, mg_ai K qwt 16 mw, mg_ai K qsn 24 sn, mg_ai K qlt 6 lt, mg_az K qkn 4 kn, mg_ai K qft 256 ftb]) rfl rfl (k_Mo_isMarker l D K mh qor qfa qmo qwt qrt qnw qsn qlt qkn qft qbf qbh qjt qot qsm qpt qpr qch qbt qpg flt np nf nc nm wr (nI mk) (hm4)) g_Mo_109 ⟨by decide, by decide⟩ ⟨rfl, rfl⟩ rfl rfl rfl hl.1 (rest := [.ref (mh)]) (As := [.int (nI (mk))]) rfl (Nat.le_of_ble_eq_true rfl) d_Mo_fit_3 ⟨Nat.zero_le _, Nat.zero_le _⟩ (fun _ => rfl) (fun _ => rfl) rfl ?_
  intro r _ H locs hp2 hw
  subst hp2
  refine mg_bif_eq X 21 9 d_Mo_fit_6 (by decide) rfl (fun b3 => absurd (mg_lt_in hm) b3) (fun _ => ?_)
  refine mg_aload_n X 10 d_Mo_fit_9 (lv_at hl 0 rfl) rfl ?_
  refine mg_iload_n X 11 d_Mo_fit_10 (lv_at hl 2 rfl) rfl ?_
  refine mg_callVi X hK hw hA 14 [0] 0 (fun _ => [mg_ob mh 6 [.int (nI (flt)), .int (nI (np)), .int (nI (nf)), .int (nI (nc)), .ref (qor), .ref (qfa), .ref (qmo), .int (nI (nm)), .ref (qwt), .ref (qrt), .ref (qnw), .ref (qsn), .ref (qlt), .ref (qkn), .ref (qft), .ref (qbf), .ref (qbh), .ref (qjt), .ref (qot), .ref (qsm), .ref (qpt), .ref (qpr), .ref (qch), .ref (qbt), .int (nI (wr)), .ref (qpg)], mg_ai K qor 6 rk, mg_ai K qfa 6 fa, mg_ai K qmo 6 mo, mg_ai K qwt 16 mw, mg_ai K qsn 24 sn, mg_ai K qlt 6 lt, mg_az K qkn 4 kn, mg_ai K qft 256 ftb]) rfl rfl (k_Mo_isWay l D K mh qor qfa qmo qwt qrt qnw qsn qlt qkn qft qbf qbh qjt qot qsm qpt qpr qch qbt qpg flt np nf nc nm wr (nI w) (hf2)) g_Mo_119 ⟨by decide, by decide⟩ ⟨rfl, rfl⟩ rfl rfl rfl hl.1 (rest := [.ref (mh)]) (As := [.int (nI (w))]) rfl (Nat.le_of_ble_eq_true rfl) d_Mo_fit_11 ⟨Nat.zero_le _, Nat.zero_le _⟩ (fun _ => rfl) (fun _ => rfl) rfl ?_
  intro r _ H locs hp5 hw
  subst hp5
  refine mg_bif_eq X 21 17 d_Mo_fit_14 (by decide) rfl (fun b6 => absurd (mg_lt_in hwW) b6) (fun _ => ?_)
  refine mg_iconst X 18 0 d_Mo_fit_17 mg_ci_0 rfl ?_
  refine mg_goto X 22 d_Mo_fit_18 (by decide) ?_
  refine mg_callVi X hK hw hA 25 [0] 0 (fun _ => [mg_ob mh 6 [.int (nI (0)), .int (nI (np)), .int (nI (nf)), .int (nI (nc)), .ref (qor), .ref (qfa), .ref (qmo), .int (nI (nm)), .ref (qwt), .ref (qrt), .ref (qnw), .ref (qsn), .ref (qlt), .ref (qkn), .ref (qft), .ref (qbf), .ref (qbh), .ref (qjt), .ref (qot), .ref (qsm), .ref (qpt), .ref (qpr), .ref (qch), .ref (qbt), .int (nI (wr)), .ref (qpg)], mg_ai K qor 6 rk, mg_ai K qfa 6 fa, mg_ai K qmo 6 mo, mg_ai K qwt 16 mw, mg_ai K qsn 24 sn, mg_ai K qlt 6 lt, mg_az K qkn 4 kn, mg_ai K qft 256 ftb]) rfl rfl (k_Mo_refused l D K mh qor qfa qmo qwt qrt qnw qsn qlt qkn qft qbf qbh qjt qot qsm qpt qpr qch qbt qpg flt np nf nc nm wr 0 (by omega)) g_Mo_96 ⟨by decide, by decide⟩ ⟨rfl, rfl⟩ rfl rfl rfl hl.1 (rest := []) (As := [.int (nI (0))]) rfl (Nat.le_of_ble_eq_true rfl) d_Mo_fit_22 ⟨Nat.zero_le _, Nat.zero_le _⟩ (fun _ => rfl) (fun _ => rfl) rfl ?_
  intro r _ H locs hp8 hw
  subst hp8
  refine mg_bif_eq X 32 28 d_Mo_fit_25 (by decide) rfl (fun _ => ?_) (fun b9 => absurd b9 (by decide))
  refine mg_aload_n X 33 d_Mo_fit_32 (lv_at hl 0 rfl) rfl ?_
  refine mg_iload_n X 34 d_Mo_fit_33 (lv_at hl 1 rfl) rfl ?_
  refine mg_iload_n X 35 d_Mo_fit_34 (lv_at hl 2 rfl) rfl ?_
  refine mg_callVi X hK hw hA 38 [0, 1, 2, 3, 4, 5, 6, 7, 8] 0 (fun uu => [mg_ob mh 6 [.int (nI (0)), .int (nI (np)), .int (nI (nf)), .int (nI (nc)), .ref (qor), .ref (qfa), .ref (qmo), .int (nI (nm)), .ref (qwt), .ref (qrt), .ref (qnw), .ref (qsn), .ref (qlt), .ref (qkn), .ref (qft), .ref (qbf), .ref (qbh), .ref (qjt), .ref (qot), .ref (qsm), .ref (qpt), .ref (qpr), .ref (qch), .ref (qbt), .int (nI (wr)), .ref (qpg)], mg_ai K qor 6 rk, mg_ai K qfa 6 fa, mg_ai K qmo 6 mo, mg_ai K qwt 16 mw, mg_ai K qsn 24 sn, mg_ai K qlt 6 uu.1, mg_az K qkn 4 uu.2.1, mg_ai K qft 256 uu.2.2]) rfl rfl (k_Mo_fitOf l D K mh qor qfa qmo qwt qrt qnw qsn qlt qkn qft qbf qbh qjt qot qsm qpt qpr qch qbt qpg 0 np nf nc nm wr rk fa mo mw sn lt wt ol tl kn ftb mk w (by omega) (by omega) (by omega) (by omega) (by omega) (by omega) (by omega) (by omega) (by omega) (by omega)) g_Mo_134 ⟨by decide, by decide⟩ ⟨rfl, rfl⟩ rfl rfl rfl hl.1 (rest := []) (As := [.int (nI (mk)), .int (nI (w))]) rfl (Nat.le_of_ble_eq_true rfl) d_Mo_fit_35 ⟨Nat.zero_le _, Nat.zero_le _⟩ (fun _ => rfl) (fun _ => rfl) rfl ?_
  intro r u H locs hq9 hw
  obtain ⟨ua, kna, fta⟩ := u
  dsimp only at hq9 hw
  obtain ⟨rfl, hq9⟩ := hq9
  exact mg_iret X hr hlk (rfl) ((ua, kna, fta)) (⟨rfl, hq9⟩) hw d_Mo_fit_38

set_option maxRecDepth 100000 in
set_option maxHeartbeats 4000000 in
theorem k_Mo_length (l : Launch) (D : va_G) (K : Nat → ClassId) (mh : Nat) (qor : Nat) (qfa : Nat) (qmo : Nat) (qwt : Nat) (qrt : Nat) (qnw : Nat) (qsn : Nat) (qlt : Nat) (qkn : Nat) (qft : Nat) (qbf : Nat) (qbh : Nat) (qjt : Nat) (qot : Nat) (qsm : Nat) (qpt : Nat) (qpr : Nat) (qch : Nat) (qbt : Nat) (qpg : Nat) (flt : Nat) (np : Nat) (nf : Nat) (nc : Nat) (nm : Nat) (wr : Nat)  : mg_Mi l D K y_Mo_length b_Mo_length 1 (.int) ({ frames := 0, cells := 0, slots := 0, locals := 0 }) [.ref (mh)] [mg_ob mh 6 [.int (nI (flt)), .int (nI (np)), .int (nI (nf)), .int (nI (nc)), .ref (qor), .ref (qfa), .ref (qmo), .int (nI (nm)), .ref (qwt), .ref (qrt), .ref (qnw), .ref (qsn), .ref (qlt), .ref (qkn), .ref (qft), .ref (qbf), .ref (qbh), .ref (qjt), .ref (qot), .ref (qsm), .ref (qpt), .ref (qpr), .ref (qch), .ref (qbt), .int (nI (wr)), .ref (qpg)]] (fun (r : Int32) (_ : Unit) => r = nI (wr)) (fun (_ : Unit) => [mg_ob mh 6 [.int (nI (0)), .int (nI (np)), .int (nI (nf)), .int (nI (nc)), .ref (qor), .ref (qfa), .ref (qmo), .int (nI (nm)), .ref (qwt), .ref (qrt), .ref (qnw), .ref (qsn), .ref (qlt), .ref (qkn), .ref (qft), .ref (qbf), .ref (qbh), .ref (qjt), .ref (qot), .ref (qsm), .ref (qpt), .ref (qpr), .ref (qch), .ref (qbt), .int (nI (wr)), .ref (qpg)]]) := by
  intro sz
  refine mg_entry (Qc := fun A => va_Qi (fun (r : Int32) (_ : Unit) => r = nI (wr)) (mg_B D A (fun (_ : Unit) => [mg_ob mh 6 [.int (nI (0)), .int (nI (np)), .int (nI (nf)), .int (nI (nc)), .ref (qor), .ref (qfa), .ref (qmo), .int (nI (nm)), .ref (qwt), .ref (qrt), .ref (qnw), .ref (qsn), .ref (qlt), .ref (qkn), .ref (qft), .ref (qbf), .ref (qbh), .ref (qjt), .ref (qot), .ref (qsm), .ref (qpt), .ref (qpr), .ref (qch), .ref (qbt), .int (nI (wr)), .ref (qpg)]])) A) (by decide) (Nat.le_of_ble_eq_true rfl) ?_
  intro p e s m args below meth c A ls X hr hlk hnm hA hK hw hl
  have hl : lv_has ls 1 [(0, .ref (mh))] := hl
  refine mg_aload_n X 1 d_Mo_length_0 (lv_at hl 0 rfl) rfl ?_
  refine mg_iconst X 2 0 d_Mo_length_1 mg_ci_0 rfl ?_
  refine mg_put X hK hw 5 0 0 [mg_ob mh 6 [.int (nI (0)), .int (nI (np)), .int (nI (nf)), .int (nI (nc)), .ref (qor), .ref (qfa), .ref (qmo), .int (nI (nm)), .ref (qwt), .ref (qrt), .ref (qnw), .ref (qsn), .ref (qlt), .ref (qkn), .ref (qft), .ref (qbf), .ref (qbh), .ref (qjt), .ref (qot), .ref (qsm), .ref (qpt), .ref (qpr), .ref (qch), .ref (qbt), .int (nI (wr)), .ref (qpg)]] fp_Mo_76 rfl (Nat.le_of_ble_eq_true rfl) rfl rfl d_Mo_length_2 rfl rfl (fun H locs hw => ?_)
  refine mg_aload_n X 6 d_Mo_length_5 (lv_at hl 0 rfl) rfl ?_
  refine mg_get X hK hw 9 0 24 f_Mo_169 rfl rfl d_Mo_length_6 rfl ?_
  exact mg_iret X hr hlk (rfl) (()) (rfl) hw d_Mo_length_9

set_option maxRecDepth 100000 in
set_option maxHeartbeats 4000000 in
theorem k_Mo_charAt (l : Launch) (D : va_G) (K : Nat → ClassId) (mh : Nat) (qor : Nat) (qfa : Nat) (qmo : Nat) (qwt : Nat) (qrt : Nat) (qnw : Nat) (qsn : Nat) (qlt : Nat) (qkn : Nat) (qft : Nat) (qbf : Nat) (qbh : Nat) (qjt : Nat) (qot : Nat) (qsm : Nat) (qpt : Nat) (qpr : Nat) (qch : Nat) (qbt : Nat) (qpg : Nat) (flt : Nat) (np : Nat) (nf : Nat) (nc : Nat) (nm : Nat) (wr : Nat) (pg : Nat → Nat) (p1 : Nat) (hp : p1 < wr) (hwr : wr ≤ 80) (hpg : pg p1 < 65536) : mg_Mi l D K y_Mo_charAt b_Mo_charAt 2 (.char) ({ frames := 0, cells := 0, slots := 0, locals := 0 }) [.ref (mh), .int (nI (p1))] [mg_ob mh 6 [.int (nI (flt)), .int (nI (np)), .int (nI (nf)), .int (nI (nc)), .ref (qor), .ref (qfa), .ref (qmo), .int (nI (nm)), .ref (qwt), .ref (qrt), .ref (qnw), .ref (qsn), .ref (qlt), .ref (qkn), .ref (qft), .ref (qbf), .ref (qbh), .ref (qjt), .ref (qot), .ref (qsm), .ref (qpt), .ref (qpr), .ref (qch), .ref (qbt), .int (nI (wr)), .ref (qpg)], mg_ai K qpg 80 pg] (fun (r : Int32) (_ : Unit) => r = nI (pg p1)) (fun (_ : Unit) => [mg_ob mh 6 [.int (nI (0)), .int (nI (np)), .int (nI (nf)), .int (nI (nc)), .ref (qor), .ref (qfa), .ref (qmo), .int (nI (nm)), .ref (qwt), .ref (qrt), .ref (qnw), .ref (qsn), .ref (qlt), .ref (qkn), .ref (qft), .ref (qbf), .ref (qbh), .ref (qjt), .ref (qot), .ref (qsm), .ref (qpt), .ref (qpr), .ref (qch), .ref (qbt), .int (nI (wr)), .ref (qpg)], mg_ai K qpg 80 pg]) := by
  intro sz
  refine mg_entry (Qc := fun A => va_Qi (fun (r : Int32) (_ : Unit) => r = nI (pg p1)) (mg_B D A (fun (_ : Unit) => [mg_ob mh 6 [.int (nI (0)), .int (nI (np)), .int (nI (nf)), .int (nI (nc)), .ref (qor), .ref (qfa), .ref (qmo), .int (nI (nm)), .ref (qwt), .ref (qrt), .ref (qnw), .ref (qsn), .ref (qlt), .ref (qkn), .ref (qft), .ref (qbf), .ref (qbh), .ref (qjt), .ref (qot), .ref (qsm), .ref (qpt), .ref (qpr), .ref (qch), .ref (qbt), .int (nI (wr)), .ref (qpg)], mg_ai K qpg 80 pg])) A) (by decide) (Nat.le_of_ble_eq_true rfl) ?_
  intro p e s m args below meth c A ls X hr hlk hnm hA hK hw hl
  have hl : lv_has ls 2 [(0, .ref (mh)), (1, .int (nI (p1)))] := hl
  refine mg_aload_n X 1 d_Mo_charAt_0 (lv_at hl 0 rfl) rfl ?_
  refine mg_iconst X 2 0 d_Mo_charAt_1 mg_ci_0 rfl ?_
  refine mg_put X hK hw 5 0 0 [mg_ob mh 6 [.int (nI (0)), .int (nI (np)), .int (nI (nf)), .int (nI (nc)), .ref (qor), .ref (qfa), .ref (qmo), .int (nI (nm)), .ref (qwt), .ref (qrt), .ref (qnw), .ref (qsn), .ref (qlt), .ref (qkn), .ref (qft), .ref (qbf), .ref (qbh), .ref (qjt), .ref (qot), .ref (qsm), .ref (qpt), .ref (qpr), .ref (qch), .ref (qbt), .int (nI (wr)), .ref (qpg)], mg_ai K qpg 80 pg] fp_Mo_76 rfl (Nat.le_of_ble_eq_true rfl) rfl rfl d_Mo_charAt_2 rfl rfl (fun H locs hw => ?_)
  refine mg_iload_n X 6 d_Mo_charAt_5 (lv_at hl 1 rfl) rfl ?_
  refine mg_iflt_n X 9 (by omega) (tgt := 17) d_Mo_charAt_6 (by decide) rfl ?_
  refine mg_iload_n X 10 d_Mo_charAt_9 (lv_at hl 1 rfl) rfl ?_
  refine mg_aload_n X 11 d_Mo_charAt_10 (lv_at hl 0 rfl) rfl ?_
  refine mg_get X hK hw 14 0 24 f_Mo_169 rfl rfl d_Mo_charAt_11 rfl ?_
  refine mg_icmp_lt X 22 17 (by omega) (by omega) d_Mo_charAt_14 (by decide) rfl (fun b2 => ?_) (fun b2 => absurd b2 (by omega))
  refine mg_aload_n X 23 d_Mo_charAt_22 (lv_at hl 0 rfl) rfl ?_
  refine mg_get X hK hw 26 0 25 f_Mo_69 rfl rfl d_Mo_charAt_23 rfl ?_
  refine mg_iload_n X 27 d_Mo_charAt_26 (lv_at hl 1 rfl) rfl ?_
  refine mg_iald X hK hw 28 1 rfl (by omega) (by omega) d_Mo_charAt_27 rfl ?_
  refine mg_i2c X 29 d_Mo_charAt_28 (hpg) rfl ?_
  exact mg_iret X hr hlk ((pk_charN hpg).1) (()) (rfl) hw d_Mo_charAt_29

set_option maxRecDepth 100000 in
set_option maxHeartbeats 4000000 in
theorem k_Mo_charAtN (l : Launch) (D : va_G) (K : Nat → ClassId) (mh : Nat) (qor : Nat) (qfa : Nat) (qmo : Nat) (qwt : Nat) (qrt : Nat) (qnw : Nat) (qsn : Nat) (qlt : Nat) (qkn : Nat) (qft : Nat) (qbf : Nat) (qbh : Nat) (qjt : Nat) (qot : Nat) (qsm : Nat) (qpt : Nat) (qpr : Nat) (qch : Nat) (qbt : Nat) (qpg : Nat) (flt : Nat) (np : Nat) (nf : Nat) (nc : Nat) (nm : Nat) (wr : Nat) (p1 : Int32) (hx : ¬ mg_lt p1 wr) (hwr : wr ≤ 80) : mg_Mi l D K y_Mo_charAt b_Mo_charAt 2 (.char) ({ frames := 0, cells := 0, slots := 0, locals := 0 }) [.ref (mh), .int (p1)] [mg_ob mh 6 [.int (nI (flt)), .int (nI (np)), .int (nI (nf)), .int (nI (nc)), .ref (qor), .ref (qfa), .ref (qmo), .int (nI (nm)), .ref (qwt), .ref (qrt), .ref (qnw), .ref (qsn), .ref (qlt), .ref (qkn), .ref (qft), .ref (qbf), .ref (qbh), .ref (qjt), .ref (qot), .ref (qsm), .ref (qpt), .ref (qpr), .ref (qch), .ref (qbt), .int (nI (wr)), .ref (qpg)]] (fun (r : Int32) (_ : Unit) => r = nI (32)) (fun (_ : Unit) => [mg_ob mh 6 [.int (nI (0)), .int (nI (np)), .int (nI (nf)), .int (nI (nc)), .ref (qor), .ref (qfa), .ref (qmo), .int (nI (nm)), .ref (qwt), .ref (qrt), .ref (qnw), .ref (qsn), .ref (qlt), .ref (qkn), .ref (qft), .ref (qbf), .ref (qbh), .ref (qjt), .ref (qot), .ref (qsm), .ref (qpt), .ref (qpr), .ref (qch), .ref (qbt), .int (nI (wr)), .ref (qpg)]]) := by
  intro sz
  refine mg_entry (Qc := fun A => va_Qi (fun (r : Int32) (_ : Unit) => r = nI (32)) (mg_B D A (fun (_ : Unit) => [mg_ob mh 6 [.int (nI (0)), .int (nI (np)), .int (nI (nf)), .int (nI (nc)), .ref (qor), .ref (qfa), .ref (qmo), .int (nI (nm)), .ref (qwt), .ref (qrt), .ref (qnw), .ref (qsn), .ref (qlt), .ref (qkn), .ref (qft), .ref (qbf), .ref (qbh), .ref (qjt), .ref (qot), .ref (qsm), .ref (qpt), .ref (qpr), .ref (qch), .ref (qbt), .int (nI (wr)), .ref (qpg)]])) A) (by decide) (Nat.le_of_ble_eq_true rfl) ?_
  intro p e s m args below meth c A ls X hr hlk hnm hA hK hw hl
  have hl : lv_has ls 2 [(0, .ref (mh)), (1, .int (p1))] := hl
  refine mg_aload_n X 1 d_Mo_charAt_0 (lv_at hl 0 rfl) rfl ?_
  refine mg_iconst X 2 0 d_Mo_charAt_1 mg_ci_0 rfl ?_
  refine mg_put X hK hw 5 0 0 [mg_ob mh 6 [.int (nI (0)), .int (nI (np)), .int (nI (nf)), .int (nI (nc)), .ref (qor), .ref (qfa), .ref (qmo), .int (nI (nm)), .ref (qwt), .ref (qrt), .ref (qnw), .ref (qsn), .ref (qlt), .ref (qkn), .ref (qft), .ref (qbf), .ref (qbh), .ref (qjt), .ref (qot), .ref (qsm), .ref (qpt), .ref (qpr), .ref (qch), .ref (qbt), .int (nI (wr)), .ref (qpg)]] fp_Mo_76 rfl (Nat.le_of_ble_eq_true rfl) rfl rfl d_Mo_charAt_2 rfl rfl (fun H locs hw => ?_)
  refine mg_iload_n X 6 d_Mo_charAt_5 (lv_at hl 1 rfl) rfl ?_
  refine mg_iflt_r X 17 9 d_Mo_charAt_6 (by decide) rfl (fun b1 => ?_) (fun j hj ej => ?_)
  · -- pc 6 t
    refine mg_bipush X 19 32 d_Mo_charAt_17 mg_cb_32 rfl ?_
    refine mg_goto X 29 d_Mo_charAt_19 (by decide) ?_
    exact mg_iret X hr hlk ((pk_charN (by decide)).1) (()) (rfl) hw d_Mo_charAt_29
  · -- pc 6 f
    subst ej
    refine mg_iload_n X 10 d_Mo_charAt_9 (lv_at hl 1 rfl) rfl ?_
    refine mg_aload_n X 11 d_Mo_charAt_10 (lv_at hl 0 rfl) rfl ?_
    refine mg_get X hK hw 14 0 24 f_Mo_169 rfl rfl d_Mo_charAt_11 rfl ?_
    refine mg_icmp_lt X 22 17 (by omega) (by omega) d_Mo_charAt_14 (by decide) rfl (fun h9 => absurd h9 ((fun q => hx (mg_lt_in q)))) (fun h9 => ?_)
    refine mg_bipush X 19 32 d_Mo_charAt_17 mg_cb_32 rfl ?_
    refine mg_goto X 29 d_Mo_charAt_19 (by decide) ?_
    exact mg_iret X hr hlk ((pk_charN (by decide)).1) (()) (rfl) hw d_Mo_charAt_29
