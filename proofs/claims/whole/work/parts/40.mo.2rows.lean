set_option maxRecDepth 100000 in
set_option maxHeartbeats 4000000 in
theorem k_Mo_thrown (l : Launch) (D : va_G) (K : Nat → ClassId) (mh : Nat) (qor : Nat) (qfa : Nat) (qmo : Nat) (qwt : Nat) (qrt : Nat) (qnw : Nat) (qsn : Nat) (qlt : Nat) (qkn : Nat) (qft : Nat) (qbf : Nat) (qbh : Nat) (qjt : Nat) (qot : Nat) (qsm : Nat) (qpt : Nat) (qpr : Nat) (qch : Nat) (qbt : Nat) (qpg : Nat) (flt : Nat) (np : Nat) (nf : Nat) (nc : Nat) (nm : Nat) (wr : Nat)  : mg_Mi l D K y_Mo_thrown b_Mo_thrown 1 (.int) ({ frames := 0, cells := 0, slots := 0, locals := 0 }) [.ref (mh)] [mg_ob mh 6 [.int (nI (flt)), .int (nI (np)), .int (nI (nf)), .int (nI (nc)), .ref (qor), .ref (qfa), .ref (qmo), .int (nI (nm)), .ref (qwt), .ref (qrt), .ref (qnw), .ref (qsn), .ref (qlt), .ref (qkn), .ref (qft), .ref (qbf), .ref (qbh), .ref (qjt), .ref (qot), .ref (qsm), .ref (qpt), .ref (qpr), .ref (qch), .ref (qbt), .int (nI (wr)), .ref (qpg)]] (fun (r : Int32) (_ : Unit) => r = nI (flt)) (fun (_ : Unit) => [mg_ob mh 6 [.int (nI (flt)), .int (nI (np)), .int (nI (nf)), .int (nI (nc)), .ref (qor), .ref (qfa), .ref (qmo), .int (nI (nm)), .ref (qwt), .ref (qrt), .ref (qnw), .ref (qsn), .ref (qlt), .ref (qkn), .ref (qft), .ref (qbf), .ref (qbh), .ref (qjt), .ref (qot), .ref (qsm), .ref (qpt), .ref (qpr), .ref (qch), .ref (qbt), .int (nI (wr)), .ref (qpg)]]) := by
  intro sz
  refine mg_entry (Qc := fun A => va_Qi (fun (r : Int32) (_ : Unit) => r = nI (flt)) (mg_B D A (fun (_ : Unit) => [mg_ob mh 6 [.int (nI (flt)), .int (nI (np)), .int (nI (nf)), .int (nI (nc)), .ref (qor), .ref (qfa), .ref (qmo), .int (nI (nm)), .ref (qwt), .ref (qrt), .ref (qnw), .ref (qsn), .ref (qlt), .ref (qkn), .ref (qft), .ref (qbf), .ref (qbh), .ref (qjt), .ref (qot), .ref (qsm), .ref (qpt), .ref (qpr), .ref (qch), .ref (qbt), .int (nI (wr)), .ref (qpg)]])) A) (by decide) (Nat.le_of_ble_eq_true rfl) ?_
  intro p e s m args below meth c A ls X hr hlk hnm hA hK hw hl
  have hl : lv_has ls 1 [(0, .ref (mh))] := hl
  refine mg_aload_n X 1 d_Mo_thrown_0 (lv_at hl 0 rfl) rfl ?_
  refine mg_get X hK hw 4 0 0 f_Mo_76 rfl rfl d_Mo_thrown_1 rfl ?_
  exact mg_iret X hr hlk (rfl) (()) (rfl) hw d_Mo_thrown_4

set_option maxRecDepth 100000 in
set_option maxHeartbeats 4000000 in
theorem k_Mo_refused (l : Launch) (D : va_G) (K : Nat → ClassId) (mh : Nat) (qor : Nat) (qfa : Nat) (qmo : Nat) (qwt : Nat) (qrt : Nat) (qnw : Nat) (qsn : Nat) (qlt : Nat) (qkn : Nat) (qft : Nat) (qbf : Nat) (qbh : Nat) (qjt : Nat) (qot : Nat) (qsm : Nat) (qpt : Nat) (qpr : Nat) (qch : Nat) (qbt : Nat) (qpg : Nat) (flt : Nat) (np : Nat) (nf : Nat) (nc : Nat) (nm : Nat) (wr : Nat) (wh : Nat) (hwh : wh < 3) : mg_Mi l D K y_Mo_refused b_Mo_refused 2 (.boolean) ({ frames := 0, cells := 0, slots := 0, locals := 0 }) [.ref (mh), .int (nI (wh))] [mg_ob mh 6 [.int (nI (flt)), .int (nI (np)), .int (nI (nf)), .int (nI (nc)), .ref (qor), .ref (qfa), .ref (qmo), .int (nI (nm)), .ref (qwt), .ref (qrt), .ref (qnw), .ref (qsn), .ref (qlt), .ref (qkn), .ref (qft), .ref (qbf), .ref (qbh), .ref (qjt), .ref (qot), .ref (qsm), .ref (qpt), .ref (qpr), .ref (qch), .ref (qbt), .int (nI (wr)), .ref (qpg)]] (fun (r : Int32) (_ : Unit) => r = nI (ft_c (0 < wh))) (fun (_ : Unit) => [mg_ob mh 6 [.int (nI (wh)), .int (nI (np)), .int (nI (nf)), .int (nI (nc)), .ref (qor), .ref (qfa), .ref (qmo), .int (nI (nm)), .ref (qwt), .ref (qrt), .ref (qnw), .ref (qsn), .ref (qlt), .ref (qkn), .ref (qft), .ref (qbf), .ref (qbh), .ref (qjt), .ref (qot), .ref (qsm), .ref (qpt), .ref (qpr), .ref (qch), .ref (qbt), .int (nI (wr)), .ref (qpg)]]) := by
  intro sz
  refine mg_entry (Qc := fun A => va_Qi (fun (r : Int32) (_ : Unit) => r = nI (ft_c (0 < wh))) (mg_B D A (fun (_ : Unit) => [mg_ob mh 6 [.int (nI (wh)), .int (nI (np)), .int (nI (nf)), .int (nI (nc)), .ref (qor), .ref (qfa), .ref (qmo), .int (nI (nm)), .ref (qwt), .ref (qrt), .ref (qnw), .ref (qsn), .ref (qlt), .ref (qkn), .ref (qft), .ref (qbf), .ref (qbh), .ref (qjt), .ref (qot), .ref (qsm), .ref (qpt), .ref (qpr), .ref (qch), .ref (qbt), .int (nI (wr)), .ref (qpg)]])) A) (by decide) (Nat.le_of_ble_eq_true rfl) ?_
  intro p e s m args below meth c A ls X hr hlk hnm hA hK hw hl
  have hl : lv_has ls 2 [(0, .ref (mh)), (1, .int (nI (wh)))] := hl
  refine mg_aload_n X 1 d_Mo_refused_0 (lv_at hl 0 rfl) rfl ?_
  refine mg_iload_n X 2 d_Mo_refused_1 (lv_at hl 1 rfl) rfl ?_
  refine mg_put X hK hw 5 0 0 [mg_ob mh 6 [.int (nI (wh)), .int (nI (np)), .int (nI (nf)), .int (nI (nc)), .ref (qor), .ref (qfa), .ref (qmo), .int (nI (nm)), .ref (qwt), .ref (qrt), .ref (qnw), .ref (qsn), .ref (qlt), .ref (qkn), .ref (qft), .ref (qbf), .ref (qbh), .ref (qjt), .ref (qot), .ref (qsm), .ref (qpt), .ref (qpr), .ref (qch), .ref (qbt), .int (nI (wr)), .ref (qpg)]] fp_Mo_76 rfl (Nat.le_of_ble_eq_true rfl) rfl rfl d_Mo_refused_2 rfl rfl (fun H locs hw => ?_)
  refine mg_iload_n X 6 d_Mo_refused_5 (lv_at hl 1 rfl) rfl ?_
  refine mg_if_le X 13 9 (by omega) d_Mo_refused_6 (by decide) rfl (fun hb => ?_) (fun hb => ?_)
  · -- pc 6 t
    refine mg_iconst X 14 0 d_Mo_refused_13 mg_ci_0 rfl ?_
    exact mg_iret X hr hlk (mg_nz (by omega)) (()) (by rw [ft_c0 (by omega)]) hw d_Mo_refused_14
  · -- pc 6 f
    refine mg_iconst X 10 1 d_Mo_refused_9 mg_ci_1 rfl ?_
    refine mg_goto X 14 d_Mo_refused_10 (by decide) ?_
    exact mg_iret X hr hlk (mg_nz (by omega)) (()) (by rw [ft_c1 hb]) hw d_Mo_refused_14

set_option maxRecDepth 100000 in
set_option maxHeartbeats 4000000 in
theorem k_Mo_isAnySeen (l : Launch) (D : va_G) (K : Nat → ClassId) (mh : Nat) (qor : Nat) (qfa : Nat) (qmo : Nat) (qwt : Nat) (qrt : Nat) (qnw : Nat) (qsn : Nat) (qlt : Nat) (qkn : Nat) (qft : Nat) (qbf : Nat) (qbh : Nat) (qjt : Nat) (qot : Nat) (qsm : Nat) (qpt : Nat) (qpr : Nat) (qch : Nat) (qbt : Nat) (qpg : Nat) (flt : Nat) (np : Nat) (nf : Nat) (nc : Nat) (nm : Nat) (wr : Nat) (sn : Nat → Nat) (hsn : ∀ k, k < 24 → sn k ≤ 33) : mg_Mi l D K y_Mo_isAnySeen b_Mo_isAnySeen 3 (.boolean) ({ frames := 0, cells := 0, slots := 0, locals := 0 }) [.ref (mh)] [mg_ob mh 6 [.int (nI (flt)), .int (nI (np)), .int (nI (nf)), .int (nI (nc)), .ref (qor), .ref (qfa), .ref (qmo), .int (nI (nm)), .ref (qwt), .ref (qrt), .ref (qnw), .ref (qsn), .ref (qlt), .ref (qkn), .ref (qft), .ref (qbf), .ref (qbh), .ref (qjt), .ref (qot), .ref (qsm), .ref (qpt), .ref (qpr), .ref (qch), .ref (qbt), .int (nI (wr)), .ref (qpg)], mg_ai K qsn 24 sn] (fun (r : Int32) (_ : Unit) => r = nI (ft_c (∃ j, j < 24 ∧ 0 < sn j))) (fun (_ : Unit) => [mg_ob mh 6 [.int (nI (flt)), .int (nI (np)), .int (nI (nf)), .int (nI (nc)), .ref (qor), .ref (qfa), .ref (qmo), .int (nI (nm)), .ref (qwt), .ref (qrt), .ref (qnw), .ref (qsn), .ref (qlt), .ref (qkn), .ref (qft), .ref (qbf), .ref (qbh), .ref (qjt), .ref (qot), .ref (qsm), .ref (qpt), .ref (qpr), .ref (qch), .ref (qbt), .int (nI (wr)), .ref (qpg)], mg_ai K qsn 24 sn]) := by
  intro sz
  refine mg_entry (Qc := fun A => va_Qi (fun (r : Int32) (_ : Unit) => r = nI (ft_c (∃ j, j < 24 ∧ 0 < sn j))) (mg_B D A (fun (_ : Unit) => [mg_ob mh 6 [.int (nI (flt)), .int (nI (np)), .int (nI (nf)), .int (nI (nc)), .ref (qor), .ref (qfa), .ref (qmo), .int (nI (nm)), .ref (qwt), .ref (qrt), .ref (qnw), .ref (qsn), .ref (qlt), .ref (qkn), .ref (qft), .ref (qbf), .ref (qbh), .ref (qjt), .ref (qot), .ref (qsm), .ref (qpt), .ref (qpr), .ref (qch), .ref (qbt), .int (nI (wr)), .ref (qpg)], mg_ai K qsn 24 sn])) A) (by decide) (Nat.le_of_ble_eq_true rfl) ?_
  intro p e s m args below meth c A ls X hr hlk hnm hA hK hw hl
  have hl : lv_has ls 3 [(0, .ref (mh))] := hl
  refine mg_iconst X 1 0 d_Mo_isAnySeen_0 mg_ci_0 rfl ?_
  refine mg_istore_n X 2 [(1, .int (nI (0))), (0, .ref (mh))] d_Mo_isAnySeen_1 hl (by decide) rfl rfl (fun ls hl => ?_)
  refine mg_iconst X 3 0 d_Mo_isAnySeen_2 mg_ci_0 rfl ?_
  refine mg_istore_n X 4 [(2, .int (nI (0))), (1, .int (nI (0))), (0, .ref (mh))] d_Mo_isAnySeen_3 hl (by decide) rfl rfl (fun ls hl => ?_)
  have L4 : ∀ (n0 : Nat) (k : Nat) (x : Nat), n0 = 24 - k → (x = ft_c (∃ j, j < k ∧ 0 < sn j)) → (k ≤ 24) → ∀ (ls : Array Slot) (H : Heap) (locs : List Loc), lv_has ls 3 [(0, .ref (mh)), (1, .int (nI (x))), (2, .int (nI (k)))] → mg_H D A s.heap H locs [mg_ob mh 6 [.int (nI (flt)), .int (nI (np)), .int (nI (nf)), .int (nI (nc)), .ref (qor), .ref (qfa), .ref (qmo), .int (nI (nm)), .ref (qwt), .ref (qrt), .ref (qnw), .ref (qsn), .ref (qlt), .ref (qkn), .ref (qft), .ref (qbf), .ref (qbh), .ref (qjt), .ref (qot), .ref (qsm), .ref (qpt), .ref (qpr), .ref (qch), .ref (qbt), .int (nI (wr)), .ref (qpg)], mg_ai K qsn 24 sn] → W p l e ({ frames := 0, cells := 0, slots := 0, locals := 0 }) s m args below meth c H locs 0 0 (MQ below (va_Qi (fun (r : Int32) (_ : Unit) => r = nI (ft_c (∃ j, j < 24 ∧ 0 < sn j))) (mg_B D A (fun (_ : Unit) => [mg_ob mh 6 [.int (nI (flt)), .int (nI (np)), .int (nI (nf)), .int (nI (nc)), .ref (qor), .ref (qfa), .ref (qmo), .int (nI (nm)), .ref (qwt), .ref (qrt), .ref (qnw), .ref (qsn), .ref (qlt), .ref (qkn), .ref (qft), .ref (qbf), .ref (qbh), .ref (qjt), .ref (qot), .ref (qsm), .ref (qpt), .ref (qpr), .ref (qch), .ref (qbt), .int (nI (wr)), .ref (qpg)], mg_ai K qsn 24 sn])) A) args s (0) (0) A) (F0 m 4 ls []) := by
    intro n0
    induction n0 using Nat.strongRecOn with
    | ind n0 ih4 =>
    intro k x hm4 hx hk ls H locs hl hw
    have hx2 : x < 2 := by rw [hx]; exact mg_ft1 _
    refine mg_iload_n X 5 d_Mo_isAnySeen_4 (lv_at hl 2 rfl) rfl ?_
    refine mg_bipush X 7 24 d_Mo_isAnySeen_5 mg_cb_24 rfl ?_
    refine mg_icmp_ge X 35 10 (by omega) (by omega) d_Mo_isAnySeen_7 (by decide) rfl (fun hb => ?_) (fun hb => ?_)
    · -- pc 7 t
      refine mg_iload_n X 36 d_Mo_isAnySeen_35 (lv_at hl 1 rfl) rfl ?_
      exact mg_iret X hr hlk (mg_nz (by omega)) (()) (by rw [hx, show k = 24 by omega]) hw d_Mo_isAnySeen_36
    · -- pc 7 f
      refine mg_iload_n X 11 d_Mo_isAnySeen_10 (lv_at hl 1 rfl) rfl ?_
      refine mg_if_ne X 23 14 (by omega) d_Mo_isAnySeen_11 (by decide) rfl (fun hn => ?_) (fun hn => ?_)
      · -- pc 11 t
        refine mg_iconst X 24 1 d_Mo_isAnySeen_23 mg_ci_1 rfl ?_
        refine mg_goto X 28 d_Mo_isAnySeen_24 (by decide) ?_
        refine mg_istore_n X 29 [(1, .int (nI (1))), (0, .ref (mh)), (2, .int (nI (k)))] d_Mo_isAnySeen_28 hl (by decide) rfl rfl (fun ls hl => ?_)
        refine mg_iinc X 32 [(2, .int (nI (k + 1))), (1, .int (nI (1))), (0, .ref (mh))] (k + 1) d_Mo_isAnySeen_29 hl (k := 2) rfl (mg_inc1 _) (by decide) rfl rfl (fun ls hl => ?_)
        refine mg_goto X 4 d_Mo_isAnySeen_32 (by decide) ?_
        have hl : lv_has ls 3 [(0, .ref (mh)), (1, .int (nI (1))), (2, .int (nI (k + 1)))] := lv_sub hl [2, 1, 0] rfl
        exact ih4 _ (by omega) (k + 1) 1 rfl (by rw [ft_c1 (show ∃ j, j < (k + 1) ∧ 0 < sn j from Classical.byContradiction (fun q => hn (hx.trans (ft_c0 (fun ⟨j, h1, h2⟩ => q ⟨j, by omega, h2⟩)))))]) (by omega) ls _ _ hl hw
      · -- pc 11 f
        refine mg_aload_n X 15 d_Mo_isAnySeen_14 (lv_at hl 0 rfl) rfl ?_
        refine mg_get X hK hw 18 0 11 f_Mo_28 rfl rfl d_Mo_isAnySeen_15 rfl ?_
        refine mg_iload_n X 19 d_Mo_isAnySeen_18 (lv_at hl 2 rfl) rfl ?_
        refine mg_iald X hK hw 20 1 rfl (by omega) (by omega) d_Mo_isAnySeen_19 rfl ?_
        refine mg_if_le X 27 23 (by have := hsn k (by omega); omega) d_Mo_isAnySeen_20 (by decide) rfl (fun hs => ?_) (fun hs => ?_)
        · -- pc 20 t
          refine mg_iconst X 28 0 d_Mo_isAnySeen_27 mg_ci_0 rfl ?_
          refine mg_istore_n X 29 [(1, .int (nI (0))), (0, .ref (mh)), (2, .int (nI (k)))] d_Mo_isAnySeen_28 hl (by decide) rfl rfl (fun ls hl => ?_)
          refine mg_iinc X 32 [(2, .int (nI (k + 1))), (1, .int (nI (0))), (0, .ref (mh))] (k + 1) d_Mo_isAnySeen_29 hl (k := 2) rfl (mg_inc1 _) (by decide) rfl rfl (fun ls hl => ?_)
          refine mg_goto X 4 d_Mo_isAnySeen_32 (by decide) ?_
          have hl : lv_has ls 3 [(0, .ref (mh)), (1, .int (nI (0))), (2, .int (nI (k + 1)))] := lv_sub hl [2, 1, 0] rfl
          exact ih4 _ (by omega) (k + 1) 0 rfl (by rw [ft_c0 (fun ⟨j, h1, h2⟩ => by rcases (show j < k ∨ j = k by omega) with h3 | h3; exact absurd (hx.trans (ft_c1 (show ∃ j, j < k ∧ 0 < sn j from ⟨j, h3, h2⟩))) (by omega); subst h3; omega)]) (by omega) ls _ _ hl hw
        · -- pc 20 f
          refine mg_iconst X 24 1 d_Mo_isAnySeen_23 mg_ci_1 rfl ?_
          refine mg_goto X 28 d_Mo_isAnySeen_24 (by decide) ?_
          refine mg_istore_n X 29 [(1, .int (nI (1))), (0, .ref (mh)), (2, .int (nI (k)))] d_Mo_isAnySeen_28 hl (by decide) rfl rfl (fun ls hl => ?_)
          refine mg_iinc X 32 [(2, .int (nI (k + 1))), (1, .int (nI (1))), (0, .ref (mh))] (k + 1) d_Mo_isAnySeen_29 hl (k := 2) rfl (mg_inc1 _) (by decide) rfl rfl (fun ls hl => ?_)
          refine mg_goto X 4 d_Mo_isAnySeen_32 (by decide) ?_
          have hl : lv_has ls 3 [(0, .ref (mh)), (1, .int (nI (1))), (2, .int (nI (k + 1)))] := lv_sub hl [2, 1, 0] rfl
          exact ih4 _ (by omega) (k + 1) 1 rfl (by rw [ft_c1 (show ∃ j, j < (k + 1) ∧ 0 < sn j from ⟨k, by omega, hs⟩)]) (by omega) ls _ _ hl hw
  have hl : lv_has ls 3 [(0, .ref (mh)), (1, .int (nI (0))), (2, .int (nI (0)))] := lv_sub hl [2, 1, 0] rfl
  exact L4 _ 0 0 rfl ((ft_c0 (fun ⟨j, h1, _⟩ => by omega)).symm) (by omega) ls _ _ hl hw

set_option maxRecDepth 100000 in
set_option maxHeartbeats 4000000 in
theorem k_Mo_isPerson (l : Launch) (D : va_G) (K : Nat → ClassId) (mh : Nat) (qor : Nat) (qfa : Nat) (qmo : Nat) (qwt : Nat) (qrt : Nat) (qnw : Nat) (qsn : Nat) (qlt : Nat) (qkn : Nat) (qft : Nat) (qbf : Nat) (qbh : Nat) (qjt : Nat) (qot : Nat) (qsm : Nat) (qpt : Nat) (qpr : Nat) (qch : Nat) (qbt : Nat) (qpg : Nat) (flt : Nat) (np : Nat) (nf : Nat) (nc : Nat) (nm : Nat) (wr : Nat) (x : Int32) (hnp : np ≤ 6) : mg_Mi l D K y_Mo_isPerson b_Mo_isPerson 2 (.boolean) ({ frames := 0, cells := 0, slots := 0, locals := 0 }) [.ref (mh), .int (x)] [mg_ob mh 6 [.int (nI (flt)), .int (nI (np)), .int (nI (nf)), .int (nI (nc)), .ref (qor), .ref (qfa), .ref (qmo), .int (nI (nm)), .ref (qwt), .ref (qrt), .ref (qnw), .ref (qsn), .ref (qlt), .ref (qkn), .ref (qft), .ref (qbf), .ref (qbh), .ref (qjt), .ref (qot), .ref (qsm), .ref (qpt), .ref (qpr), .ref (qch), .ref (qbt), .int (nI (wr)), .ref (qpg)]] (fun (r : Int32) (_ : Unit) => r = nI (ft_c (mg_lt x (np)))) (fun (_ : Unit) => [mg_ob mh 6 [.int (nI (flt)), .int (nI (np)), .int (nI (nf)), .int (nI (nc)), .ref (qor), .ref (qfa), .ref (qmo), .int (nI (nm)), .ref (qwt), .ref (qrt), .ref (qnw), .ref (qsn), .ref (qlt), .ref (qkn), .ref (qft), .ref (qbf), .ref (qbh), .ref (qjt), .ref (qot), .ref (qsm), .ref (qpt), .ref (qpr), .ref (qch), .ref (qbt), .int (nI (wr)), .ref (qpg)]]) := by
  intro sz
  refine mg_entry (Qc := fun A => va_Qi (fun (r : Int32) (_ : Unit) => r = nI (ft_c (mg_lt x (np)))) (mg_B D A (fun (_ : Unit) => [mg_ob mh 6 [.int (nI (flt)), .int (nI (np)), .int (nI (nf)), .int (nI (nc)), .ref (qor), .ref (qfa), .ref (qmo), .int (nI (nm)), .ref (qwt), .ref (qrt), .ref (qnw), .ref (qsn), .ref (qlt), .ref (qkn), .ref (qft), .ref (qbf), .ref (qbh), .ref (qjt), .ref (qot), .ref (qsm), .ref (qpt), .ref (qpr), .ref (qch), .ref (qbt), .int (nI (wr)), .ref (qpg)]])) A) (by decide) (Nat.le_of_ble_eq_true rfl) ?_
  intro p e s m args below meth c A ls X hr hlk hnm hA hK hw hl
  have hl : lv_has ls 2 [(0, .ref (mh)), (1, .int (x))] := hl
  refine mg_iload_n X 1 d_Mo_isPerson_0 (lv_at hl 1 rfl) rfl ?_
  refine mg_iflt_r X 16 4 d_Mo_isPerson_1 (by decide) rfl (fun hneg => ?_) (fun j hj ej => ?_)
  · -- pc 1 t
    refine mg_iconst X 17 0 d_Mo_isPerson_16 mg_ci_0 rfl ?_
    exact mg_iret X hr hlk (mg_nz (by omega)) (()) (by rw [ft_c0 (mg_lt_neg hneg (by omega))]) hw d_Mo_isPerson_17
  · -- pc 1 f
    subst ej
    refine mg_iload_n X 5 d_Mo_isPerson_4 (lv_at hl 1 rfl) rfl ?_
    refine mg_aload_n X 6 d_Mo_isPerson_5 (lv_at hl 0 rfl) rfl ?_
    refine mg_get X hK hw 9 0 1 f_Mo_80 rfl rfl d_Mo_isPerson_6 rfl ?_
    refine mg_icmp_ge X 16 12 (by omega) (by omega) d_Mo_isPerson_9 (by decide) rfl (fun hc => ?_) (fun hc => ?_)
    · -- pc 9 t
      refine mg_iconst X 17 0 d_Mo_isPerson_16 mg_ci_0 rfl ?_
      exact mg_iret X hr hlk (mg_nz (by omega)) (()) (by rw [ft_c0 (mg_lt_ge hj (by omega))]) hw d_Mo_isPerson_17
    · -- pc 9 f
      refine mg_iconst X 13 1 d_Mo_isPerson_12 mg_ci_1 rfl ?_
      refine mg_goto X 17 d_Mo_isPerson_13 (by decide) ?_
      exact mg_iret X hr hlk (mg_nz (by omega)) (()) (by rw [ft_c1 (mg_lt_in (by omega))]) hw d_Mo_isPerson_17

set_option maxRecDepth 100000 in
set_option maxHeartbeats 4000000 in
theorem k_Mo_isMarker (l : Launch) (D : va_G) (K : Nat → ClassId) (mh : Nat) (qor : Nat) (qfa : Nat) (qmo : Nat) (qwt : Nat) (qrt : Nat) (qnw : Nat) (qsn : Nat) (qlt : Nat) (qkn : Nat) (qft : Nat) (qbf : Nat) (qbh : Nat) (qjt : Nat) (qot : Nat) (qsm : Nat) (qpt : Nat) (qpr : Nat) (qch : Nat) (qbt : Nat) (qpg : Nat) (flt : Nat) (np : Nat) (nf : Nat) (nc : Nat) (nm : Nat) (wr : Nat) (x : Int32) (hnm4 : nm ≤ 4) : mg_Mi l D K y_Mo_isMarker b_Mo_isMarker 2 (.boolean) ({ frames := 0, cells := 0, slots := 0, locals := 0 }) [.ref (mh), .int (x)] [mg_ob mh 6 [.int (nI (flt)), .int (nI (np)), .int (nI (nf)), .int (nI (nc)), .ref (qor), .ref (qfa), .ref (qmo), .int (nI (nm)), .ref (qwt), .ref (qrt), .ref (qnw), .ref (qsn), .ref (qlt), .ref (qkn), .ref (qft), .ref (qbf), .ref (qbh), .ref (qjt), .ref (qot), .ref (qsm), .ref (qpt), .ref (qpr), .ref (qch), .ref (qbt), .int (nI (wr)), .ref (qpg)]] (fun (r : Int32) (_ : Unit) => r = nI (ft_c (mg_lt x (nm)))) (fun (_ : Unit) => [mg_ob mh 6 [.int (nI (flt)), .int (nI (np)), .int (nI (nf)), .int (nI (nc)), .ref (qor), .ref (qfa), .ref (qmo), .int (nI (nm)), .ref (qwt), .ref (qrt), .ref (qnw), .ref (qsn), .ref (qlt), .ref (qkn), .ref (qft), .ref (qbf), .ref (qbh), .ref (qjt), .ref (qot), .ref (qsm), .ref (qpt), .ref (qpr), .ref (qch), .ref (qbt), .int (nI (wr)), .ref (qpg)]]) := by
  intro sz
  refine mg_entry (Qc := fun A => va_Qi (fun (r : Int32) (_ : Unit) => r = nI (ft_c (mg_lt x (nm)))) (mg_B D A (fun (_ : Unit) => [mg_ob mh 6 [.int (nI (flt)), .int (nI (np)), .int (nI (nf)), .int (nI (nc)), .ref (qor), .ref (qfa), .ref (qmo), .int (nI (nm)), .ref (qwt), .ref (qrt), .ref (qnw), .ref (qsn), .ref (qlt), .ref (qkn), .ref (qft), .ref (qbf), .ref (qbh), .ref (qjt), .ref (qot), .ref (qsm), .ref (qpt), .ref (qpr), .ref (qch), .ref (qbt), .int (nI (wr)), .ref (qpg)]])) A) (by decide) (Nat.le_of_ble_eq_true rfl) ?_
  intro p e s m args below meth c A ls X hr hlk hnm hA hK hw hl
  have hl : lv_has ls 2 [(0, .ref (mh)), (1, .int (x))] := hl
  refine mg_iload_n X 1 d_Mo_isMarker_0 (lv_at hl 1 rfl) rfl ?_
  refine mg_iflt_r X 16 4 d_Mo_isMarker_1 (by decide) rfl (fun hneg => ?_) (fun j hj ej => ?_)
  · -- pc 1 t
    refine mg_iconst X 17 0 d_Mo_isMarker_16 mg_ci_0 rfl ?_
    exact mg_iret X hr hlk (mg_nz (by omega)) (()) (by rw [ft_c0 (mg_lt_neg hneg (by omega))]) hw d_Mo_isMarker_17
  · -- pc 1 f
    subst ej
    refine mg_iload_n X 5 d_Mo_isMarker_4 (lv_at hl 1 rfl) rfl ?_
    refine mg_aload_n X 6 d_Mo_isMarker_5 (lv_at hl 0 rfl) rfl ?_
    refine mg_get X hK hw 9 0 7 f_Mo_83 rfl rfl d_Mo_isMarker_6 rfl ?_
    refine mg_icmp_ge X 16 12 (by omega) (by omega) d_Mo_isMarker_9 (by decide) rfl (fun hc => ?_) (fun hc => ?_)
    · -- pc 9 t
      refine mg_iconst X 17 0 d_Mo_isMarker_16 mg_ci_0 rfl ?_
      exact mg_iret X hr hlk (mg_nz (by omega)) (()) (by rw [ft_c0 (mg_lt_ge hj (by omega))]) hw d_Mo_isMarker_17
    · -- pc 9 f
      refine mg_iconst X 13 1 d_Mo_isMarker_12 mg_ci_1 rfl ?_
      refine mg_goto X 17 d_Mo_isMarker_13 (by decide) ?_
      exact mg_iret X hr hlk (mg_nz (by omega)) (()) (by rw [ft_c1 (mg_lt_in (by omega))]) hw d_Mo_isMarker_17

set_option maxRecDepth 100000 in
set_option maxHeartbeats 4000000 in
theorem k_Mo_isGap (l : Launch) (D : va_G) (K : Nat → ClassId) (mh : Nat) (qor : Nat) (qfa : Nat) (qmo : Nat) (qwt : Nat) (qrt : Nat) (qnw : Nat) (qsn : Nat) (qlt : Nat) (qkn : Nat) (qft : Nat) (qbf : Nat) (qbh : Nat) (qjt : Nat) (qot : Nat) (qsm : Nat) (qpt : Nat) (qpr : Nat) (qch : Nat) (qbt : Nat) (qpg : Nat) (flt : Nat) (np : Nat) (nf : Nat) (nc : Nat) (nm : Nat) (wr : Nat) (x : Int32) (hnm4 : nm ≤ 4) : mg_Mi l D K y_Mo_isGap b_Mo_isGap 2 (.boolean) ({ frames := 0, cells := 0, slots := 0, locals := 0 }) [.ref (mh), .int (x)] [mg_ob mh 6 [.int (nI (flt)), .int (nI (np)), .int (nI (nf)), .int (nI (nc)), .ref (qor), .ref (qfa), .ref (qmo), .int (nI (nm)), .ref (qwt), .ref (qrt), .ref (qnw), .ref (qsn), .ref (qlt), .ref (qkn), .ref (qft), .ref (qbf), .ref (qbh), .ref (qjt), .ref (qot), .ref (qsm), .ref (qpt), .ref (qpr), .ref (qch), .ref (qbt), .int (nI (wr)), .ref (qpg)]] (fun (r : Int32) (_ : Unit) => r = nI (ft_c (mg_lt x (nm - 1)))) (fun (_ : Unit) => [mg_ob mh 6 [.int (nI (flt)), .int (nI (np)), .int (nI (nf)), .int (nI (nc)), .ref (qor), .ref (qfa), .ref (qmo), .int (nI (nm)), .ref (qwt), .ref (qrt), .ref (qnw), .ref (qsn), .ref (qlt), .ref (qkn), .ref (qft), .ref (qbf), .ref (qbh), .ref (qjt), .ref (qot), .ref (qsm), .ref (qpt), .ref (qpr), .ref (qch), .ref (qbt), .int (nI (wr)), .ref (qpg)]]) := by
  intro sz
  refine mg_entry (Qc := fun A => va_Qi (fun (r : Int32) (_ : Unit) => r = nI (ft_c (mg_lt x (nm - 1)))) (mg_B D A (fun (_ : Unit) => [mg_ob mh 6 [.int (nI (flt)), .int (nI (np)), .int (nI (nf)), .int (nI (nc)), .ref (qor), .ref (qfa), .ref (qmo), .int (nI (nm)), .ref (qwt), .ref (qrt), .ref (qnw), .ref (qsn), .ref (qlt), .ref (qkn), .ref (qft), .ref (qbf), .ref (qbh), .ref (qjt), .ref (qot), .ref (qsm), .ref (qpt), .ref (qpr), .ref (qch), .ref (qbt), .int (nI (wr)), .ref (qpg)]])) A) (by decide) (Nat.le_of_ble_eq_true rfl) ?_
  intro p e s m args below meth c A ls X hr hlk hnm hA hK hw hl
  have hl : lv_has ls 2 [(0, .ref (mh)), (1, .int (x))] := hl
  refine mg_iload_n X 1 d_Mo_isGap_0 (lv_at hl 1 rfl) rfl ?_
  refine mg_iflt_r X 18 4 d_Mo_isGap_1 (by decide) rfl (fun hneg => ?_) (fun j hj ej => ?_)
  · -- pc 1 t
    refine mg_iconst X 19 0 d_Mo_isGap_18 mg_ci_0 rfl ?_
    exact mg_iret X hr hlk (mg_nz (by omega)) (()) (by rw [ft_c0 (mg_lt_neg hneg (by omega))]) hw d_Mo_isGap_19
  · -- pc 1 f
    subst ej
    refine mg_iload_n X 5 d_Mo_isGap_4 (lv_at hl 1 rfl) rfl ?_
    refine mg_aload_n X 6 d_Mo_isGap_5 (lv_at hl 0 rfl) rfl ?_
    refine mg_get X hK hw 9 0 7 f_Mo_83 rfl rfl d_Mo_isGap_6 rfl ?_
    refine mg_iconst X 10 1 d_Mo_isGap_9 mg_ci_1 rfl ?_
    refine mg_isub X 11 (mg_dn nm) d_Mo_isGap_10 (mg_sub1 _) rfl ?_
    refine mg_icmpge_d X 18 14 (by omega) (by omega) d_Mo_isGap_11 (by decide) rfl (fun hc => ?_) (fun hc => ?_)
    · -- pc 11 t
      refine mg_iconst X 19 0 d_Mo_isGap_18 mg_ci_0 rfl ?_
      exact mg_iret X hr hlk (mg_nz (by omega)) (()) (by rw [ft_c0 (mg_lt_ge hj (by omega))]) hw d_Mo_isGap_19
    · -- pc 11 f
      refine mg_iconst X 15 1 d_Mo_isGap_14 mg_ci_1 rfl ?_
      refine mg_goto X 19 d_Mo_isGap_15 (by decide) ?_
      exact mg_iret X hr hlk (mg_nz (by omega)) (()) (by rw [ft_c1 (mg_lt_in (by omega))]) hw d_Mo_isGap_19

set_option maxRecDepth 100000 in
set_option maxHeartbeats 4000000 in
theorem k_Mo_forget (l : Launch) (D : va_G) (K : Nat → ClassId) (mh : Nat) (qor : Nat) (qfa : Nat) (qmo : Nat) (qwt : Nat) (qrt : Nat) (qnw : Nat) (qsn : Nat) (qlt : Nat) (qkn : Nat) (qft : Nat) (qbf : Nat) (qbh : Nat) (qjt : Nat) (qot : Nat) (qsm : Nat) (qpt : Nat) (qpr : Nat) (qch : Nat) (qbt : Nat) (qpg : Nat) (flt : Nat) (np : Nat) (nf : Nat) (nc : Nat) (nm : Nat) (wr : Nat) (kn : Nat → Nat)  : mg_Mv l D K y_Mo_forget b_Mo_forget 2 ({ frames := 0, cells := 0, slots := 0, locals := 0 }) [.ref (mh)] [mg_ob mh 6 [.int (nI (flt)), .int (nI (np)), .int (nI (nf)), .int (nI (nc)), .ref (qor), .ref (qfa), .ref (qmo), .int (nI (nm)), .ref (qwt), .ref (qrt), .ref (qnw), .ref (qsn), .ref (qlt), .ref (qkn), .ref (qft), .ref (qbf), .ref (qbh), .ref (qjt), .ref (qot), .ref (qsm), .ref (qpt), .ref (qpr), .ref (qch), .ref (qbt), .int (nI (wr)), .ref (qpg)], mg_az K qkn 4 kn] (fun (_ : Unit) => True) (fun (_ : Unit) => [mg_ob mh 6 [.int (nI (flt)), .int (nI (np)), .int (nI (nf)), .int (nI (nc)), .ref (qor), .ref (qfa), .ref (qmo), .int (nI (nm)), .ref (qwt), .ref (qrt), .ref (qnw), .ref (qsn), .ref (qlt), .ref (qkn), .ref (qft), .ref (qbf), .ref (qbh), .ref (qjt), .ref (qot), .ref (qsm), .ref (qpt), .ref (qpr), .ref (qch), .ref (qbt), .int (nI (wr)), .ref (qpg)], mg_az K qkn 4 (su_pt (fun _ => 0) kn 4)]) := by
  intro sz
  refine mg_entry (Qc := fun A => va_Qv (fun (_ : Unit) => True) (mg_B D A (fun (_ : Unit) => [mg_ob mh 6 [.int (nI (flt)), .int (nI (np)), .int (nI (nf)), .int (nI (nc)), .ref (qor), .ref (qfa), .ref (qmo), .int (nI (nm)), .ref (qwt), .ref (qrt), .ref (qnw), .ref (qsn), .ref (qlt), .ref (qkn), .ref (qft), .ref (qbf), .ref (qbh), .ref (qjt), .ref (qot), .ref (qsm), .ref (qpt), .ref (qpr), .ref (qch), .ref (qbt), .int (nI (wr)), .ref (qpg)], mg_az K qkn 4 (su_pt (fun _ => 0) kn 4)])) A) (by decide) (Nat.le_of_ble_eq_true rfl) ?_
  intro p e s m args below meth c A ls X hr hlk hnm hA hK hw hl
  have hl : lv_has ls 2 [(0, .ref (mh))] := hl
  rw [← su_pt0 (fun _ => 0) kn] at hw
  refine mg_iconst X 1 0 d_Mo_forget_0 mg_ci_0 rfl ?_
  refine mg_istore_n X 2 [(1, .int (nI (0))), (0, .ref (mh))] d_Mo_forget_1 hl (by decide) rfl rfl (fun ls hl => ?_)
  have L2 : ∀ (n0 : Nat) (k : Nat), n0 = 4 - k → (k ≤ 4) → ∀ (ls : Array Slot) (H : Heap) (locs : List Loc), lv_has ls 2 [(0, .ref (mh)), (1, .int (nI (k)))] → mg_H D A s.heap H locs [mg_ob mh 6 [.int (nI (flt)), .int (nI (np)), .int (nI (nf)), .int (nI (nc)), .ref (qor), .ref (qfa), .ref (qmo), .int (nI (nm)), .ref (qwt), .ref (qrt), .ref (qnw), .ref (qsn), .ref (qlt), .ref (qkn), .ref (qft), .ref (qbf), .ref (qbh), .ref (qjt), .ref (qot), .ref (qsm), .ref (qpt), .ref (qpr), .ref (qch), .ref (qbt), .int (nI (wr)), .ref (qpg)], mg_az K qkn 4 (su_pt (fun _ => 0) kn k)] → W p l e ({ frames := 0, cells := 0, slots := 0, locals := 0 }) s m args below meth c H locs 0 0 (MQ below (va_Qv (fun (_ : Unit) => True) (mg_B D A (fun (_ : Unit) => [mg_ob mh 6 [.int (nI (flt)), .int (nI (np)), .int (nI (nf)), .int (nI (nc)), .ref (qor), .ref (qfa), .ref (qmo), .int (nI (nm)), .ref (qwt), .ref (qrt), .ref (qnw), .ref (qsn), .ref (qlt), .ref (qkn), .ref (qft), .ref (qbf), .ref (qbh), .ref (qjt), .ref (qot), .ref (qsm), .ref (qpt), .ref (qpr), .ref (qch), .ref (qbt), .int (nI (wr)), .ref (qpg)], mg_az K qkn 4 (su_pt (fun _ => 0) kn 4)])) A) args s (0) (0) A) (F0 m 2 ls []) := by
    intro n0
    induction n0 using Nat.strongRecOn with
    | ind n0 ih2 =>
    intro k hm2 hk ls H locs hl hw
    refine mg_iload_n X 3 d_Mo_forget_2 (lv_at hl 1 rfl) rfl ?_
    refine mg_iconst X 4 4 d_Mo_forget_3 mg_ci_4 rfl ?_
    refine mg_icmp_ge X 20 7 (by omega) (by omega) d_Mo_forget_4 (by decide) rfl (fun hb => ?_) (fun hb => ?_)
    · -- pc 4 t
      obtain rfl : k = 4 := by omega
      exact mg_vret X hr hlk (()) (trivial) hw d_Mo_forget_20
    · -- pc 4 f
      refine mg_aload_n X 8 d_Mo_forget_7 (lv_at hl 0 rfl) rfl ?_
      refine mg_get X hK hw 11 0 13 f_Mo_34 rfl rfl d_Mo_forget_8 rfl ?_
      refine mg_iload_n X 12 d_Mo_forget_11 (lv_at hl 1 rfl) rfl ?_
      refine mg_iconst X 13 0 d_Mo_forget_12 mg_ci_0 rfl ?_
      refine mg_zast X hK hw 14 1 [mg_ob mh 6 [.int (nI (flt)), .int (nI (np)), .int (nI (nf)), .int (nI (nc)), .ref (qor), .ref (qfa), .ref (qmo), .int (nI (nm)), .ref (qwt), .ref (qrt), .ref (qnw), .ref (qsn), .ref (qlt), .ref (qkn), .ref (qft), .ref (qbf), .ref (qbh), .ref (qjt), .ref (qot), .ref (qsm), .ref (qpt), .ref (qpr), .ref (qch), .ref (qbt), .int (nI (wr)), .ref (qpg)], mg_az K qkn 4 (va_up (su_pt (fun _ => 0) kn k) k 0)] rfl (by omega) (by omega) (by omega) d_Mo_forget_13 rfl rfl (fun H locs hw => ?_)
      refine mg_iinc X 17 [(1, .int (nI (k + 1))), (0, .ref (mh))] (k + 1) d_Mo_forget_14 hl (k := 1) rfl (mg_inc1 _) (by decide) rfl rfl (fun ls hl => ?_)
      refine mg_goto X 2 d_Mo_forget_17 (by decide) ?_
      have hl : lv_has ls 2 [(0, .ref (mh)), (1, .int (nI (k + 1)))] := lv_sub hl [1, 0] rfl
      rw [su_ptS (fun _ => 0)] at hw
      exact ih2 _ (by omega) (k + 1) rfl (by omega) ls _ _ hl hw
  have hl : lv_has ls 2 [(0, .ref (mh)), (1, .int (nI (0)))] := lv_sub hl [1, 0] rfl
  exact L2 _ 0 rfl (Nat.zero_le _) ls _ _ hl hw

set_option maxRecDepth 100000 in
set_option maxHeartbeats 4000000 in
theorem k_Mo_ways (l : Launch) (D : va_G) (K : Nat → ClassId) (mh : Nat) (qor : Nat) (qfa : Nat) (qmo : Nat) (qwt : Nat) (qrt : Nat) (qnw : Nat) (qsn : Nat) (qlt : Nat) (qkn : Nat) (qft : Nat) (qbf : Nat) (qbh : Nat) (qjt : Nat) (qot : Nat) (qsm : Nat) (qpt : Nat) (qpr : Nat) (qch : Nat) (qbt : Nat) (qpg : Nat) (flt : Nat) (np : Nat) (nf : Nat) (nc : Nat) (nm : Nat) (wr : Nat) (hnc : nc ≤ 3) : mg_Mi l D K y_Mo_ways b_Mo_ways 1 (.int) ({ frames := 0, cells := 0, slots := 0, locals := 0 }) [.ref (mh)] [mg_ob mh 6 [.int (nI (flt)), .int (nI (np)), .int (nI (nf)), .int (nI (nc)), .ref (qor), .ref (qfa), .ref (qmo), .int (nI (nm)), .ref (qwt), .ref (qrt), .ref (qnw), .ref (qsn), .ref (qlt), .ref (qkn), .ref (qft), .ref (qbf), .ref (qbh), .ref (qjt), .ref (qot), .ref (qsm), .ref (qpt), .ref (qpr), .ref (qch), .ref (qbt), .int (nI (wr)), .ref (qpg)]] (fun (r : Int32) (_ : Unit) => r = nI (2 ^ (2 * nc))) (fun (_ : Unit) => [mg_ob mh 6 [.int (nI (flt)), .int (nI (np)), .int (nI (nf)), .int (nI (nc)), .ref (qor), .ref (qfa), .ref (qmo), .int (nI (nm)), .ref (qwt), .ref (qrt), .ref (qnw), .ref (qsn), .ref (qlt), .ref (qkn), .ref (qft), .ref (qbf), .ref (qbh), .ref (qjt), .ref (qot), .ref (qsm), .ref (qpt), .ref (qpr), .ref (qch), .ref (qbt), .int (nI (wr)), .ref (qpg)]]) := by
  intro sz
  refine mg_entry (Qc := fun A => va_Qi (fun (r : Int32) (_ : Unit) => r = nI (2 ^ (2 * nc))) (mg_B D A (fun (_ : Unit) => [mg_ob mh 6 [.int (nI (flt)), .int (nI (np)), .int (nI (nf)), .int (nI (nc)), .ref (qor), .ref (qfa), .ref (qmo), .int (nI (nm)), .ref (qwt), .ref (qrt), .ref (qnw), .ref (qsn), .ref (qlt), .ref (qkn), .ref (qft), .ref (qbf), .ref (qbh), .ref (qjt), .ref (qot), .ref (qsm), .ref (qpt), .ref (qpr), .ref (qch), .ref (qbt), .int (nI (wr)), .ref (qpg)]])) A) (by decide) (Nat.le_of_ble_eq_true rfl) ?_
  intro p e s m args below meth c A ls X hr hlk hnm hA hK hw hl
  have hl : lv_has ls 1 [(0, .ref (mh))] := hl
  refine mg_iconst X 1 1 d_Mo_ways_0 mg_ci_1 rfl ?_
  refine mg_iconst X 2 2 d_Mo_ways_1 mg_ci_2 rfl ?_
  refine mg_aload_n X 3 d_Mo_ways_2 (lv_at hl 0 rfl) rfl ?_
  refine mg_get X hK hw 6 0 3 f_Mo_86 rfl rfl d_Mo_ways_3 rfl ?_
  refine mg_imul X 7 (nI (2 * nc)) d_Mo_ways_6 (pk_mul _ _) rfl ?_
  refine mg_ishl X 8 ((nI (2 ^ (2 * nc)))) d_Mo_ways_7 (mg_shl (by omega)) rfl ?_
  exact mg_iret X hr hlk (rfl) (()) (rfl) hw d_Mo_ways_8

set_option maxRecDepth 100000 in
set_option maxHeartbeats 4000000 in
theorem k_Mo_isWay (l : Launch) (D : va_G) (K : Nat → ClassId) (mh : Nat) (qor : Nat) (qfa : Nat) (qmo : Nat) (qwt : Nat) (qrt : Nat) (qnw : Nat) (qsn : Nat) (qlt : Nat) (qkn : Nat) (qft : Nat) (qbf : Nat) (qbh : Nat) (qjt : Nat) (qot : Nat) (qsm : Nat) (qpt : Nat) (qpr : Nat) (qch : Nat) (qbt : Nat) (qpg : Nat) (flt : Nat) (np : Nat) (nf : Nat) (nc : Nat) (nm : Nat) (wr : Nat) (x : Int32) (hnc : nc ≤ 3) : mg_Mi l D K y_Mo_isWay b_Mo_isWay 2 (.boolean) ({ frames := 1, cells := 0, slots := 0, locals := 20 }) [.ref (mh), .int (x)] [mg_ob mh 6 [.int (nI (flt)), .int (nI (np)), .int (nI (nf)), .int (nI (nc)), .ref (qor), .ref (qfa), .ref (qmo), .int (nI (nm)), .ref (qwt), .ref (qrt), .ref (qnw), .ref (qsn), .ref (qlt), .ref (qkn), .ref (qft), .ref (qbf), .ref (qbh), .ref (qjt), .ref (qot), .ref (qsm), .ref (qpt), .ref (qpr), .ref (qch), .ref (qbt), .int (nI (wr)), .ref (qpg)]] (fun (r : Int32) (_ : Unit) => r = nI (ft_c (mg_lt x (2 ^ (2 * nc))))) (fun (_ : Unit) => [mg_ob mh 6 [.int (nI (flt)), .int (nI (np)), .int (nI (nf)), .int (nI (nc)), .ref (qor), .ref (qfa), .ref (qmo), .int (nI (nm)), .ref (qwt), .ref (qrt), .ref (qnw), .ref (qsn), .ref (qlt), .ref (qkn), .ref (qft), .ref (qbf), .ref (qbh), .ref (qjt), .ref (qot), .ref (qsm), .ref (qpt), .ref (qpr), .ref (qch), .ref (qbt), .int (nI (wr)), .ref (qpg)]]) := by
  intro sz
  refine mg_entry (Qc := fun A => va_Qi (fun (r : Int32) (_ : Unit) => r = nI (ft_c (mg_lt x (2 ^ (2 * nc))))) (mg_B D A (fun (_ : Unit) => [mg_ob mh 6 [.int (nI (flt)), .int (nI (np)), .int (nI (nf)), .int (nI (nc)), .ref (qor), .ref (qfa), .ref (qmo), .int (nI (nm)), .ref (qwt), .ref (qrt), .ref (qnw), .ref (qsn), .ref (qlt), .ref (qkn), .ref (qft), .ref (qbf), .ref (qbh), .ref (qjt), .ref (qot), .ref (qsm), .ref (qpt), .ref (qpr), .ref (qch), .ref (qbt), .int (nI (wr)), .ref (qpg)]])) A) (by decide) (Nat.le_of_ble_eq_true rfl) ?_
  intro p e s m args below meth c A ls X hr hlk hnm hA hK hw hl
  have hl : lv_has ls 2 [(0, .ref (mh)), (1, .int (x))] := hl
  have hw6 := mg_ways hnc
  refine mg_iload_n X 1 d_Mo_isWay_0 (lv_at hl 1 rfl) rfl ?_
  refine mg_iflt_r X 16 4 d_Mo_isWay_1 (by decide) rfl (fun hneg => ?_) (fun j hj ej => ?_)
  · -- pc 1 t
    refine mg_iconst X 17 0 d_Mo_isWay_16 mg_ci_0 rfl ?_
    exact mg_iret X hr hlk (mg_nz (by omega)) (()) (by rw [ft_c0 (mg_lt_neg hneg (by omega))]) hw d_Mo_isWay_17
  · -- pc 1 f
    subst ej
    refine mg_iload_n X 5 d_Mo_isWay_4 (lv_at hl 1 rfl) rfl ?_
    refine mg_aload_n X 6 d_Mo_isWay_5 (lv_at hl 0 rfl) rfl ?_
    refine mg_callVi X hK hw hA 9 [0] 0 (fun _ => [mg_ob mh 6 [.int (nI (flt)), .int (nI (np)), .int (nI (nf)), .int (nI (nc)), .ref (qor), .ref (qfa), .ref (qmo), .int (nI (nm)), .ref (qwt), .ref (qrt), .ref (qnw), .ref (qsn), .ref (qlt), .ref (qkn), .ref (qft), .ref (qbf), .ref (qbh), .ref (qjt), .ref (qot), .ref (qsm), .ref (qpt), .ref (qpr), .ref (qch), .ref (qbt), .int (nI (wr)), .ref (qpg)]]) rfl rfl (k_Mo_ways l D K mh qor qfa qmo qwt qrt qnw qsn qlt qkn qft qbf qbh qjt qot qsm qpt qpr qch qbt qpg flt np nf nc nm wr (by omega)) g_Mo_115 ⟨by decide, by decide⟩ ⟨rfl, rfl⟩ rfl rfl rfl hl.1 (rest := [.int (nI (j))]) (As := []) rfl (Nat.le_of_ble_eq_true rfl) d_Mo_isWay_6 ⟨Nat.zero_le _, Nat.zero_le _⟩ (fun _ => rfl) (fun _ => rfl) rfl ?_
    intro r _ H locs hp2 hw
    subst hp2
    refine mg_icmp_ge X 16 12 (by omega) (by omega) d_Mo_isWay_9 (by decide) rfl (fun hc => ?_) (fun hc => ?_)
    · -- pc 9 t
      refine mg_iconst X 17 0 d_Mo_isWay_16 mg_ci_0 rfl ?_
      exact mg_iret X hr hlk (mg_nz (by omega)) (()) (by rw [ft_c0 (mg_lt_ge hj (by omega))]) hw d_Mo_isWay_17
    · -- pc 9 f
      refine mg_iconst X 13 1 d_Mo_isWay_12 mg_ci_1 rfl ?_
      refine mg_goto X 17 d_Mo_isWay_13 (by decide) ?_
      exact mg_iret X hr hlk (mg_nz (by omega)) (()) (by rw [ft_c1 (mg_lt_in (by omega))]) hw d_Mo_isWay_17

set_option maxRecDepth 100000 in
set_option maxHeartbeats 4000000 in
theorem k_Mo_originOf (l : Launch) (D : va_G) (K : Nat → ClassId) (mh : Nat) (qor : Nat) (qfa : Nat) (qmo : Nat) (qwt : Nat) (qrt : Nat) (qnw : Nat) (qsn : Nat) (qlt : Nat) (qkn : Nat) (qft : Nat) (qbf : Nat) (qbh : Nat) (qjt : Nat) (qot : Nat) (qsm : Nat) (qpt : Nat) (qpr : Nat) (qch : Nat) (qbt : Nat) (qpg : Nat) (flt : Nat) (np : Nat) (nf : Nat) (nc : Nat) (nm : Nat) (wr : Nat) (rk : Nat → Nat) (fa : Nat → Nat) (mo : Nat → Nat) (p0 : Nat) (c0 : Nat) (w : Nat) (hF : fm_ok nf nc fa mo rk) (hp : p0 < nf + nc) (hc : c0 < 2) (hw1 : w < 64) : mg_Mi l D K y_Mo_originOf b_Mo_originOf 7 (.int) ({ frames := 0, cells := 0, slots := 0, locals := 0 }) [.ref (mh), .int (nI (p0)), .int (nI (c0)), .int (nI (w))] [mg_ob mh 6 [.int (nI (flt)), .int (nI (np)), .int (nI (nf)), .int (nI (nc)), .ref (qor), .ref (qfa), .ref (qmo), .int (nI (nm)), .ref (qwt), .ref (qrt), .ref (qnw), .ref (qsn), .ref (qlt), .ref (qkn), .ref (qft), .ref (qbf), .ref (qbh), .ref (qjt), .ref (qot), .ref (qsm), .ref (qpt), .ref (qpr), .ref (qch), .ref (qbt), .int (nI (wr)), .ref (qpg)], mg_ai K qor 6 rk, mg_ai K qfa 6 fa, mg_ai K qmo 6 mo] (fun (r : Int32) (_ : Unit) => r = nI (fm_src fa mo rk w 3 p0 c0)) (fun (_ : Unit) => [mg_ob mh 6 [.int (nI (flt)), .int (nI (np)), .int (nI (nf)), .int (nI (nc)), .ref (qor), .ref (qfa), .ref (qmo), .int (nI (nm)), .ref (qwt), .ref (qrt), .ref (qnw), .ref (qsn), .ref (qlt), .ref (qkn), .ref (qft), .ref (qbf), .ref (qbh), .ref (qjt), .ref (qot), .ref (qsm), .ref (qpt), .ref (qpr), .ref (qch), .ref (qbt), .int (nI (wr)), .ref (qpg)], mg_ai K qor 6 rk, mg_ai K qfa 6 fa, mg_ai K qmo 6 mo]) := by
  intro sz
  refine mg_entry (Qc := fun A => va_Qi (fun (r : Int32) (_ : Unit) => r = nI (fm_src fa mo rk w 3 p0 c0)) (mg_B D A (fun (_ : Unit) => [mg_ob mh 6 [.int (nI (flt)), .int (nI (np)), .int (nI (nf)), .int (nI (nc)), .ref (qor), .ref (qfa), .ref (qmo), .int (nI (nm)), .ref (qwt), .ref (qrt), .ref (qnw), .ref (qsn), .ref (qlt), .ref (qkn), .ref (qft), .ref (qbf), .ref (qbh), .ref (qjt), .ref (qot), .ref (qsm), .ref (qpt), .ref (qpr), .ref (qch), .ref (qbt), .int (nI (wr)), .ref (qpg)], mg_ai K qor 6 rk, mg_ai K qfa 6 fa, mg_ai K qmo 6 mo])) A) (by decide) (Nat.le_of_ble_eq_true rfl) ?_
  intro p e s m args below meth c A ls X hr hlk hnm hA hK hw hl
  have hl : lv_has ls 7 [(0, .ref (mh)), (1, .int (nI (p0))), (2, .int (nI (c0))), (3, .int (nI (w)))] := hl
  have hF1 := hF.1
  have hF2 := hF.2.1
  refine mg_iload_n X 1 d_Mo_originOf_0 (lv_at hl 1 rfl) rfl ?_
  refine mg_istore X 3 [(4, .int (nI (p0))), (0, .ref (mh)), (1, .int (nI (p0))), (2, .int (nI (c0))), (3, .int (nI (w)))] d_Mo_originOf_1 hl (by decide) rfl rfl (fun ls hl => ?_)
  refine mg_iload_n X 4 d_Mo_originOf_3 (lv_at hl 3 rfl) rfl ?_
  refine mg_istore X 6 [(5, .int (nI (c0))), (4, .int (nI (p0))), (0, .ref (mh)), (1, .int (nI (p0))), (2, .int (nI (c0))), (3, .int (nI (w)))] d_Mo_originOf_4 hl (by decide) rfl rfl (fun ls hl => ?_)
  have L6 : ∀ (n0 : Nat) (p1 : Nat) (c1 : Nat), n0 = p1 → (fm_src fa mo rk w 3 p1 c1 = fm_src fa mo rk w 3 p0 c0) → (p1 < nf + nc) → (c1 < 2) → ∀ (ls : Array Slot) (H : Heap) (locs : List Loc), lv_has ls 7 [(0, .ref (mh)), (1, .int (nI (p0))), (2, .int (nI (c0))), (3, .int (nI (w))), (4, .int (nI (p1))), (5, .int (nI (c1)))] → mg_H D A s.heap H locs [mg_ob mh 6 [.int (nI (flt)), .int (nI (np)), .int (nI (nf)), .int (nI (nc)), .ref (qor), .ref (qfa), .ref (qmo), .int (nI (nm)), .ref (qwt), .ref (qrt), .ref (qnw), .ref (qsn), .ref (qlt), .ref (qkn), .ref (qft), .ref (qbf), .ref (qbh), .ref (qjt), .ref (qot), .ref (qsm), .ref (qpt), .ref (qpr), .ref (qch), .ref (qbt), .int (nI (wr)), .ref (qpg)], mg_ai K qor 6 rk, mg_ai K qfa 6 fa, mg_ai K qmo 6 mo] → W p l e ({ frames := 0, cells := 0, slots := 0, locals := 0 }) s m args below meth c H locs 0 0 (MQ below (va_Qi (fun (r : Int32) (_ : Unit) => r = nI (fm_src fa mo rk w 3 p0 c0)) (mg_B D A (fun (_ : Unit) => [mg_ob mh 6 [.int (nI (flt)), .int (nI (np)), .int (nI (nf)), .int (nI (nc)), .ref (qor), .ref (qfa), .ref (qmo), .int (nI (nm)), .ref (qwt), .ref (qrt), .ref (qnw), .ref (qsn), .ref (qlt), .ref (qkn), .ref (qft), .ref (qbf), .ref (qbh), .ref (qjt), .ref (qot), .ref (qsm), .ref (qpt), .ref (qpr), .ref (qch), .ref (qbt), .int (nI (wr)), .ref (qpg)], mg_ai K qor 6 rk, mg_ai K qfa 6 fa, mg_ai K qmo 6 mo])) A) args s (0) (0) A) (F0 m 6 ls []) := by
    intro n0
    induction n0 using Nat.strongRecOn with
    | ind n0 ih6 =>
    intro p1 c1 hm6 hI hp1 hc1 ls H locs hl hw
    have hrk := fm_rk hF hp1
    have hfa := fm_fa hF hp1
    refine mg_aload_n X 7 d_Mo_originOf_6 (lv_at hl 0 rfl) rfl ?_
    refine mg_get X hK hw 10 0 5 f_Mo_13 rfl rfl d_Mo_originOf_7 rfl ?_
    refine mg_iload X 12 d_Mo_originOf_10 (lv_at hl 4 rfl) rfl ?_
    refine mg_iald X hK hw 13 2 rfl (by omega) (by omega) d_Mo_originOf_12 rfl ?_
    refine mg_iflt_w X 65 16 (by omega) d_Mo_originOf_13 (by decide) rfl (fun hn => ?_) (fun hn => ?_)
    · -- pc 13 t
      refine mg_iconst X 66 2 d_Mo_originOf_65 mg_ci_2 rfl ?_
      refine mg_aload_n X 67 d_Mo_originOf_66 (lv_at hl 0 rfl) rfl ?_
      refine mg_get X hK hw 70 0 4 f_Mo_7 rfl rfl d_Mo_originOf_67 rfl ?_
      refine mg_iload X 72 d_Mo_originOf_70 (lv_at hl 4 rfl) rfl ?_
      refine mg_iald X hK hw 73 1 rfl (by omega) (by omega) d_Mo_originOf_72 rfl ?_
      refine mg_imul X 74 (nI (2 * (rk p1))) d_Mo_originOf_73 (pk_mul _ _) rfl ?_
      refine mg_iload X 76 d_Mo_originOf_74 (lv_at hl 5 rfl) rfl ?_
      refine mg_iadd X 77 (nI ((2 * (rk p1)) + c1)) d_Mo_originOf_76 (nI_add _ _) rfl ?_
      exact mg_iret X hr hlk (rfl) (()) (by rw [← hI]; exact congrArg nI (fm_end hn).symm) hw d_Mo_originOf_77
    · -- pc 13 f
      refine mg_iload_n X 17 d_Mo_originOf_16 (lv_at hl 3 rfl) rfl ?_
      refine mg_iconst X 18 2 d_Mo_originOf_17 mg_ci_2 rfl ?_
      refine mg_aload_n X 19 d_Mo_originOf_18 (lv_at hl 0 rfl) rfl ?_
      refine mg_get X hK hw 22 0 4 f_Mo_7 rfl rfl d_Mo_originOf_19 rfl ?_
      refine mg_iload X 24 d_Mo_originOf_22 (lv_at hl 4 rfl) rfl ?_
      refine mg_iald X hK hw 25 1 rfl (by omega) (by omega) d_Mo_originOf_24 rfl ?_
      refine mg_imul X 26 (nI (2 * (rk p1))) d_Mo_originOf_25 (pk_mul _ _) rfl ?_
      refine mg_iload X 28 d_Mo_originOf_26 (lv_at hl 5 rfl) rfl ?_
      refine mg_iadd X 29 (nI ((2 * (rk p1)) + c1)) d_Mo_originOf_28 (nI_add _ _) rfl ?_
      refine mg_ishr X 30 ((nI (w / 2 ^ ((2 * (rk p1)) + c1)))) d_Mo_originOf_29 (mg_shr (by omega) (by omega)) rfl ?_
      refine mg_iconst X 31 1 d_Mo_originOf_30 mg_ci_1 rfl ?_
      refine mg_iand X 32 ((nI ((w / 2 ^ ((2 * (rk p1)) + c1)) % 2))) d_Mo_originOf_31 (mg_and1 (Nat.lt_of_le_of_lt (Nat.div_le_self _ _) (by omega))) rfl ?_
      refine mg_istore X 34 [(6, .int (nI ((w / 2 ^ ((2 * (rk p1)) + c1)) % 2))), (0, .ref (mh)), (1, .int (nI (p0))), (2, .int (nI (c0))), (3, .int (nI (w))), (4, .int (nI (p1))), (5, .int (nI (c1)))] d_Mo_originOf_32 hl (by decide) rfl rfl (fun ls hl => ?_)
      refine mg_iload X 36 d_Mo_originOf_34 (lv_at hl 6 rfl) rfl ?_
      refine mg_if_ne X 49 39 (by omega) d_Mo_originOf_36 (by decide) rfl (fun hz => ?_) (fun hz => ?_)
      · -- pc 36 t
        refine mg_aload_n X 50 d_Mo_originOf_49 (lv_at hl 1 rfl) rfl ?_
        refine mg_get X hK hw 53 0 6 f_Mo_16 rfl rfl d_Mo_originOf_50 rfl ?_
        refine mg_iload X 55 d_Mo_originOf_53 (lv_at hl 5 rfl) rfl ?_
        refine mg_iald X hK hw 56 3 rfl (by omega) (by omega) d_Mo_originOf_55 rfl ?_
        refine mg_istore X 58 [(4, .int (nI (mo p1))), (6, .int (nI ((w / 2 ^ ((2 * (rk p1)) + c1)) % 2))), (0, .ref (mh)), (1, .int (nI (p0))), (2, .int (nI (c0))), (3, .int (nI (w))), (5, .int (nI (c1)))] d_Mo_originOf_56 hl (by decide) rfl rfl (fun ls hl => ?_)
        refine mg_iload X 60 d_Mo_originOf_58 (lv_at hl 1 rfl) rfl ?_
        refine mg_istore X 62 [(5, .int (nI ((w / 2 ^ ((2 * (rk p1)) + c1)) % 2))), (4, .int (nI (mo p1))), (6, .int (nI ((w / 2 ^ ((2 * (rk p1)) + c1)) % 2))), (0, .ref (mh)), (1, .int (nI (p0))), (2, .int (nI (c0))), (3, .int (nI (w)))] d_Mo_originOf_60 hl (by decide) rfl rfl (fun ls hl => ?_)
        refine mg_goto X 6 d_Mo_originOf_62 (by decide) ?_
        have hl : lv_has ls 7 [(0, .ref (mh)), (1, .int (nI (p0))), (2, .int (nI (c0))), (3, .int (nI (w))), (4, .int (nI (mo p1))), (5, .int (nI ((w / 2 ^ ((2 * (rk p1)) + c1)) % 2)))] := lv_sub hl [3, 4, 5, 6, 1, 0] rfl
        exact ih6 _ (by first | (have h9 := mo_dn0 hF hp1 (by omega); omega) | (have h9 := mo_dn1 hF hp1 (by omega); omega)) (mo p1) ((w / 2 ^ ((2 * (rk p1)) + c1)) % 2) rfl (by have h9 := fm_up hF w (c := c1) hp1 (show fa p1 ≠ 4294967295 by omega); rw [if_neg hz] at h9; rw [← h9]; exact hI) (fm_lo1 hF hp1 (by omega)) (Nat.mod_lt _ (by decide)) ls _ _ hl hw
      · -- pc 36 f
        refine mg_aload_n X 40 d_Mo_originOf_39 (lv_at hl 1 rfl) rfl ?_
        refine mg_get X hK hw 43 0 5 f_Mo_13 rfl rfl d_Mo_originOf_40 rfl ?_
        refine mg_iload X 45 d_Mo_originOf_43 (lv_at hl 5 rfl) rfl ?_
        refine mg_iald X hK hw 46 2 rfl (by omega) (by omega) d_Mo_originOf_45 rfl ?_
        refine mg_goto X 56 d_Mo_originOf_46 (by decide) ?_
        refine mg_istore X 58 [(4, .int (nI (fa p1))), (6, .int (nI ((w / 2 ^ ((2 * (rk p1)) + c1)) % 2))), (0, .ref (mh)), (1, .int (nI (p0))), (2, .int (nI (c0))), (3, .int (nI (w))), (5, .int (nI (c1)))] d_Mo_originOf_56 hl (by decide) rfl rfl (fun ls hl => ?_)
        refine mg_iload X 60 d_Mo_originOf_58 (lv_at hl 1 rfl) rfl ?_
        refine mg_istore X 62 [(5, .int (nI ((w / 2 ^ ((2 * (rk p1)) + c1)) % 2))), (4, .int (nI (fa p1))), (6, .int (nI ((w / 2 ^ ((2 * (rk p1)) + c1)) % 2))), (0, .ref (mh)), (1, .int (nI (p0))), (2, .int (nI (c0))), (3, .int (nI (w)))] d_Mo_originOf_60 hl (by decide) rfl rfl (fun ls hl => ?_)
        refine mg_goto X 6 d_Mo_originOf_62 (by decide) ?_
        have hl : lv_has ls 7 [(0, .ref (mh)), (1, .int (nI (p0))), (2, .int (nI (c0))), (3, .int (nI (w))), (4, .int (nI (fa p1))), (5, .int (nI ((w / 2 ^ ((2 * (rk p1)) + c1)) % 2)))] := lv_sub hl [3, 4, 5, 6, 1, 0] rfl
        exact ih6 _ (by first | (have h9 := mo_dn0 hF hp1 (by omega); omega) | (have h9 := mo_dn1 hF hp1 (by omega); omega)) (fa p1) ((w / 2 ^ ((2 * (rk p1)) + c1)) % 2) rfl (by have h9 := fm_up hF w (c := c1) hp1 (show fa p1 ≠ 4294967295 by omega); rw [if_pos hz] at h9; rw [← h9]; exact hI) (fm_lo0 hF hp1 (by omega)) (Nat.mod_lt _ (by decide)) ls _ _ hl hw
  have hl : lv_has ls 7 [(0, .ref (mh)), (1, .int (nI (p0))), (2, .int (nI (c0))), (3, .int (nI (w))), (4, .int (nI (p0))), (5, .int (nI (c0)))] := lv_sub hl [2, 3, 4, 5, 1, 0] rfl
  exact L6 _ p0 c0 rfl (rfl) (hp) (hc) ls _ _ hl hw

set_option maxRecDepth 100000 in
set_option maxHeartbeats 4000000 in
theorem k_Mo_isSo (l : Launch) (D : va_G) (K : Nat → ClassId) (mh : Nat) (qor : Nat) (qfa : Nat) (qmo : Nat) (qwt : Nat) (qrt : Nat) (qnw : Nat) (qsn : Nat) (qlt : Nat) (qkn : Nat) (qft : Nat) (qbf : Nat) (qbh : Nat) (qjt : Nat) (qot : Nat) (qsm : Nat) (qpt : Nat) (qpr : Nat) (qch : Nat) (qbt : Nat) (qpg : Nat) (flt : Nat) (np : Nat) (nf : Nat) (nc : Nat) (nm : Nat) (wr : Nat) (rk : Nat → Nat) (fa : Nat → Nat) (mo : Nat → Nat) (sn : Nat → Nat) (lt : Nat → Nat) (ol : Nat → Nat) (tl : Nat → Nat) (mk : Nat) (w : Nat) (hF0 : fm_ok nf nc fa mo rk) (hnp : np = nf + nc) (hS : sn_ok ol tl) (hcd : ∀ q i, q < 6 → i < 4 → sn (4 * q + i) = mo_cd (ol (i * 6 + q)) (tl (i * 6 + q))) (hm : mk < 4) (hw1 : w < 64) (hlt : ∀ k, k < 2 * nf → 1 ≤ lt k ∧ lt k ≤ 3) : mg_Mi l D K y_Mo_isSo b_Mo_isSo 8 (.boolean) ({ frames := 1, cells := 0, slots := 0, locals := 26 }) [.ref (mh), .int (nI (mk)), .int (nI (w))] [mg_ob mh 6 [.int (nI (flt)), .int (nI (np)), .int (nI (nf)), .int (nI (nc)), .ref (qor), .ref (qfa), .ref (qmo), .int (nI (nm)), .ref (qwt), .ref (qrt), .ref (qnw), .ref (qsn), .ref (qlt), .ref (qkn), .ref (qft), .ref (qbf), .ref (qbh), .ref (qjt), .ref (qot), .ref (qsm), .ref (qpt), .ref (qpr), .ref (qch), .ref (qbt), .int (nI (wr)), .ref (qpg)], mg_ai K qor 6 rk, mg_ai K qfa 6 fa, mg_ai K qmo 6 mo, mg_ai K qsn 24 sn, mg_ai K qlt 6 lt] (fun (r : Int32) (_ : Unit) => r = nI (ft_c (ft_con (fun q => ol (mk * 6 + q)) (fun q => tl (mk * 6 + q)) (fun q => fm_src fa mo rk w 3 q 0) (fun q => fm_src fa mo rk w 3 q 1) 0 (nf + nc) lt))) (fun (_ : Unit) => [mg_ob mh 6 [.int (nI (flt)), .int (nI (np)), .int (nI (nf)), .int (nI (nc)), .ref (qor), .ref (qfa), .ref (qmo), .int (nI (nm)), .ref (qwt), .ref (qrt), .ref (qnw), .ref (qsn), .ref (qlt), .ref (qkn), .ref (qft), .ref (qbf), .ref (qbh), .ref (qjt), .ref (qot), .ref (qsm), .ref (qpt), .ref (qpr), .ref (qch), .ref (qbt), .int (nI (wr)), .ref (qpg)], mg_ai K qor 6 rk, mg_ai K qfa 6 fa, mg_ai K qmo 6 mo, mg_ai K qsn 24 sn, mg_ai K qlt 6 lt]) := by
  intro sz
  refine mg_entry (Qc := fun A => va_Qi (fun (r : Int32) (_ : Unit) => r = nI (ft_c (ft_con (fun q => ol (mk * 6 + q)) (fun q => tl (mk * 6 + q)) (fun q => fm_src fa mo rk w 3 q 0) (fun q => fm_src fa mo rk w 3 q 1) 0 (nf + nc) lt))) (mg_B D A (fun (_ : Unit) => [mg_ob mh 6 [.int (nI (flt)), .int (nI (np)), .int (nI (nf)), .int (nI (nc)), .ref (qor), .ref (qfa), .ref (qmo), .int (nI (nm)), .ref (qwt), .ref (qrt), .ref (qnw), .ref (qsn), .ref (qlt), .ref (qkn), .ref (qft), .ref (qbf), .ref (qbh), .ref (qjt), .ref (qot), .ref (qsm), .ref (qpt), .ref (qpr), .ref (qch), .ref (qbt), .int (nI (wr)), .ref (qpg)], mg_ai K qor 6 rk, mg_ai K qfa 6 fa, mg_ai K qmo 6 mo, mg_ai K qsn 24 sn, mg_ai K qlt 6 lt])) A) (by decide) (Nat.le_of_ble_eq_true rfl) ?_
  intro p e s m args below meth c A ls X hr hlk hnm hA hK hw hl
  have hl : lv_has ls 8 [(0, .ref (mh)), (1, .int (nI (mk))), (2, .int (nI (w)))] := hl
  have hf1 := hF0.1
  have hf2 := hF0.2.1
  refine mg_iconst X 1 1 d_Mo_isSo_0 mg_ci_1 rfl ?_
  refine mg_istore_n X 2 [(3, .int (nI (1))), (0, .ref (mh)), (1, .int (nI (mk))), (2, .int (nI (w)))] d_Mo_isSo_1 hl (by decide) rfl rfl (fun ls hl => ?_)
  refine mg_iconst X 3 0 d_Mo_isSo_2 mg_ci_0 rfl ?_
  refine mg_istore X 5 [(4, .int (nI (0))), (3, .int (nI (1))), (0, .ref (mh)), (1, .int (nI (mk))), (2, .int (nI (w)))] d_Mo_isSo_3 hl (by decide) rfl rfl (fun ls hl => ?_)
  have L5 : ∀ (n0 : Nat) (k : Nat) (x : Nat), n0 = nf + nc - k → (x = ft_c (ft_con (fun q => ol (mk * 6 + q)) (fun q => tl (mk * 6 + q)) (fun q => fm_src fa mo rk w 3 q 0) (fun q => fm_src fa mo rk w 3 q 1) 0 k lt)) → (k ≤ nf + nc) → ∀ (ls : Array Slot) (H : Heap) (locs : List Loc), lv_has ls 8 [(0, .ref (mh)), (1, .int (nI (mk))), (2, .int (nI (w))), (3, .int (nI (x))), (4, .int (nI (k)))] → mg_H D A s.heap H locs [mg_ob mh 6 [.int (nI (flt)), .int (nI (np)), .int (nI (nf)), .int (nI (nc)), .ref (qor), .ref (qfa), .ref (qmo), .int (nI (nm)), .ref (qwt), .ref (qrt), .ref (qnw), .ref (qsn), .ref (qlt), .ref (qkn), .ref (qft), .ref (qbf), .ref (qbh), .ref (qjt), .ref (qot), .ref (qsm), .ref (qpt), .ref (qpr), .ref (qch), .ref (qbt), .int (nI (wr)), .ref (qpg)], mg_ai K qor 6 rk, mg_ai K qfa 6 fa, mg_ai K qmo 6 mo, mg_ai K qsn 24 sn, mg_ai K qlt 6 lt] → W p l e ({ frames := 1, cells := 0, slots := 0, locals := 26 }) s m args below meth c H locs 0 0 (MQ below (va_Qi (fun (r : Int32) (_ : Unit) => r = nI (ft_c (ft_con (fun q => ol (mk * 6 + q)) (fun q => tl (mk * 6 + q)) (fun q => fm_src fa mo rk w 3 q 0) (fun q => fm_src fa mo rk w 3 q 1) 0 (nf + nc) lt))) (mg_B D A (fun (_ : Unit) => [mg_ob mh 6 [.int (nI (flt)), .int (nI (np)), .int (nI (nf)), .int (nI (nc)), .ref (qor), .ref (qfa), .ref (qmo), .int (nI (nm)), .ref (qwt), .ref (qrt), .ref (qnw), .ref (qsn), .ref (qlt), .ref (qkn), .ref (qft), .ref (qbf), .ref (qbh), .ref (qjt), .ref (qot), .ref (qsm), .ref (qpt), .ref (qpr), .ref (qch), .ref (qbt), .int (nI (wr)), .ref (qpg)], mg_ai K qor 6 rk, mg_ai K qfa 6 fa, mg_ai K qmo 6 mo, mg_ai K qsn 24 sn, mg_ai K qlt 6 lt])) A) args s (0) (0) A) (F0 m 5 ls []) := by
    intro n0
    induction n0 using Nat.strongRecOn with
    | ind n0 ih5 =>
    intro k x hm5 hx hk ls H locs hl hw
    have hx2 : x < 2 := by rw [hx]; exact mg_ft1 _
    refine mg_iload X 7 d_Mo_isSo_5 (lv_at hl 4 rfl) rfl ?_
    refine mg_aload_n X 8 d_Mo_isSo_7 (lv_at hl 0 rfl) rfl ?_
    refine mg_get X hK hw 11 0 1 f_Mo_80 rfl rfl d_Mo_isSo_8 rfl ?_
    refine mg_icmp_ge X 109 14 (by omega) (by omega) d_Mo_isSo_11 (by decide) rfl (fun hb => ?_) (fun hb => ?_)
    · -- pc 11 t
      refine mg_iload_n X 110 d_Mo_isSo_109 (lv_at hl 3 rfl) rfl ?_
      exact mg_iret X hr hlk (mg_nz (by omega)) (()) (by rw [mo_so hx hk (by omega)]) hw d_Mo_isSo_110
    · -- pc 11 f
      have q0 := fm_lt3 hF0 w (p := k) (by omega) (show 0 < 2 by omega)
      have q1 := fm_lt3 hF0 w (p := k) (by omega) (show 1 < 2 by omega)
      have l0 := hlt _ q0
      have l1 := hlt _ q1
      have o3 := hS.1 (mk * 6 + k) (by omega)
      have t3 := hS.2.1 (mk * 6 + k) (by omega)
      have ot := hS.2.2 (mk * 6 + k) (by omega)
      have hsk := hcd k mk (by omega) hm
      have hs33 := mo_cd_le o3 t3
      refine mg_iload_n X 15 d_Mo_isSo_14 (lv_at hl 3 rfl) rfl ?_
      refine mg_if_eq X 109 18 (by omega) d_Mo_isSo_15 (by decide) rfl (fun hx0 => ?_) (fun hx0 => ?_)
      · -- pc 15 t
        refine mg_iload_n X 110 d_Mo_isSo_109 (lv_at hl 3 rfl) rfl ?_
        exact mg_iret X hr hlk (mg_nz (by omega)) (()) (by rw [mo_so hx hk (by omega)]) hw d_Mo_isSo_110
      · -- pc 15 f
        refine mg_aload_n X 19 d_Mo_isSo_18 (lv_at hl 0 rfl) rfl ?_
        refine mg_get X hK hw 22 0 11 f_Mo_28 rfl rfl d_Mo_isSo_19 rfl ?_
        refine mg_iconst X 23 4 d_Mo_isSo_22 mg_ci_4 rfl ?_
        refine mg_iload X 25 d_Mo_isSo_23 (lv_at hl 4 rfl) rfl ?_
        refine mg_imul X 26 (nI (4 * k)) d_Mo_isSo_25 (pk_mul _ _) rfl ?_
        refine mg_iload_n X 27 d_Mo_isSo_26 (lv_at hl 1 rfl) rfl ?_
        refine mg_iadd X 28 (nI ((4 * k) + mk)) d_Mo_isSo_27 (nI_add _ _) rfl ?_
        refine mg_iald X hK hw 29 4 rfl (by omega) (by omega) d_Mo_isSo_28 rfl ?_
        refine mg_istore X 31 [(5, .int (nI (sn ((4 * k) + mk)))), (0, .ref (mh)), (1, .int (nI (mk))), (2, .int (nI (w))), (3, .int (nI (x))), (4, .int (nI (k)))] d_Mo_isSo_29 hl (by decide) rfl rfl (fun ls hl => ?_)
        refine mg_iload X 33 d_Mo_isSo_31 (lv_at hl 0 rfl) rfl ?_
        refine mg_if_le X 103 36 (by omega) d_Mo_isSo_33 (by decide) rfl (fun hs => ?_) (fun hs => ?_)
        · -- pc 33 t
          refine mg_iinc X 106 [(4, .int (nI (k + 1))), (5, .int (nI (sn ((4 * k) + mk)))), (0, .ref (mh)), (1, .int (nI (mk))), (2, .int (nI (w))), (3, .int (nI (x)))] (k + 1) d_Mo_isSo_103 hl (k := 5) rfl (mg_inc1 _) (by decide) rfl rfl (fun ls hl => ?_)
          refine mg_goto X 5 d_Mo_isSo_106 (by decide) ?_
          have hl : lv_has ls 8 [(0, .ref (mh)), (1, .int (nI (mk))), (2, .int (nI (w))), (3, .int (nI (x))), (4, .int (nI (k + 1)))] := lv_sub hl [2, 3, 4, 5, 0] rfl
          exact ih5 _ (by omega) (k + 1) x rfl (mo_so0 hx (show ol (mk * 6 + k) = 0 from Classical.not_not.mp (fun q => absurd (mo_cd0 (t := tl (mk * 6 + k)).mpr q) (by omega)))) (by omega) ls _ _ hl hw
        · -- pc 33 f
          have ho := mo_cd0.mp (show 0 < mo_cd (ol (mk * 6 + k)) (tl (mk * 6 + k)) by omega)
          refine mg_aload_n X 37 d_Mo_isSo_36 (lv_at hl 1 rfl) rfl ?_
          refine mg_get X hK hw 40 0 12 f_Mo_31 rfl rfl d_Mo_isSo_37 rfl ?_
          refine mg_aload_n X 41 d_Mo_isSo_40 (lv_at hl 1 rfl) rfl ?_
          refine mg_iload X 43 d_Mo_isSo_41 (lv_at hl 5 rfl) rfl ?_
          refine mg_iconst X 44 0 d_Mo_isSo_43 mg_ci_0 rfl ?_
          refine mg_iload_n X 45 d_Mo_isSo_44 (lv_at hl 3 rfl) rfl ?_
          refine mg_callVi X hK hw hA 48 [0, 1, 2, 3] 0 (fun _ => [mg_ob mh 6 [.int (nI (flt)), .int (nI (np)), .int (nI (nf)), .int (nI (nc)), .ref (qor), .ref (qfa), .ref (qmo), .int (nI (nm)), .ref (qwt), .ref (qrt), .ref (qnw), .ref (qsn), .ref (qlt), .ref (qkn), .ref (qft), .ref (qbf), .ref (qbh), .ref (qjt), .ref (qot), .ref (qsm), .ref (qpt), .ref (qpr), .ref (qch), .ref (qbt), .int (nI (wr)), .ref (qpg)], mg_ai K qor 6 rk, mg_ai K qfa 6 fa, mg_ai K qmo 6 mo, mg_ai K qsn 24 sn, mg_ai K qlt 6 lt]) rfl rfl (k_Mo_originOf l D K mh qor qfa qmo qwt qrt qnw qsn qlt qkn qft qbf qbh qjt qot qsm qpt qpr qch qbt qpg flt np nf nc nm wr rk fa mo k 0 w (hF0) (by omega) (by omega) (by omega)) g_Mo_122 ⟨by decide, by decide⟩ ⟨rfl, rfl⟩ rfl rfl rfl hl.1 (rest := [.ref (qlt)]) (As := [.int (nI (k)), .int (nI (0)), .int (nI (w))]) rfl (Nat.le_of_ble_eq_true rfl) d_Mo_isSo_45 ⟨Nat.zero_le _, Nat.zero_le _⟩ (fun _ => rfl) (fun _ => rfl) rfl ?_
          intro r _ H locs hp2 hw
          subst hp2
          refine mg_iald X hK hw 49 5 rfl (by omega) (by omega) d_Mo_isSo_48 rfl ?_
          refine mg_istore X 51 [(6, .int (nI (lt (fm_src fa mo rk w 3 k 0)))), (5, .int (nI (sn ((4 * k) + mk)))), (0, .ref (mh)), (1, .int (nI (mk))), (2, .int (nI (w))), (3, .int (nI (x))), (4, .int (nI (k)))] d_Mo_isSo_49 hl (by decide) rfl rfl (fun ls hl => ?_)
          refine mg_aload_n X 52 d_Mo_isSo_51 (lv_at hl 2 rfl) rfl ?_
          refine mg_get X hK hw 55 0 12 f_Mo_31 rfl rfl d_Mo_isSo_52 rfl ?_
          refine mg_aload_n X 56 d_Mo_isSo_55 (lv_at hl 2 rfl) rfl ?_
          refine mg_iload X 58 d_Mo_isSo_56 (lv_at hl 6 rfl) rfl ?_
          refine mg_iconst X 59 1 d_Mo_isSo_58 mg_ci_1 rfl ?_
          refine mg_iload_n X 60 d_Mo_isSo_59 (lv_at hl 4 rfl) rfl ?_
          refine mg_callVi X hK hw hA 63 [0, 1, 2, 3] 0 (fun _ => [mg_ob mh 6 [.int (nI (flt)), .int (nI (np)), .int (nI (nf)), .int (nI (nc)), .ref (qor), .ref (qfa), .ref (qmo), .int (nI (nm)), .ref (qwt), .ref (qrt), .ref (qnw), .ref (qsn), .ref (qlt), .ref (qkn), .ref (qft), .ref (qbf), .ref (qbh), .ref (qjt), .ref (qot), .ref (qsm), .ref (qpt), .ref (qpr), .ref (qch), .ref (qbt), .int (nI (wr)), .ref (qpg)], mg_ai K qor 6 rk, mg_ai K qfa 6 fa, mg_ai K qmo 6 mo, mg_ai K qsn 24 sn, mg_ai K qlt 6 lt]) rfl rfl (k_Mo_originOf l D K mh qor qfa qmo qwt qrt qnw qsn qlt qkn qft qbf qbh qjt qot qsm qpt qpr qch qbt qpg flt np nf nc nm wr rk fa mo k 1 w (hF0) (by omega) (by omega) (by omega)) g_Mo_122 ⟨by decide, by decide⟩ ⟨rfl, rfl⟩ rfl rfl rfl hl.1 (rest := [.ref (qlt)]) (As := [.int (nI (k)), .int (nI (1)), .int (nI (w))]) rfl (Nat.le_of_ble_eq_true rfl) d_Mo_isSo_60 ⟨Nat.zero_le _, Nat.zero_le _⟩ (fun _ => rfl) (fun _ => rfl) rfl ?_
          intro r _ H locs hp4 hw
          subst hp4
          refine mg_iald X hK hw 64 5 rfl (by omega) (by omega) d_Mo_isSo_63 rfl ?_
          refine mg_istore X 66 [(7, .int (nI (lt (fm_src fa mo rk w 3 k 1)))), (6, .int (nI (lt (fm_src fa mo rk w 3 k 0)))), (5, .int (nI (sn ((4 * k) + mk)))), (0, .ref (mh)), (1, .int (nI (mk))), (2, .int (nI (w))), (3, .int (nI (x))), (4, .int (nI (k)))] d_Mo_isSo_64 hl (by decide) rfl rfl (fun ls hl => ?_)
          refine mg_iload X 68 d_Mo_isSo_66 (lv_at hl 1 rfl) rfl ?_
          refine mg_iload X 70 d_Mo_isSo_68 (lv_at hl 0 rfl) rfl ?_
          refine mg_icmp_ge X 84 73 (by omega) (by omega) d_Mo_isSo_70 (by decide) rfl (fun hab => ?_) (fun hab => ?_)
          · -- pc 70 t
            refine mg_bipush X 86 10 d_Mo_isSo_84 mg_cb_10 rfl ?_
            refine mg_iload X 88 d_Mo_isSo_86 (lv_at hl 0 rfl) rfl ?_
            refine mg_imul X 89 (nI (10 * (lt (fm_src fa mo rk w 3 k 1)))) d_Mo_isSo_88 (pk_mul _ _) rfl ?_
            refine mg_iload X 91 d_Mo_isSo_89 (lv_at hl 1 rfl) rfl ?_
            refine mg_iadd X 92 (nI ((10 * (lt (fm_src fa mo rk w 3 k 1))) + (lt (fm_src fa mo rk w 3 k 0)))) d_Mo_isSo_91 (nI_add _ _) rfl ?_
            refine mg_iload X 94 d_Mo_isSo_92 (lv_at hl 2 rfl) rfl ?_
            refine mg_icmp_ne X 101 97 (by omega) (by omega) d_Mo_isSo_94 (by decide) rfl (fun he => ?_) (fun he => ?_)
            · -- pc 94 t
              refine mg_iconst X 102 0 d_Mo_isSo_101 mg_ci_0 rfl ?_
              refine mg_istore_n X 103 [(3, .int (nI (0))), (7, .int (nI (lt (fm_src fa mo rk w 3 k 1)))), (6, .int (nI (lt (fm_src fa mo rk w 3 k 0)))), (5, .int (nI (sn ((4 * k) + mk)))), (0, .ref (mh)), (1, .int (nI (mk))), (2, .int (nI (w))), (4, .int (nI (k)))] d_Mo_isSo_102 hl (by decide) rfl rfl (fun ls hl => ?_)
              refine mg_iinc X 106 [(4, .int (nI (k + 1))), (3, .int (nI (0))), (7, .int (nI (lt (fm_src fa mo rk w 3 k 1)))), (6, .int (nI (lt (fm_src fa mo rk w 3 k 0)))), (5, .int (nI (sn ((4 * k) + mk)))), (0, .ref (mh)), (1, .int (nI (mk))), (2, .int (nI (w)))] (k + 1) d_Mo_isSo_103 hl (k := 7) rfl (mg_inc1 _) (by decide) rfl rfl (fun ls hl => ?_)
              refine mg_goto X 5 d_Mo_isSo_106 (by decide) ?_
              have hl : lv_has ls 8 [(0, .ref (mh)), (1, .int (nI (mk))), (2, .int (nI (w))), (3, .int (nI (0))), (4, .int (nI (k + 1)))] := lv_sub hl [5, 6, 7, 1, 0] rfl
              exact ih5 _ (by omega) (k + 1) 0 rfl (mo_so2 (show ol (mk * 6 + k) ≠ 0 by omega) (fun q => he (by rw [hcd k mk (by omega) hm, ← (mo_cd_eq (hlt _ q0) (hlt _ q1) (show 1 ≤ ol (mk * 6 + k) ∧ ol (mk * 6 + k) ≤ 3 by omega) (show 1 ≤ tl (mk * 6 + k) ∧ tl (mk * 6 + k) ≤ 3 by omega)).mpr q]; exact (mo_cd_ge (by have := hlt _ q0; omega) (by omega)).symm))) (by omega) ls _ _ hl hw
            · -- pc 94 f
              refine mg_iconst X 98 1 d_Mo_isSo_97 mg_ci_1 rfl ?_
              refine mg_goto X 102 d_Mo_isSo_98 (by decide) ?_
              refine mg_istore_n X 103 [(3, .int (nI (1))), (7, .int (nI (lt (fm_src fa mo rk w 3 k 1)))), (6, .int (nI (lt (fm_src fa mo rk w 3 k 0)))), (5, .int (nI (sn ((4 * k) + mk)))), (0, .ref (mh)), (1, .int (nI (mk))), (2, .int (nI (w))), (4, .int (nI (k)))] d_Mo_isSo_102 hl (by decide) rfl rfl (fun ls hl => ?_)
              refine mg_iinc X 106 [(4, .int (nI (k + 1))), (3, .int (nI (1))), (7, .int (nI (lt (fm_src fa mo rk w 3 k 1)))), (6, .int (nI (lt (fm_src fa mo rk w 3 k 0)))), (5, .int (nI (sn ((4 * k) + mk)))), (0, .ref (mh)), (1, .int (nI (mk))), (2, .int (nI (w)))] (k + 1) d_Mo_isSo_103 hl (k := 7) rfl (mg_inc1 _) (by decide) rfl rfl (fun ls hl => ?_)
              refine mg_goto X 5 d_Mo_isSo_106 (by decide) ?_
              have hl : lv_has ls 8 [(0, .ref (mh)), (1, .int (nI (mk))), (2, .int (nI (w))), (3, .int (nI (1))), (4, .int (nI (k + 1)))] := lv_sub hl [5, 6, 7, 1, 0] rfl
              exact ih5 _ (by omega) (k + 1) 1 rfl (mo_so1 hx hx0 ((mo_cd_eq (hlt _ q0) (hlt _ q1) (show 1 ≤ ol (mk * 6 + k) ∧ ol (mk * 6 + k) ≤ 3 by omega) (show 1 ≤ tl (mk * 6 + k) ∧ tl (mk * 6 + k) ≤ 3 by omega)).mp (by rw [← hcd k mk (by omega) hm]; exact (show mo_cd (lt (fm_src fa mo rk w 3 k 0)) (lt (fm_src fa mo rk w 3 k 1)) = sn (4 * k + mk) from (mo_cd_ge (by have := hlt _ q0; omega) (by omega)).trans he)))) (by omega) ls _ _ hl hw
          · -- pc 70 f
            refine mg_bipush X 75 10 d_Mo_isSo_73 mg_cb_10 rfl ?_
            refine mg_iload X 77 d_Mo_isSo_75 (lv_at hl 1 rfl) rfl ?_
            refine mg_imul X 78 (nI (10 * (lt (fm_src fa mo rk w 3 k 0)))) d_Mo_isSo_77 (pk_mul _ _) rfl ?_
            refine mg_iload X 80 d_Mo_isSo_78 (lv_at hl 0 rfl) rfl ?_
            refine mg_iadd X 81 (nI ((10 * (lt (fm_src fa mo rk w 3 k 0))) + (lt (fm_src fa mo rk w 3 k 1)))) d_Mo_isSo_80 (nI_add _ _) rfl ?_
            refine mg_goto X 92 d_Mo_isSo_81 (by decide) ?_
            refine mg_iload X 94 d_Mo_isSo_92 (lv_at hl 2 rfl) rfl ?_
            refine mg_icmp_ne X 101 97 (by omega) (by omega) d_Mo_isSo_94 (by decide) rfl (fun he => ?_) (fun he => ?_)
            · -- pc 94 t
              refine mg_iconst X 102 0 d_Mo_isSo_101 mg_ci_0 rfl ?_
              refine mg_istore_n X 103 [(3, .int (nI (0))), (7, .int (nI (lt (fm_src fa mo rk w 3 k 1)))), (6, .int (nI (lt (fm_src fa mo rk w 3 k 0)))), (5, .int (nI (sn ((4 * k) + mk)))), (0, .ref (mh)), (1, .int (nI (mk))), (2, .int (nI (w))), (4, .int (nI (k)))] d_Mo_isSo_102 hl (by decide) rfl rfl (fun ls hl => ?_)
              refine mg_iinc X 106 [(4, .int (nI (k + 1))), (3, .int (nI (0))), (7, .int (nI (lt (fm_src fa mo rk w 3 k 1)))), (6, .int (nI (lt (fm_src fa mo rk w 3 k 0)))), (5, .int (nI (sn ((4 * k) + mk)))), (0, .ref (mh)), (1, .int (nI (mk))), (2, .int (nI (w)))] (k + 1) d_Mo_isSo_103 hl (k := 7) rfl (mg_inc1 _) (by decide) rfl rfl (fun ls hl => ?_)
              refine mg_goto X 5 d_Mo_isSo_106 (by decide) ?_
              have hl : lv_has ls 8 [(0, .ref (mh)), (1, .int (nI (mk))), (2, .int (nI (w))), (3, .int (nI (0))), (4, .int (nI (k + 1)))] := lv_sub hl [5, 6, 7, 1, 0] rfl
              exact ih5 _ (by omega) (k + 1) 0 rfl (mo_so2 (show ol (mk * 6 + k) ≠ 0 by omega) (fun q => he (by rw [hcd k mk (by omega) hm, ← (mo_cd_eq (hlt _ q0) (hlt _ q1) (show 1 ≤ ol (mk * 6 + k) ∧ ol (mk * 6 + k) ≤ 3 by omega) (show 1 ≤ tl (mk * 6 + k) ∧ tl (mk * 6 + k) ≤ 3 by omega)).mpr q]; exact (mo_cd_lt (by have := hlt _ q0; omega) (by omega)).symm))) (by omega) ls _ _ hl hw
            · -- pc 94 f
              refine mg_iconst X 98 1 d_Mo_isSo_97 mg_ci_1 rfl ?_
              refine mg_goto X 102 d_Mo_isSo_98 (by decide) ?_
              refine mg_istore_n X 103 [(3, .int (nI (1))), (7, .int (nI (lt (fm_src fa mo rk w 3 k 1)))), (6, .int (nI (lt (fm_src fa mo rk w 3 k 0)))), (5, .int (nI (sn ((4 * k) + mk)))), (0, .ref (mh)), (1, .int (nI (mk))), (2, .int (nI (w))), (4, .int (nI (k)))] d_Mo_isSo_102 hl (by decide) rfl rfl (fun ls hl => ?_)
              refine mg_iinc X 106 [(4, .int (nI (k + 1))), (3, .int (nI (1))), (7, .int (nI (lt (fm_src fa mo rk w 3 k 1)))), (6, .int (nI (lt (fm_src fa mo rk w 3 k 0)))), (5, .int (nI (sn ((4 * k) + mk)))), (0, .ref (mh)), (1, .int (nI (mk))), (2, .int (nI (w)))] (k + 1) d_Mo_isSo_103 hl (k := 7) rfl (mg_inc1 _) (by decide) rfl rfl (fun ls hl => ?_)
              refine mg_goto X 5 d_Mo_isSo_106 (by decide) ?_
              have hl : lv_has ls 8 [(0, .ref (mh)), (1, .int (nI (mk))), (2, .int (nI (w))), (3, .int (nI (1))), (4, .int (nI (k + 1)))] := lv_sub hl [5, 6, 7, 1, 0] rfl
              exact ih5 _ (by omega) (k + 1) 1 rfl (mo_so1 hx hx0 ((mo_cd_eq (hlt _ q0) (hlt _ q1) (show 1 ≤ ol (mk * 6 + k) ∧ ol (mk * 6 + k) ≤ 3 by omega) (show 1 ≤ tl (mk * 6 + k) ∧ tl (mk * 6 + k) ≤ 3 by omega)).mp (by rw [← hcd k mk (by omega) hm]; exact (show mo_cd (lt (fm_src fa mo rk w 3 k 0)) (lt (fm_src fa mo rk w 3 k 1)) = sn (4 * k + mk) from (mo_cd_lt (by have := hlt _ q0; omega) (by omega)).trans he)))) (by omega) ls _ _ hl hw
  have hl : lv_has ls 8 [(0, .ref (mh)), (1, .int (nI (mk))), (2, .int (nI (w))), (3, .int (nI (1))), (4, .int (nI (0)))] := lv_sub hl [2, 3, 4, 1, 0] rfl
  exact L5 _ 0 1 rfl (mo_c0.symm) (by omega) ls _ _ hl hw
