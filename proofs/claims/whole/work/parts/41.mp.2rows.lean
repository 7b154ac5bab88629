set_option maxRecDepth 100000 in
set_option maxHeartbeats 4000000 in
theorem k_Mo_reckonFit (l : Launch) (D : va_G) (K : Nat → ClassId) (mh : Nat) (qor : Nat) (qfa : Nat) (qmo : Nat) (qwt : Nat) (qrt : Nat) (qnw : Nat) (qsn : Nat) (qlt : Nat) (qkn : Nat) (qft : Nat) (qbf : Nat) (qbh : Nat) (qjt : Nat) (qot : Nat) (qsm : Nat) (qpt : Nat) (qpr : Nat) (qch : Nat) (qbt : Nat) (qpg : Nat) (flt : Nat) (np : Nat) (nf : Nat) (nc : Nat) (nm : Nat) (wr : Nat) (rk : Nat → Nat) (fa : Nat → Nat) (mo : Nat → Nat) (mw : Nat → Nat) (sn : Nat → Nat) (lt : Nat → Nat) (wt : Nat → Nat) (ol : Nat → Nat) (tl : Nat → Nat) (mk : Nat) (w : Nat) (hF0 : fm_ok nf nc fa mo rk) (hnp : np = nf + nc) (hS : sn_ok ol tl) (hcd : ∀ q i, q < 6 → i < 4 → sn (4 * q + i) = mo_cd (ol (i * 6 + q)) (tl (i * 6 + q))) (hmw : ∀ i l, i < nm → 1 ≤ l → l ≤ 3 → mw (4 * i + l) = ma_wt wt i l) (hW8 : ∀ i, i < nm → ma_wt wt i 1 + ma_wt wt i 2 + ma_wt wt i 3 = 8) (hm4 : nm ≤ 4) (hm : mk < nm) (hw1 : w < 64) : mg_Mi l D K y_Mo_reckonFit b_Mo_reckonFit 9 (.int) ({ frames := 2, cells := 0, slots := 0, locals := 53 }) [.ref (mh), .int (nI (mk)), .int (nI (w))] [mg_ob mh 6 [.int (nI (flt)), .int (nI (np)), .int (nI (nf)), .int (nI (nc)), .ref (qor), .ref (qfa), .ref (qmo), .int (nI (nm)), .ref (qwt), .ref (qrt), .ref (qnw), .ref (qsn), .ref (qlt), .ref (qkn), .ref (qft), .ref (qbf), .ref (qbh), .ref (qjt), .ref (qot), .ref (qsm), .ref (qpt), .ref (qpr), .ref (qch), .ref (qbt), .int (nI (wr)), .ref (qpg)], mg_ai K qor 6 rk, mg_ai K qfa 6 fa, mg_ai K qmo 6 mo, mg_ai K qwt 16 mw, mg_ai K qsn 24 sn, mg_ai K qlt 6 lt] (fun (r : Int32) (u : (Nat → Nat)) => r = nI (fi_fit wt ol tl fa mo rk nf nc mk w)) (fun (u : (Nat → Nat)) => [mg_ob mh 6 [.int (nI (flt)), .int (nI (np)), .int (nI (nf)), .int (nI (nc)), .ref (qor), .ref (qfa), .ref (qmo), .int (nI (nm)), .ref (qwt), .ref (qrt), .ref (qnw), .ref (qsn), .ref (qlt), .ref (qkn), .ref (qft), .ref (qbf), .ref (qbh), .ref (qjt), .ref (qot), .ref (qsm), .ref (qpt), .ref (qpr), .ref (qch), .ref (qbt), .int (nI (wr)), .ref (qpg)], mg_ai K qor 6 rk, mg_ai K qfa 6 fa, mg_ai K qmo 6 mo, mg_ai K qwt 16 mw, mg_ai K qsn 24 sn, mg_ai K qlt 6 u]) := by
  intro sz
  refine mg_entry (Qc := fun A => va_Qi (fun (r : Int32) (u : (Nat → Nat)) => r = nI (fi_fit wt ol tl fa mo rk nf nc mk w)) (mg_B D A (fun (u : (Nat → Nat)) => [mg_ob mh 6 [.int (nI (flt)), .int (nI (np)), .int (nI (nf)), .int (nI (nc)), .ref (qor), .ref (qfa), .ref (qmo), .int (nI (nm)), .ref (qwt), .ref (qrt), .ref (qnw), .ref (qsn), .ref (qlt), .ref (qkn), .ref (qft), .ref (qbf), .ref (qbh), .ref (qjt), .ref (qot), .ref (qsm), .ref (qpt), .ref (qpr), .ref (qch), .ref (qbt), .int (nI (wr)), .ref (qpg)], mg_ai K qor 6 rk, mg_ai K qfa 6 fa, mg_ai K qmo 6 mo, mg_ai K qwt 16 mw, mg_ai K qsn 24 sn, mg_ai K qlt 6 u])) A) (by decide) (Nat.le_of_ble_eq_true rfl) ?_
  intro p e s m args below meth c A ls X hr hlk hnm hA hK hw hl
  have hl : lv_has ls 9 [(0, .ref (mh)), (1, .int (nI (mk))), (2, .int (nI (w)))] := hl
  have hf1 := hF0.1
  have hf2 := hF0.2.1
  have hw8 := ma_w8 (hW8 mk hm)
  have hq9 : ∀ q, q < nf + nc → fm_src fa mo rk w 3 q 0 < 2 * nf ∧ fm_src fa mo rk w 3 q 1 < 2 * nf := fun q hq => ⟨fm_lt3 hF0 w hq (by omega), fm_lt3 hF0 w hq (by omega)⟩
  have h729 : 3 ^ (2 * nf) ≤ 729 := Nat.le_trans (Nat.pow_le_pow_right (by decide) (show 2 * nf ≤ 6 by omega)) (by decide)
  have h86 : 8 ^ (2 * nf) ≤ 262144 := Nat.le_trans (Nat.pow_le_pow_right (by decide) (show 2 * nf ≤ 6 by omega)) (by decide)
  have hp86 : ∀ i k, k ≤ 2 * nf → ft_p (ma_wt wt mk) (ft_dg i) k ≤ 262144 := fun i k hk => Nat.le_trans (ft_p_le (K := 2 * nf) (fun j _ => hw8 _ (ft_dg_in i j).1 (ft_dg_in i j).2) k hk) (Nat.le_trans (Nat.pow_le_pow_right (by decide) hk) h86)
  refine mg_iconst X 1 1 d_Mo_reckonFit_0 mg_ci_1 rfl ?_
  refine mg_istore_n X 2 [(3, .int (nI (1))), (0, .ref (mh)), (1, .int (nI (mk))), (2, .int (nI (w)))] d_Mo_reckonFit_1 hl (by decide) rfl rfl (fun ls hl => ?_)
  refine mg_iconst X 3 0 d_Mo_reckonFit_2 mg_ci_0 rfl ?_
  refine mg_istore X 5 [(4, .int (nI (0))), (3, .int (nI (1))), (0, .ref (mh)), (1, .int (nI (mk))), (2, .int (nI (w)))] d_Mo_reckonFit_3 hl (by decide) rfl rfl (fun ls hl => ?_)
  have L5 : ∀ (n0 : Nat) (k : Nat) (al : Nat), n0 = 2 * nf - k → (al = 3 ^ k) → (k ≤ 2 * nf) → ∀ (ls : Array Slot) (H : Heap) (locs : List Loc), lv_has ls 9 [(0, .ref (mh)), (1, .int (nI (mk))), (2, .int (nI (w))), (3, .int (nI (al))), (4, .int (nI (k)))] → mg_H D A s.heap H locs [mg_ob mh 6 [.int (nI (flt)), .int (nI (np)), .int (nI (nf)), .int (nI (nc)), .ref (qor), .ref (qfa), .ref (qmo), .int (nI (nm)), .ref (qwt), .ref (qrt), .ref (qnw), .ref (qsn), .ref (qlt), .ref (qkn), .ref (qft), .ref (qbf), .ref (qbh), .ref (qjt), .ref (qot), .ref (qsm), .ref (qpt), .ref (qpr), .ref (qch), .ref (qbt), .int (nI (wr)), .ref (qpg)], mg_ai K qor 6 rk, mg_ai K qfa 6 fa, mg_ai K qmo 6 mo, mg_ai K qwt 16 mw, mg_ai K qsn 24 sn, mg_ai K qlt 6 lt] → W p l e ({ frames := 2, cells := 0, slots := 0, locals := 53 }) s m args below meth c H locs 0 0 (MQ below (va_Qi (fun (r : Int32) (u : (Nat → Nat)) => r = nI (fi_fit wt ol tl fa mo rk nf nc mk w)) (mg_B D A (fun (u : (Nat → Nat)) => [mg_ob mh 6 [.int (nI (flt)), .int (nI (np)), .int (nI (nf)), .int (nI (nc)), .ref (qor), .ref (qfa), .ref (qmo), .int (nI (nm)), .ref (qwt), .ref (qrt), .ref (qnw), .ref (qsn), .ref (qlt), .ref (qkn), .ref (qft), .ref (qbf), .ref (qbh), .ref (qjt), .ref (qot), .ref (qsm), .ref (qpt), .ref (qpr), .ref (qch), .ref (qbt), .int (nI (wr)), .ref (qpg)], mg_ai K qor 6 rk, mg_ai K qfa 6 fa, mg_ai K qmo 6 mo, mg_ai K qwt 16 mw, mg_ai K qsn 24 sn, mg_ai K qlt 6 u])) A) args s (0) (0) A) (F0 m 5 ls []) := by
    intro n0
    induction n0 using Nat.strongRecOn with
    | ind n0 ih5 =>
    intro k al hm5 hal hk ls H locs hl hw
    have hk3 : 3 ^ k ≤ 729 := Nat.le_trans (Nat.pow_le_pow_right (by decide) hk) h729
    refine mg_iload X 7 d_Mo_reckonFit_5 (lv_at hl 4 rfl) rfl ?_
    refine mg_iconst X 8 2 d_Mo_reckonFit_7 mg_ci_2 rfl ?_
    refine mg_aload_n X 9 d_Mo_reckonFit_8 (lv_at hl 0 rfl) rfl ?_
    refine mg_get X hK hw 12 0 2 f_Mo_89 rfl rfl d_Mo_reckonFit_9 rfl ?_
    refine mg_imul X 13 (nI (2 * nf)) d_Mo_reckonFit_12 (pk_mul _ _) rfl ?_
    refine mg_icmp_ge X 26 16 (by omega) (by omega) d_Mo_reckonFit_13 (by decide) rfl (fun hb => ?_) (fun hb => ?_)
    · -- pc 13 t
      have hal9 : al = 3 ^ (2 * nf) := by rw [hal, show k = 2 * nf by omega]
      refine mg_iconst X 27 0 d_Mo_reckonFit_26 mg_ci_0 rfl ?_
      refine mg_istore X 29 [(4, .int (nI (0))), (0, .ref (mh)), (1, .int (nI (mk))), (2, .int (nI (w))), (3, .int (nI (al)))] d_Mo_reckonFit_27 hl (by decide) rfl rfl (fun ls hl => ?_)
      refine mg_iconst X 30 0 d_Mo_reckonFit_29 mg_ci_0 rfl ?_
      refine mg_istore X 32 [(5, .int (nI (0))), (4, .int (nI (0))), (0, .ref (mh)), (1, .int (nI (mk))), (2, .int (nI (w))), (3, .int (nI (al)))] d_Mo_reckonFit_30 hl (by decide) rfl rfl (fun ls hl => ?_)
      have L32 : ∀ (n0 : Nat) (n : Nat) (sm : Nat) (u : Nat → Nat), n0 = 3 ^ (2 * nf) - n → (sm = zs_sum n (fun i => ft_p (ma_wt wt mk) (ft_dg i) (2 * nf) * ft_c (ft_con (fun q => ol (mk * 6 + q)) (fun q => tl (mk * 6 + q)) (fun q => fm_src fa mo rk w 3 q 0) (fun q => fm_src fa mo rk w 3 q 1) 0 (nf + nc) (ft_dg i)))) → (n ≤ 3 ^ (2 * nf)) → ∀ (ls : Array Slot) (H : Heap) (locs : List Loc), lv_has ls 9 [(0, .ref (mh)), (1, .int (nI (mk))), (2, .int (nI (w))), (3, .int (nI (al))), (4, .int (nI (sm))), (5, .int (nI (n)))] → mg_H D A s.heap H locs [mg_ob mh 6 [.int (nI (flt)), .int (nI (np)), .int (nI (nf)), .int (nI (nc)), .ref (qor), .ref (qfa), .ref (qmo), .int (nI (nm)), .ref (qwt), .ref (qrt), .ref (qnw), .ref (qsn), .ref (qlt), .ref (qkn), .ref (qft), .ref (qbf), .ref (qbh), .ref (qjt), .ref (qot), .ref (qsm), .ref (qpt), .ref (qpr), .ref (qch), .ref (qbt), .int (nI (wr)), .ref (qpg)], mg_ai K qor 6 rk, mg_ai K qfa 6 fa, mg_ai K qmo 6 mo, mg_ai K qwt 16 mw, mg_ai K qsn 24 sn, mg_ai K qlt 6 u] → W p l e ({ frames := 2, cells := 0, slots := 0, locals := 53 }) s m args below meth c H locs 0 0 (MQ below (va_Qi (fun (r : Int32) (u : (Nat → Nat)) => r = nI (fi_fit wt ol tl fa mo rk nf nc mk w)) (mg_B D A (fun (u : (Nat → Nat)) => [mg_ob mh 6 [.int (nI (flt)), .int (nI (np)), .int (nI (nf)), .int (nI (nc)), .ref (qor), .ref (qfa), .ref (qmo), .int (nI (nm)), .ref (qwt), .ref (qrt), .ref (qnw), .ref (qsn), .ref (qlt), .ref (qkn), .ref (qft), .ref (qbf), .ref (qbh), .ref (qjt), .ref (qot), .ref (qsm), .ref (qpt), .ref (qpr), .ref (qch), .ref (qbt), .int (nI (wr)), .ref (qpg)], mg_ai K qor 6 rk, mg_ai K qfa 6 fa, mg_ai K qmo 6 mo, mg_ai K qwt 16 mw, mg_ai K qsn 24 sn, mg_ai K qlt 6 u])) A) args s (0) (0) A) (F0 m 32 ls []) := by
        intro n0
        induction n0 using Nat.strongRecOn with
        | ind n0 ih32 =>
        intro n sm u hm32 hsm hn ls H locs hl hw
        have hsb : sm ≤ n * 262144 := by rw [hsm]; exact mo_zs (fun i _ => Nat.le_trans (Nat.mul_le_mul (hp86 i (2 * nf) (Nat.le_refl _)) (Nat.le_of_lt_succ (mg_ft1 _))) (by omega))
        have hsb2 : n * 262144 ≤ 729 * 262144 := Nat.mul_le_mul_right _ (by omega)
        refine mg_iload X 34 d_Mo_reckonFit_32 (lv_at hl 5 rfl) rfl ?_
        refine mg_iload_n X 35 d_Mo_reckonFit_34 (lv_at hl 3 rfl) rfl ?_
        refine mg_icmp_ge X 137 38 (by omega) (by omega) d_Mo_reckonFit_35 (by decide) rfl (fun hb2 => ?_) (fun hb2 => ?_)
        · -- pc 35 t
          have hn9 : n = 3 ^ (2 * nf) := by omega
          refine mg_iload X 139 d_Mo_reckonFit_137 (lv_at hl 4 rfl) rfl ?_
          exact mg_iret X hr hlk (rfl) (u) (by rw [hsm, hn9]; exact congrArg nI (ft_count_fit hq9)) hw d_Mo_reckonFit_139
        · -- pc 35 f
          refine mg_iload X 40 d_Mo_reckonFit_38 (lv_at hl 5 rfl) rfl ?_
          refine mg_istore X 42 [(6, .int (nI (n))), (0, .ref (mh)), (1, .int (nI (mk))), (2, .int (nI (w))), (3, .int (nI (al))), (4, .int (nI (sm))), (5, .int (nI (n)))] d_Mo_reckonFit_40 hl (by decide) rfl rfl (fun ls hl => ?_)
          refine mg_iconst X 43 1 d_Mo_reckonFit_42 mg_ci_1 rfl ?_
          refine mg_istore X 45 [(7, .int (nI (1))), (6, .int (nI (n))), (0, .ref (mh)), (1, .int (nI (mk))), (2, .int (nI (w))), (3, .int (nI (al))), (4, .int (nI (sm))), (5, .int (nI (n)))] d_Mo_reckonFit_43 hl (by decide) rfl rfl (fun ls hl => ?_)
          refine mg_iconst X 46 0 d_Mo_reckonFit_45 mg_ci_0 rfl ?_
          refine mg_istore X 48 [(8, .int (nI (0))), (7, .int (nI (1))), (6, .int (nI (n))), (0, .ref (mh)), (1, .int (nI (mk))), (2, .int (nI (w))), (3, .int (nI (al))), (4, .int (nI (sm))), (5, .int (nI (n)))] d_Mo_reckonFit_46 hl (by decide) rfl rfl (fun ls hl => ?_)
          have L48 : ∀ (n0 : Nat) (k2 : Nat) (rs : Nat) (ch1 : Nat) (u2 : Nat → Nat), n0 = 2 * nf - k2 → (rs = n / 3 ^ k2) → (ch1 = ft_p (ma_wt wt mk) (ft_dg n) k2) → (∀ j, j < k2 → u2 j = ft_dg n j) → (k2 ≤ 2 * nf) → ∀ (ls : Array Slot) (H : Heap) (locs : List Loc), lv_has ls 9 [(0, .ref (mh)), (1, .int (nI (mk))), (2, .int (nI (w))), (3, .int (nI (al))), (4, .int (nI (sm))), (5, .int (nI (n))), (6, .int (nI (rs))), (7, .int (nI (ch1))), (8, .int (nI (k2)))] → mg_H D A s.heap H locs [mg_ob mh 6 [.int (nI (flt)), .int (nI (np)), .int (nI (nf)), .int (nI (nc)), .ref (qor), .ref (qfa), .ref (qmo), .int (nI (nm)), .ref (qwt), .ref (qrt), .ref (qnw), .ref (qsn), .ref (qlt), .ref (qkn), .ref (qft), .ref (qbf), .ref (qbh), .ref (qjt), .ref (qot), .ref (qsm), .ref (qpt), .ref (qpr), .ref (qch), .ref (qbt), .int (nI (wr)), .ref (qpg)], mg_ai K qor 6 rk, mg_ai K qfa 6 fa, mg_ai K qmo 6 mo, mg_ai K qwt 16 mw, mg_ai K qsn 24 sn, mg_ai K qlt 6 u2] → W p l e ({ frames := 2, cells := 0, slots := 0, locals := 53 }) s m args below meth c H locs 0 0 (MQ below (va_Qi (fun (r : Int32) (u : (Nat → Nat)) => r = nI (fi_fit wt ol tl fa mo rk nf nc mk w)) (mg_B D A (fun (u : (Nat → Nat)) => [mg_ob mh 6 [.int (nI (flt)), .int (nI (np)), .int (nI (nf)), .int (nI (nc)), .ref (qor), .ref (qfa), .ref (qmo), .int (nI (nm)), .ref (qwt), .ref (qrt), .ref (qnw), .ref (qsn), .ref (qlt), .ref (qkn), .ref (qft), .ref (qbf), .ref (qbh), .ref (qjt), .ref (qot), .ref (qsm), .ref (qpt), .ref (qpr), .ref (qch), .ref (qbt), .int (nI (wr)), .ref (qpg)], mg_ai K qor 6 rk, mg_ai K qfa 6 fa, mg_ai K qmo 6 mo, mg_ai K qwt 16 mw, mg_ai K qsn 24 sn, mg_ai K qlt 6 u])) A) args s (0) (0) A) (F0 m 48 ls []) := by
            intro n0
            induction n0 using Nat.strongRecOn with
            | ind n0 ih48 =>
            intro k2 rs ch1 u2 hm48 hrs hch hu2 hk2 ls H locs hl hw
            have hrs2 : rs ≤ n := by rw [hrs]; exact Nat.div_le_self _ _
            have hch2 : ch1 ≤ 262144 := by rw [hch]; exact hp86 n k2 hk2
            have hdg : 1 + rs % 3 = ft_dg n k2 := by rw [hrs]; rfl
            have hdi := ft_dg_in n k2
            have hwk := hmw mk (ft_dg n k2) hm hdi.1 hdi.2
            have hwl := hw8 _ hdi.1 hdi.2
            refine mg_iload X 50 d_Mo_reckonFit_48 (lv_at hl 8 rfl) rfl ?_
            refine mg_iconst X 51 2 d_Mo_reckonFit_50 mg_ci_2 rfl ?_
            refine mg_aload_n X 52 d_Mo_reckonFit_51 (lv_at hl 0 rfl) rfl ?_
            refine mg_get X hK hw 55 0 2 f_Mo_89 rfl rfl d_Mo_reckonFit_52 rfl ?_
            refine mg_imul X 56 (nI (2 * nf)) d_Mo_reckonFit_55 (pk_mul _ _) rfl ?_
            refine mg_icmp_ge X 105 59 (by omega) (by omega) d_Mo_reckonFit_56 (by decide) rfl (fun hb3 => ?_) (fun hb3 => ?_)
            · -- pc 56 t
              have hk9 : k2 = 2 * nf := by omega
              have hch9 : ch1 = ft_p (ma_wt wt mk) (ft_dg n) (2 * nf) := by rw [hch, hk9]
              have hlt9 : ∀ k, k < 2 * nf → u2 k = ft_dg n k := fun k hk => hu2 k (by omega)
              refine mg_iload X 107 d_Mo_reckonFit_105 (lv_at hl 7 rfl) rfl ?_
              refine mg_if_le X 127 110 (by omega) d_Mo_reckonFit_107 (by decide) rfl (fun hc0 => ?_) (fun hc0 => ?_)
              · -- pc 107 t
                refine mg_iload X 129 d_Mo_reckonFit_127 (lv_at hl 4 rfl) rfl ?_
                refine mg_istore X 131 [(4, .int (nI (sm))), (0, .ref (mh)), (1, .int (nI (mk))), (2, .int (nI (w))), (3, .int (nI (al))), (5, .int (nI (n))), (6, .int (nI (rs))), (7, .int (nI (ch1))), (8, .int (nI (k2)))] d_Mo_reckonFit_129 hl (by decide) rfl rfl (fun ls hl => ?_)
                refine mg_iinc X 134 [(5, .int (nI (n + 1))), (4, .int (nI (sm))), (0, .ref (mh)), (1, .int (nI (mk))), (2, .int (nI (w))), (3, .int (nI (al))), (6, .int (nI (rs))), (7, .int (nI (ch1))), (8, .int (nI (k2)))] (n + 1) d_Mo_reckonFit_131 hl (k := 5) rfl (mg_inc1 _) (by decide) rfl rfl (fun ls hl => ?_)
                refine mg_goto X 32 d_Mo_reckonFit_134 (by decide) ?_
                have hl : lv_has ls 9 [(0, .ref (mh)), (1, .int (nI (mk))), (2, .int (nI (w))), (3, .int (nI (al))), (4, .int (nI (sm))), (5, .int (nI (n + 1)))] := lv_sub hl [2, 3, 4, 5, 1, 0] rfl
                exact ih32 _ (by omega) (n + 1) sm u2 rfl (by show _ = zs_sum n (fun i => ft_p (ma_wt wt mk) (ft_dg i) (2 * nf) * ft_c (ft_con (fun q => ol (mk * 6 + q)) (fun q => tl (mk * 6 + q)) (fun q => fm_src fa mo rk w 3 q 0) (fun q => fm_src fa mo rk w 3 q 1) 0 (nf + nc) (ft_dg i))) + ft_p (ma_wt wt mk) (ft_dg n) (2 * nf) * ft_c _; rw [← hsm, ← hch9, show ch1 = 0 by omega, Nat.zero_mul, Nat.add_zero]) (by omega) ls _ _ hl hw
              · -- pc 107 f
                refine mg_aload_n X 111 d_Mo_reckonFit_110 (lv_at hl 0 rfl) rfl ?_
                refine mg_iload_n X 112 d_Mo_reckonFit_111 (lv_at hl 1 rfl) rfl ?_
                refine mg_iload_n X 113 d_Mo_reckonFit_112 (lv_at hl 2 rfl) rfl ?_
                refine mg_callVi X hK hw hA 116 [0, 1, 2, 3, 5, 6] 0 (fun _ => [mg_ob mh 6 [.int (nI (flt)), .int (nI (np)), .int (nI (nf)), .int (nI (nc)), .ref (qor), .ref (qfa), .ref (qmo), .int (nI (nm)), .ref (qwt), .ref (qrt), .ref (qnw), .ref (qsn), .ref (qlt), .ref (qkn), .ref (qft), .ref (qbf), .ref (qbh), .ref (qjt), .ref (qot), .ref (qsm), .ref (qpt), .ref (qpr), .ref (qch), .ref (qbt), .int (nI (wr)), .ref (qpg)], mg_ai K qor 6 rk, mg_ai K qfa 6 fa, mg_ai K qmo 6 mo, mg_ai K qwt 16 mw, mg_ai K qsn 24 sn, mg_ai K qlt 6 u2]) rfl rfl (k_Mo_isSo l D K mh qor qfa qmo qwt qrt qnw qsn qlt qkn qft qbf qbh qjt qot qsm qpt qpr qch qbt qpg flt np nf nc nm wr rk fa mo sn u2 ol tl mk w (by omega) (by omega) (by omega) (by omega) (by omega) (by omega) (fun k hk => by rw [hlt9 k hk]; exact ft_dg_in n k)) g_Mo_126 ⟨by decide, by decide⟩ ⟨rfl, rfl⟩ rfl rfl rfl hl.1 (rest := []) (As := [.int (nI (mk)), .int (nI (w))]) rfl (Nat.le_of_ble_eq_true rfl) d_Mo_reckonFit_113 ⟨Nat.zero_le _, Nat.zero_le _⟩ (fun _ => rfl) (fun _ => rfl) rfl ?_
                intro r _ H locs hp2 hw
                subst hp2
                refine mg_bif_eq X 127 119 d_Mo_reckonFit_116 (by decide) rfl (fun hso => ?_) (fun hso => ?_)
                · -- pc 116 t
                  refine mg_iload X 129 d_Mo_reckonFit_127 (lv_at hl 4 rfl) rfl ?_
                  refine mg_istore X 131 [(4, .int (nI (sm))), (0, .ref (mh)), (1, .int (nI (mk))), (2, .int (nI (w))), (3, .int (nI (al))), (5, .int (nI (n))), (6, .int (nI (rs))), (7, .int (nI (ch1))), (8, .int (nI (k2)))] d_Mo_reckonFit_129 hl (by decide) rfl rfl (fun ls hl => ?_)
                  refine mg_iinc X 134 [(5, .int (nI (n + 1))), (4, .int (nI (sm))), (0, .ref (mh)), (1, .int (nI (mk))), (2, .int (nI (w))), (3, .int (nI (al))), (6, .int (nI (rs))), (7, .int (nI (ch1))), (8, .int (nI (k2)))] (n + 1) d_Mo_reckonFit_131 hl (k := 5) rfl (mg_inc1 _) (by decide) rfl rfl (fun ls hl => ?_)
                  refine mg_goto X 32 d_Mo_reckonFit_134 (by decide) ?_
                  have hl : lv_has ls 9 [(0, .ref (mh)), (1, .int (nI (mk))), (2, .int (nI (w))), (3, .int (nI (al))), (4, .int (nI (sm))), (5, .int (nI (n + 1)))] := lv_sub hl [2, 3, 4, 5, 1, 0] rfl
                  exact ih32 _ (by omega) (n + 1) sm u2 rfl (by show _ = zs_sum n (fun i => ft_p (ma_wt wt mk) (ft_dg i) (2 * nf) * ft_c (ft_con (fun q => ol (mk * 6 + q)) (fun q => tl (mk * 6 + q)) (fun q => fm_src fa mo rk w 3 q 0) (fun q => fm_src fa mo rk w 3 q 1) 0 (nf + nc) (ft_dg i))) + ft_p (ma_wt wt mk) (ft_dg n) (2 * nf) * ft_c _; rw [← hsm, ft_c0 (fun q => hso ((ft_con_cg hq9 hlt9).mpr q)), Nat.mul_zero, Nat.add_zero]) (by omega) ls _ _ hl hw
                · -- pc 116 f
                  refine mg_iload X 121 d_Mo_reckonFit_119 (lv_at hl 4 rfl) rfl ?_
                  refine mg_iload X 123 d_Mo_reckonFit_121 (lv_at hl 7 rfl) rfl ?_
                  refine mg_iadd X 124 (nI (sm + ch1)) d_Mo_reckonFit_123 (nI_add _ _) rfl ?_
                  refine mg_goto X 129 d_Mo_reckonFit_124 (by decide) ?_
                  refine mg_istore X 131 [(4, .int (nI (sm + ch1))), (0, .ref (mh)), (1, .int (nI (mk))), (2, .int (nI (w))), (3, .int (nI (al))), (5, .int (nI (n))), (6, .int (nI (rs))), (7, .int (nI (ch1))), (8, .int (nI (k2)))] d_Mo_reckonFit_129 hl (by decide) rfl rfl (fun ls hl => ?_)
                  refine mg_iinc X 134 [(5, .int (nI (n + 1))), (4, .int (nI (sm + ch1))), (0, .ref (mh)), (1, .int (nI (mk))), (2, .int (nI (w))), (3, .int (nI (al))), (6, .int (nI (rs))), (7, .int (nI (ch1))), (8, .int (nI (k2)))] (n + 1) d_Mo_reckonFit_131 hl (k := 5) rfl (mg_inc1 _) (by decide) rfl rfl (fun ls hl => ?_)
                  refine mg_goto X 32 d_Mo_reckonFit_134 (by decide) ?_
                  have hl : lv_has ls 9 [(0, .ref (mh)), (1, .int (nI (mk))), (2, .int (nI (w))), (3, .int (nI (al))), (4, .int (nI (sm + ch1))), (5, .int (nI (n + 1)))] := lv_sub hl [2, 3, 4, 5, 1, 0] rfl
                  exact ih32 _ (by omega) (n + 1) (sm + ch1) u2 rfl (by show _ = zs_sum n (fun i => ft_p (ma_wt wt mk) (ft_dg i) (2 * nf) * ft_c (ft_con (fun q => ol (mk * 6 + q)) (fun q => tl (mk * 6 + q)) (fun q => fm_src fa mo rk w 3 q 0) (fun q => fm_src fa mo rk w 3 q 1) 0 (nf + nc) (ft_dg i))) + ft_p (ma_wt wt mk) (ft_dg n) (2 * nf) * ft_c _; rw [hsm, hch9, ft_c1 ((ft_con_cg hq9 hlt9).mp hso), Nat.mul_one]) (by omega) ls _ _ hl hw
            · -- pc 56 f
              refine mg_aload_n X 60 d_Mo_reckonFit_59 (lv_at hl 0 rfl) rfl ?_
              refine mg_get X hK hw 63 0 12 f_Mo_31 rfl rfl d_Mo_reckonFit_60 rfl ?_
              refine mg_iload X 65 d_Mo_reckonFit_63 (lv_at hl 8 rfl) rfl ?_
              refine mg_iconst X 66 1 d_Mo_reckonFit_65 mg_ci_1 rfl ?_
              refine mg_iload X 68 d_Mo_reckonFit_66 (lv_at hl 6 rfl) rfl ?_
              refine mg_iconst X 69 3 d_Mo_reckonFit_68 mg_ci_3 rfl ?_
              refine mg_irem X 70 d_Mo_reckonFit_69 (by omega) (by omega) (by omega) rfl ?_
              refine mg_iadd X 71 (nI (1 + (rs % 3))) d_Mo_reckonFit_70 (nI_add _ _) rfl ?_
              refine mg_iast X hK hw 72 6 [mg_ob mh 6 [.int (nI (flt)), .int (nI (np)), .int (nI (nf)), .int (nI (nc)), .ref (qor), .ref (qfa), .ref (qmo), .int (nI (nm)), .ref (qwt), .ref (qrt), .ref (qnw), .ref (qsn), .ref (qlt), .ref (qkn), .ref (qft), .ref (qbf), .ref (qbh), .ref (qjt), .ref (qot), .ref (qsm), .ref (qpt), .ref (qpr), .ref (qch), .ref (qbt), .int (nI (wr)), .ref (qpg)], mg_ai K qor 6 rk, mg_ai K qfa 6 fa, mg_ai K qmo 6 mo, mg_ai K qwt 16 mw, mg_ai K qsn 24 sn, mg_ai K qlt 6 (va_up u2 k2 (1 + (rs % 3)))] rfl (by omega) (by omega) d_Mo_reckonFit_71 rfl rfl (fun H locs hw => ?_)
              refine mg_iload X 74 d_Mo_reckonFit_72 (lv_at hl 6 rfl) rfl ?_
              refine mg_iconst X 75 3 d_Mo_reckonFit_74 mg_ci_3 rfl ?_
              refine mg_idiv X 76 d_Mo_reckonFit_75 (by omega) (by omega) (by omega) rfl ?_
              refine mg_istore X 78 [(6, .int (nI (rs / 3))), (0, .ref (mh)), (1, .int (nI (mk))), (2, .int (nI (w))), (3, .int (nI (al))), (4, .int (nI (sm))), (5, .int (nI (n))), (7, .int (nI (ch1))), (8, .int (nI (k2)))] d_Mo_reckonFit_76 hl (by decide) rfl rfl (fun ls hl => ?_)
              refine mg_iload X 80 d_Mo_reckonFit_78 (lv_at hl 7 rfl) rfl ?_
              refine mg_aload_n X 81 d_Mo_reckonFit_80 (lv_at hl 1 rfl) rfl ?_
              refine mg_get X hK hw 84 0 8 f_Mo_19 rfl rfl d_Mo_reckonFit_81 rfl ?_
              refine mg_iconst X 85 4 d_Mo_reckonFit_84 mg_ci_4 rfl ?_
              refine mg_iload_n X 86 d_Mo_reckonFit_85 (lv_at hl 2 rfl) rfl ?_
              refine mg_imul X 87 (nI (4 * mk)) d_Mo_reckonFit_86 (pk_mul _ _) rfl ?_
              refine mg_aload_n X 88 d_Mo_reckonFit_87 (lv_at hl 1 rfl) rfl ?_
              refine mg_get X hK hw 91 0 12 f_Mo_31 rfl rfl d_Mo_reckonFit_88 rfl ?_
              refine mg_iload X 93 d_Mo_reckonFit_91 (lv_at hl 8 rfl) rfl ?_
              refine mg_iald X hK hw 94 6 rfl (by omega) (by omega) d_Mo_reckonFit_93 rfl ?_
              refine mg_iadd X 95 (nI ((4 * mk) + ((va_up u2 k2 (1 + (rs % 3))) k2))) d_Mo_reckonFit_94 (nI_add _ _) rfl ?_
              refine mg_iald X hK hw 96 4 rfl (by rw [va_up_self, hdg]; omega) (by omega) d_Mo_reckonFit_95 rfl ?_
              refine mg_imul X 97 (nI (ch1 * (mw ((4 * mk) + ((va_up u2 k2 (1 + (rs % 3))) k2))))) d_Mo_reckonFit_96 (pk_mul _ _) rfl ?_
              refine mg_istore X 99 [(7, .int (nI (ch1 * (mw ((4 * mk) + ((va_up u2 k2 (1 + (rs % 3))) k2)))))), (6, .int (nI (rs / 3))), (0, .ref (mh)), (1, .int (nI (mk))), (2, .int (nI (w))), (3, .int (nI (al))), (4, .int (nI (sm))), (5, .int (nI (n))), (8, .int (nI (k2)))] d_Mo_reckonFit_97 hl (by decide) rfl rfl (fun ls hl => ?_)
              refine mg_iinc X 102 [(8, .int (nI (k2 + 1))), (7, .int (nI (ch1 * (mw ((4 * mk) + ((va_up u2 k2 (1 + (rs % 3))) k2)))))), (6, .int (nI (rs / 3))), (0, .ref (mh)), (1, .int (nI (mk))), (2, .int (nI (w))), (3, .int (nI (al))), (4, .int (nI (sm))), (5, .int (nI (n)))] (k2 + 1) d_Mo_reckonFit_99 hl (k := 8) rfl (mg_inc1 _) (by decide) rfl rfl (fun ls hl => ?_)
              refine mg_goto X 48 d_Mo_reckonFit_102 (by decide) ?_
              have hl : lv_has ls 9 [(0, .ref (mh)), (1, .int (nI (mk))), (2, .int (nI (w))), (3, .int (nI (al))), (4, .int (nI (sm))), (5, .int (nI (n))), (6, .int (nI (rs / 3))), (7, .int (nI (ch1 * (mw ((4 * mk) + ((va_up u2 k2 (1 + (rs % 3))) k2)))))), (8, .int (nI (k2 + 1)))] := lv_sub hl [3, 4, 5, 6, 7, 8, 2, 1, 0] rfl
              exact ih48 _ (by omega) (k2 + 1) (rs / 3) (ch1 * (mw ((4 * mk) + ((va_up u2 k2 (1 + (rs % 3))) k2)))) (va_up u2 k2 (1 + (rs % 3))) rfl (by rw [hrs, Nat.div_div_eq_div_mul, ← Nat.pow_succ]) (by rw [hch, va_up_self, hdg, hwk]; rfl) (fun j hj => by rcases (show j = k2 ∨ j < k2 by omega) with h9 | h9; rw [h9, va_up_self, hdg]; rw [va_up_ne _ _ (by omega)]; exact hu2 j h9) (by omega) ls _ _ hl hw
          have hl : lv_has ls 9 [(0, .ref (mh)), (1, .int (nI (mk))), (2, .int (nI (w))), (3, .int (nI (al))), (4, .int (nI (sm))), (5, .int (nI (n))), (6, .int (nI (n))), (7, .int (nI (1))), (8, .int (nI (0)))] := lv_sub hl [3, 4, 5, 6, 7, 8, 2, 1, 0] rfl
          exact L48 _ 0 n 1 u rfl (by rw [Nat.pow_zero, Nat.div_one]) (rfl) (fun j hj => by omega) (by omega) ls _ _ hl hw
      have hl : lv_has ls 9 [(0, .ref (mh)), (1, .int (nI (mk))), (2, .int (nI (w))), (3, .int (nI (al))), (4, .int (nI (0))), (5, .int (nI (0)))] := lv_sub hl [2, 3, 4, 5, 1, 0] rfl
      exact L32 _ 0 0 lt rfl (rfl) (Nat.zero_le _) ls _ _ hl hw
    · -- pc 13 f
      refine mg_iconst X 17 3 d_Mo_reckonFit_16 mg_ci_3 rfl ?_
      refine mg_iload_n X 18 d_Mo_reckonFit_17 (lv_at hl 3 rfl) rfl ?_
      refine mg_imul X 19 (nI (3 * al)) d_Mo_reckonFit_18 (pk_mul _ _) rfl ?_
      refine mg_istore_n X 20 [(3, .int (nI (3 * al))), (0, .ref (mh)), (1, .int (nI (mk))), (2, .int (nI (w))), (4, .int (nI (k)))] d_Mo_reckonFit_19 hl (by decide) rfl rfl (fun ls hl => ?_)
      refine mg_iinc X 23 [(4, .int (nI (k + 1))), (3, .int (nI (3 * al))), (0, .ref (mh)), (1, .int (nI (mk))), (2, .int (nI (w)))] (k + 1) d_Mo_reckonFit_20 hl (k := 4) rfl (mg_inc1 _) (by decide) rfl rfl (fun ls hl => ?_)
      refine mg_goto X 5 d_Mo_reckonFit_23 (by decide) ?_
      have hl : lv_has ls 9 [(0, .ref (mh)), (1, .int (nI (mk))), (2, .int (nI (w))), (3, .int (nI (3 * al))), (4, .int (nI (k + 1)))] := lv_sub hl [2, 3, 4, 1, 0] rfl
      exact ih5 _ (by omega) (k + 1) (3 * al) rfl (by rw [hal, Nat.pow_succ, Nat.mul_comm]) (by omega) ls _ _ hl hw
  have hl : lv_has ls 9 [(0, .ref (mh)), (1, .int (nI (mk))), (2, .int (nI (w))), (3, .int (nI (1))), (4, .int (nI (0)))] := lv_sub hl [2, 3, 4, 1, 0] rfl
  exact L5 _ 0 1 rfl (rfl) (by omega) ls _ _ hl hw

set_option maxRecDepth 100000 in
set_option maxHeartbeats 4000000 in
theorem k_Mo_fitOf (l : Launch) (D : va_G) (K : Nat → ClassId) (mh : Nat) (qor : Nat) (qfa : Nat) (qmo : Nat) (qwt : Nat) (qrt : Nat) (qnw : Nat) (qsn : Nat) (qlt : Nat) (qkn : Nat) (qft : Nat) (qbf : Nat) (qbh : Nat) (qjt : Nat) (qot : Nat) (qsm : Nat) (qpt : Nat) (qpr : Nat) (qch : Nat) (qbt : Nat) (qpg : Nat) (flt : Nat) (np : Nat) (nf : Nat) (nc : Nat) (nm : Nat) (wr : Nat) (rk : Nat → Nat) (fa : Nat → Nat) (mo : Nat → Nat) (mw : Nat → Nat) (sn : Nat → Nat) (lt : Nat → Nat) (wt : Nat → Nat) (ol : Nat → Nat) (tl : Nat → Nat) (kn : Nat → Nat) (ftb : Nat → Nat) (mk : Nat) (w : Nat) (hF0 : fm_ok nf nc fa mo rk) (hnp : np = nf + nc) (hS : sn_ok ol tl) (hcd : ∀ q i, q < 6 → i < 4 → sn (4 * q + i) = mo_cd (ol (i * 6 + q)) (tl (i * 6 + q))) (hmw : ∀ i l, i < nm → 1 ≤ l → l ≤ 3 → mw (4 * i + l) = ma_wt wt i l) (hW8 : ∀ i, i < nm → ma_wt wt i 1 + ma_wt wt i 2 + ma_wt wt i 3 = 8) (hm4 : nm ≤ 4) (hkn : mo_kn nm (2 ^ (2 * nc)) kn ftb (fi_fit wt ol tl fa mo rk nf nc)) (hm : mk < nm) (hwW : w < 2 ^ (2 * nc)) : mg_Mi l D K y_Mo_fitOf b_Mo_fitOf 4 (.int) ({ frames := 3, cells := 0, slots := 0, locals := 81 }) [.ref (mh), .int (nI (mk)), .int (nI (w))] [mg_ob mh 6 [.int (nI (flt)), .int (nI (np)), .int (nI (nf)), .int (nI (nc)), .ref (qor), .ref (qfa), .ref (qmo), .int (nI (nm)), .ref (qwt), .ref (qrt), .ref (qnw), .ref (qsn), .ref (qlt), .ref (qkn), .ref (qft), .ref (qbf), .ref (qbh), .ref (qjt), .ref (qot), .ref (qsm), .ref (qpt), .ref (qpr), .ref (qch), .ref (qbt), .int (nI (wr)), .ref (qpg)], mg_ai K qor 6 rk, mg_ai K qfa 6 fa, mg_ai K qmo 6 mo, mg_ai K qwt 16 mw, mg_ai K qsn 24 sn, mg_ai K qlt 6 lt, mg_az K qkn 4 kn, mg_ai K qft 256 ftb] (fun (r : Int32) (uu : (Nat → Nat) × (Nat → Nat) × (Nat → Nat)) => r = nI (fi_fit wt ol tl fa mo rk nf nc mk w) ∧ mo_kn nm (2 ^ (2 * nc)) uu.2.1 uu.2.2 (fi_fit wt ol tl fa mo rk nf nc)) (fun (uu : (Nat → Nat) × (Nat → Nat) × (Nat → Nat)) => [mg_ob mh 6 [.int (nI (flt)), .int (nI (np)), .int (nI (nf)), .int (nI (nc)), .ref (qor), .ref (qfa), .ref (qmo), .int (nI (nm)), .ref (qwt), .ref (qrt), .ref (qnw), .ref (qsn), .ref (qlt), .ref (qkn), .ref (qft), .ref (qbf), .ref (qbh), .ref (qjt), .ref (qot), .ref (qsm), .ref (qpt), .ref (qpr), .ref (qch), .ref (qbt), .int (nI (wr)), .ref (qpg)], mg_ai K qor 6 rk, mg_ai K qfa 6 fa, mg_ai K qmo 6 mo, mg_ai K qwt 16 mw, mg_ai K qsn 24 sn, mg_ai K qlt 6 uu.1, mg_az K qkn 4 uu.2.1, mg_ai K qft 256 uu.2.2]) := by
  intro sz
  refine mg_entry (Qc := fun A => va_Qi (fun (r : Int32) (uu : (Nat → Nat) × (Nat → Nat) × (Nat → Nat)) => r = nI (fi_fit wt ol tl fa mo rk nf nc mk w) ∧ mo_kn nm (2 ^ (2 * nc)) uu.2.1 uu.2.2 (fi_fit wt ol tl fa mo rk nf nc)) (mg_B D A (fun (uu : (Nat → Nat) × (Nat → Nat) × (Nat → Nat)) => [mg_ob mh 6 [.int (nI (flt)), .int (nI (np)), .int (nI (nf)), .int (nI (nc)), .ref (qor), .ref (qfa), .ref (qmo), .int (nI (nm)), .ref (qwt), .ref (qrt), .ref (qnw), .ref (qsn), .ref (qlt), .ref (qkn), .ref (qft), .ref (qbf), .ref (qbh), .ref (qjt), .ref (qot), .ref (qsm), .ref (qpt), .ref (qpr), .ref (qch), .ref (qbt), .int (nI (wr)), .ref (qpg)], mg_ai K qor 6 rk, mg_ai K qfa 6 fa, mg_ai K qmo 6 mo, mg_ai K qwt 16 mw, mg_ai K qsn 24 sn, mg_ai K qlt 6 uu.1, mg_az K qkn 4 uu.2.1, mg_ai K qft 256 uu.2.2])) A) (by decide) (Nat.le_of_ble_eq_true rfl) ?_
  intro p e s m args below meth c A ls X hr hlk hnm hA hK hw hl
  have hl : lv_has ls 4 [(0, .ref (mh)), (1, .int (nI (mk))), (2, .int (nI (w)))] := hl
  have hf1 := hF0.1
  have hf2 := hF0.2.1
  have hw6 := mg_ways hf2
  have hk2 := (hkn mk hm).1
  refine mg_aload_n X 1 d_Mo_fitOf_0 (lv_at hl 0 rfl) rfl ?_
  refine mg_get X hK hw 4 0 13 f_Mo_34 rfl rfl d_Mo_fitOf_1 rfl ?_
  refine mg_iload_n X 5 d_Mo_fitOf_4 (lv_at hl 1 rfl) rfl ?_
  refine mg_zald X hK hw 6 7 rfl (by omega) (by omega) d_Mo_fitOf_5 rfl ?_
  refine mg_if_ne X 49 9 (by omega) d_Mo_fitOf_6 (by decide) rfl (fun hk0 => ?_) (fun hk0 => ?_)
  · -- pc 6 t
    refine mg_aload_n X 50 d_Mo_fitOf_49 (lv_at hl 0 rfl) rfl ?_
    refine mg_get X hK hw 53 0 14 f_Mo_38 rfl rfl d_Mo_fitOf_50 rfl ?_
    refine mg_bipush X 55 64 d_Mo_fitOf_53 mg_cb_64 rfl ?_
    refine mg_iload_n X 56 d_Mo_fitOf_55 (lv_at hl 1 rfl) rfl ?_
    refine mg_imul X 57 (nI (64 * mk)) d_Mo_fitOf_56 (pk_mul _ _) rfl ?_
    refine mg_iload_n X 58 d_Mo_fitOf_57 (lv_at hl 2 rfl) rfl ?_
    refine mg_iadd X 59 (nI ((64 * mk) + w)) d_Mo_fitOf_58 (nI_add _ _) rfl ?_
    refine mg_iald X hK hw 60 8 rfl (by omega) (by omega) d_Mo_fitOf_59 rfl ?_
    exact mg_iret X hr hlk (rfl) ((lt, kn, ftb)) (⟨congrArg nI (mo_kn_at hkn hm hk0 hwW), hkn⟩) hw d_Mo_fitOf_60
  · -- pc 6 f
    rw [← mo_tb0 ftb (fi_fit wt ol tl fa mo rk nf nc mk) mk] at hw
    refine mg_iconst X 10 0 d_Mo_fitOf_9 mg_ci_0 rfl ?_
    refine mg_istore_n X 11 [(3, .int (nI (0))), (0, .ref (mh)), (1, .int (nI (mk))), (2, .int (nI (w)))] d_Mo_fitOf_10 hl (by decide) rfl rfl (fun ls hl => ?_)
    have L11 : ∀ (n0 : Nat) (k : Nat) (u : Nat → Nat), n0 = 2 ^ (2 * nc) - k → (k ≤ 2 ^ (2 * nc)) → ∀ (ls : Array Slot) (H : Heap) (locs : List Loc), lv_has ls 4 [(0, .ref (mh)), (1, .int (nI (mk))), (2, .int (nI (w))), (3, .int (nI (k)))] → mg_H D A s.heap H locs [mg_ob mh 6 [.int (nI (flt)), .int (nI (np)), .int (nI (nf)), .int (nI (nc)), .ref (qor), .ref (qfa), .ref (qmo), .int (nI (nm)), .ref (qwt), .ref (qrt), .ref (qnw), .ref (qsn), .ref (qlt), .ref (qkn), .ref (qft), .ref (qbf), .ref (qbh), .ref (qjt), .ref (qot), .ref (qsm), .ref (qpt), .ref (qpr), .ref (qch), .ref (qbt), .int (nI (wr)), .ref (qpg)], mg_ai K qor 6 rk, mg_ai K qfa 6 fa, mg_ai K qmo 6 mo, mg_ai K qwt 16 mw, mg_ai K qsn 24 sn, mg_ai K qlt 6 u, mg_az K qkn 4 kn, mg_ai K qft 256 (mo_tb ftb (fi_fit wt ol tl fa mo rk nf nc mk) mk k)] → W p l e ({ frames := 3, cells := 0, slots := 0, locals := 81 }) s m args below meth c H locs 0 0 (MQ below (va_Qi (fun (r : Int32) (uu : (Nat → Nat) × (Nat → Nat) × (Nat → Nat)) => r = nI (fi_fit wt ol tl fa mo rk nf nc mk w) ∧ mo_kn nm (2 ^ (2 * nc)) uu.2.1 uu.2.2 (fi_fit wt ol tl fa mo rk nf nc)) (mg_B D A (fun (uu : (Nat → Nat) × (Nat → Nat) × (Nat → Nat)) => [mg_ob mh 6 [.int (nI (flt)), .int (nI (np)), .int (nI (nf)), .int (nI (nc)), .ref (qor), .ref (qfa), .ref (qmo), .int (nI (nm)), .ref (qwt), .ref (qrt), .ref (qnw), .ref (qsn), .ref (qlt), .ref (qkn), .ref (qft), .ref (qbf), .ref (qbh), .ref (qjt), .ref (qot), .ref (qsm), .ref (qpt), .ref (qpr), .ref (qch), .ref (qbt), .int (nI (wr)), .ref (qpg)], mg_ai K qor 6 rk, mg_ai K qfa 6 fa, mg_ai K qmo 6 mo, mg_ai K qwt 16 mw, mg_ai K qsn 24 sn, mg_ai K qlt 6 uu.1, mg_az K qkn 4 uu.2.1, mg_ai K qft 256 uu.2.2])) A) args s (0) (0) A) (F0 m 11 ls []) := by
      intro n0
      induction n0 using Nat.strongRecOn with
      | ind n0 ih11 =>
      intro k u hm11 hk ls H locs hl hw
      refine mg_iload_n X 12 d_Mo_fitOf_11 (lv_at hl 3 rfl) rfl ?_
      refine mg_aload_n X 13 d_Mo_fitOf_12 (lv_at hl 0 rfl) rfl ?_
      refine mg_callVi X hK hw hA 16 [0] 0 (fun _ => [mg_ob mh 6 [.int (nI (flt)), .int (nI (np)), .int (nI (nf)), .int (nI (nc)), .ref (qor), .ref (qfa), .ref (qmo), .int (nI (nm)), .ref (qwt), .ref (qrt), .ref (qnw), .ref (qsn), .ref (qlt), .ref (qkn), .ref (qft), .ref (qbf), .ref (qbh), .ref (qjt), .ref (qot), .ref (qsm), .ref (qpt), .ref (qpr), .ref (qch), .ref (qbt), .int (nI (wr)), .ref (qpg)], mg_ai K qor 6 rk, mg_ai K qfa 6 fa, mg_ai K qmo 6 mo, mg_ai K qwt 16 mw, mg_ai K qsn 24 sn, mg_ai K qlt 6 u, mg_az K qkn 4 kn, mg_ai K qft 256 (mo_tb ftb (fi_fit wt ol tl fa mo rk nf nc mk) mk k)]) rfl rfl (k_Mo_ways l D K mh qor qfa qmo qwt qrt qnw qsn qlt qkn qft qbf qbh qjt qot qsm qpt qpr qch qbt qpg flt np nf nc nm wr (by omega)) g_Mo_115 ⟨by decide, by decide⟩ ⟨rfl, rfl⟩ rfl rfl rfl hl.1 (rest := [.int (nI (k))]) (As := []) rfl (Nat.le_of_ble_eq_true rfl) d_Mo_fitOf_13 ⟨Nat.zero_le _, Nat.zero_le _⟩ (fun _ => rfl) (fun _ => rfl) rfl ?_
      intro r _ H locs hp2 hw
      subst hp2
      refine mg_icmp_ge X 42 19 (by omega) (by omega) d_Mo_fitOf_16 (by decide) rfl (fun hb => ?_) (fun hb => ?_)
      · -- pc 16 t
        have hk9 : k = 2 ^ (2 * nc) := by omega
        refine mg_aload_n X 43 d_Mo_fitOf_42 (lv_at hl 0 rfl) rfl ?_
        refine mg_get X hK hw 46 0 13 f_Mo_34 rfl rfl d_Mo_fitOf_43 rfl ?_
        refine mg_iload_n X 47 d_Mo_fitOf_46 (lv_at hl 1 rfl) rfl ?_
        refine mg_iconst X 48 1 d_Mo_fitOf_47 mg_ci_1 rfl ?_
        refine mg_zast X hK hw 49 7 [mg_ob mh 6 [.int (nI (flt)), .int (nI (np)), .int (nI (nf)), .int (nI (nc)), .ref (qor), .ref (qfa), .ref (qmo), .int (nI (nm)), .ref (qwt), .ref (qrt), .ref (qnw), .ref (qsn), .ref (qlt), .ref (qkn), .ref (qft), .ref (qbf), .ref (qbh), .ref (qjt), .ref (qot), .ref (qsm), .ref (qpt), .ref (qpr), .ref (qch), .ref (qbt), .int (nI (wr)), .ref (qpg)], mg_ai K qor 6 rk, mg_ai K qfa 6 fa, mg_ai K qmo 6 mo, mg_ai K qwt 16 mw, mg_ai K qsn 24 sn, mg_ai K qlt 6 u, mg_az K qkn 4 (va_up kn mk 1), mg_ai K qft 256 (mo_tb ftb (fi_fit wt ol tl fa mo rk nf nc mk) mk k)] rfl (by omega) (by omega) (by omega) d_Mo_fitOf_48 rfl rfl (fun H locs hw => ?_)
        refine mg_aload_n X 50 d_Mo_fitOf_49 (lv_at hl 0 rfl) rfl ?_
        refine mg_get X hK hw 53 0 14 f_Mo_38 rfl rfl d_Mo_fitOf_50 rfl ?_
        refine mg_bipush X 55 64 d_Mo_fitOf_53 mg_cb_64 rfl ?_
        refine mg_iload_n X 56 d_Mo_fitOf_55 (lv_at hl 1 rfl) rfl ?_
        refine mg_imul X 57 (nI (64 * mk)) d_Mo_fitOf_56 (pk_mul _ _) rfl ?_
        refine mg_iload_n X 58 d_Mo_fitOf_57 (lv_at hl 2 rfl) rfl ?_
        refine mg_iadd X 59 (nI ((64 * mk) + w)) d_Mo_fitOf_58 (nI_add _ _) rfl ?_
        refine mg_iald X hK hw 60 8 rfl (by omega) (by omega) d_Mo_fitOf_59 rfl ?_
        exact mg_iret X hr hlk (rfl) ((u, va_up kn mk 1, mo_tb ftb (fi_fit wt ol tl fa mo rk nf nc mk) mk k)) (⟨congrArg nI (mo_tb_at (by omega)), by rw [hk9]; exact mo_kn_new hkn hw6⟩) hw d_Mo_fitOf_60
      · -- pc 16 f
        refine mg_aload_n X 20 d_Mo_fitOf_19 (lv_at hl 0 rfl) rfl ?_
        refine mg_get X hK hw 23 0 14 f_Mo_38 rfl rfl d_Mo_fitOf_20 rfl ?_
        refine mg_bipush X 25 64 d_Mo_fitOf_23 mg_cb_64 rfl ?_
        refine mg_iload_n X 26 d_Mo_fitOf_25 (lv_at hl 1 rfl) rfl ?_
        refine mg_imul X 27 (nI (64 * mk)) d_Mo_fitOf_26 (pk_mul _ _) rfl ?_
        refine mg_iload_n X 28 d_Mo_fitOf_27 (lv_at hl 3 rfl) rfl ?_
        refine mg_iadd X 29 (nI ((64 * mk) + k)) d_Mo_fitOf_28 (nI_add _ _) rfl ?_
        refine mg_aload_n X 30 d_Mo_fitOf_29 (lv_at hl 0 rfl) rfl ?_
        refine mg_iload_n X 31 d_Mo_fitOf_30 (lv_at hl 1 rfl) rfl ?_
        refine mg_iload_n X 32 d_Mo_fitOf_31 (lv_at hl 3 rfl) rfl ?_
        refine mg_callVi X hK hw hA 35 [0, 1, 2, 3, 4, 5, 6] 0 (fun u3 => [mg_ob mh 6 [.int (nI (flt)), .int (nI (np)), .int (nI (nf)), .int (nI (nc)), .ref (qor), .ref (qfa), .ref (qmo), .int (nI (nm)), .ref (qwt), .ref (qrt), .ref (qnw), .ref (qsn), .ref (qlt), .ref (qkn), .ref (qft), .ref (qbf), .ref (qbh), .ref (qjt), .ref (qot), .ref (qsm), .ref (qpt), .ref (qpr), .ref (qch), .ref (qbt), .int (nI (wr)), .ref (qpg)], mg_ai K qor 6 rk, mg_ai K qfa 6 fa, mg_ai K qmo 6 mo, mg_ai K qwt 16 mw, mg_ai K qsn 24 sn, mg_ai K qlt 6 u3, mg_az K qkn 4 kn, mg_ai K qft 256 (mo_tb ftb (fi_fit wt ol tl fa mo rk nf nc mk) mk k)]) rfl rfl (k_Mo_reckonFit l D K mh qor qfa qmo qwt qrt qnw qsn qlt qkn qft qbf qbh qjt qot qsm qpt qpr qch qbt qpg flt np nf nc nm wr rk fa mo mw sn u wt ol tl mk k (by omega) (by omega) (by omega) (by omega) (by omega) (by omega) (by omega) (by omega) (by omega)) g_Mo_130 ⟨by decide, by decide⟩ ⟨rfl, rfl⟩ rfl rfl rfl hl.1 (rest := [.int (nI ((64 * mk) + k)), .ref (qft)]) (As := [.int (nI (mk)), .int (nI (k))]) rfl (Nat.le_of_ble_eq_true rfl) d_Mo_fitOf_32 ⟨Nat.zero_le _, Nat.zero_le _⟩ (fun _ => rfl) (fun _ => rfl) rfl ?_
        intro r u3 H locs hp4 hw
        subst hp4
        refine mg_iast X hK hw 36 8 [mg_ob mh 6 [.int (nI (flt)), .int (nI (np)), .int (nI (nf)), .int (nI (nc)), .ref (qor), .ref (qfa), .ref (qmo), .int (nI (nm)), .ref (qwt), .ref (qrt), .ref (qnw), .ref (qsn), .ref (qlt), .ref (qkn), .ref (qft), .ref (qbf), .ref (qbh), .ref (qjt), .ref (qot), .ref (qsm), .ref (qpt), .ref (qpr), .ref (qch), .ref (qbt), .int (nI (wr)), .ref (qpg)], mg_ai K qor 6 rk, mg_ai K qfa 6 fa, mg_ai K qmo 6 mo, mg_ai K qwt 16 mw, mg_ai K qsn 24 sn, mg_ai K qlt 6 u3, mg_az K qkn 4 kn, mg_ai K qft 256 (va_up (mo_tb ftb (fi_fit wt ol tl fa mo rk nf nc mk) mk k) ((64 * mk) + k) (fi_fit wt ol tl fa mo rk nf nc mk k))] rfl (by omega) (by omega) d_Mo_fitOf_35 rfl rfl (fun H locs hw => ?_)
        refine mg_iinc X 39 [(3, .int (nI (k + 1))), (0, .ref (mh)), (1, .int (nI (mk))), (2, .int (nI (w)))] (k + 1) d_Mo_fitOf_36 hl (k := 3) rfl (mg_inc1 _) (by decide) rfl rfl (fun ls hl => ?_)
        refine mg_goto X 11 d_Mo_fitOf_39 (by decide) ?_
        have hl : lv_has ls 4 [(0, .ref (mh)), (1, .int (nI (mk))), (2, .int (nI (w))), (3, .int (nI (k + 1)))] := lv_sub hl [1, 2, 3, 0] rfl
        rw [mo_tbS] at hw
        exact ih11 _ (by omega) (k + 1) u3 rfl (by omega) ls _ _ hl hw
    have hl : lv_has ls 4 [(0, .ref (mh)), (1, .int (nI (mk))), (2, .int (nI (w))), (3, .int (nI (0)))] := lv_sub hl [1, 2, 3, 0] rfl
    exact L11 _ 0 lt rfl (Nat.zero_le _) ls _ _ hl hw

set_option maxRecDepth 100000 in
set_option maxHeartbeats 4000000 in
theorem k_Mo_clear (l : Launch) (D : va_G) (K : Nat → ClassId) (qa : Nat) (N : Nat) (a : Nat) (i : Nat) (d : Nat → Nat) (V : Nat → Nat) (hR : li_R N d V) (hN : N ≤ 2048) (ha : a = 8 * i) (hi : 8 * i + 8 ≤ N) : mg_Mv l D K y_Mo_clear b_Mo_clear 3 ({ frames := 0, cells := 0, slots := 0, locals := 0 }) [.ref (qa), .int (nI (a))] [mg_al K qa N d] (fun (u : (Nat → Nat)) => li_R N u (va_up V i 0)) (fun (u : (Nat → Nat)) => [mg_al K qa N u]) := by
  intro sz
  refine mg_entry (Qc := fun A => va_Qv (fun (u : (Nat → Nat)) => li_R N u (va_up V i 0)) (mg_B D A (fun (u : (Nat → Nat)) => [mg_al K qa N u])) A) (by decide) (Nat.le_of_ble_eq_true rfl) ?_
  intro p e s m args below meth c A ls X hr hlk hnm hA hK hw hl
  have hl : lv_has ls 3 [(0, .ref (qa)), (1, .int (nI (a)))] := hl
  refine mg_iconst X 1 0 d_Mo_clear_0 mg_ci_0 rfl ?_
  refine mg_istore_n X 2 [(2, .int (nI (0))), (0, .ref (qa)), (1, .int (nI (a)))] d_Mo_clear_1 hl (by decide) rfl rfl (fun ls hl => ?_)
  have L2 : ∀ (n0 : Nat) (k : Nat) (u : Nat → Nat), n0 = 8 - k → (li_clI N a k d u) → (k ≤ 8) → ∀ (ls : Array Slot) (H : Heap) (locs : List Loc), lv_has ls 3 [(0, .ref (qa)), (1, .int (nI (a))), (2, .int (nI (k)))] → mg_H D A s.heap H locs [mg_al K qa N u] → W p l e ({ frames := 0, cells := 0, slots := 0, locals := 0 }) s m args below meth c H locs 0 0 (MQ below (va_Qv (fun (u : (Nat → Nat)) => li_R N u (va_up V i 0)) (mg_B D A (fun (u : (Nat → Nat)) => [mg_al K qa N u])) A) args s (0) (0) A) (F0 m 2 ls []) := by
    intro n0
    induction n0 using Nat.strongRecOn with
    | ind n0 ih2 =>
    intro k u hm2 hI hk ls H locs hl hw
    refine mg_iload_n X 3 d_Mo_clear_2 (lv_at hl 2 rfl) rfl ?_
    refine mg_bipush X 5 8 d_Mo_clear_3 mg_cb_8 rfl ?_
    refine mg_icmp_ge X 20 8 (by omega) (by omega) d_Mo_clear_5 (by decide) rfl (fun hb => ?_) (fun hb => ?_)
    · -- pc 5 t
      exact mg_vret X hr hlk (u) (by obtain rfl : k = 8 := (by omega); exact li_clF hI hR ha) hw d_Mo_clear_20
    · -- pc 5 f
      refine mg_aload_n X 9 d_Mo_clear_8 (lv_at hl 0 rfl) rfl ?_
      refine mg_iload_n X 10 d_Mo_clear_9 (lv_at hl 1 rfl) rfl ?_
      refine mg_iload_n X 11 d_Mo_clear_10 (lv_at hl 2 rfl) rfl ?_
      refine mg_iadd X 12 (nI (a + k)) d_Mo_clear_11 (nI_add _ _) rfl ?_
      refine mg_lconst X 13 0 d_Mo_clear_12 rfl rfl ?_
      refine mg_last X hK hw 14 0 [mg_al K qa N (va_up u (a + k) 0)] rfl (by omega) (by omega) d_Mo_clear_13 rfl rfl (fun H locs hw => ?_)
      refine mg_iinc X 17 [(2, .int (nI (k + 1))), (0, .ref (qa)), (1, .int (nI (a)))] (k + 1) d_Mo_clear_14 hl (k := 2) rfl (mg_inc1 _) (by decide) rfl rfl (fun ls hl => ?_)
      refine mg_goto X 2 d_Mo_clear_17 (by decide) ?_
      have hl : lv_has ls 3 [(0, .ref (qa)), (1, .int (nI (a))), (2, .int (nI (k + 1)))] := lv_sub hl [1, 2, 0] rfl
      exact ih2 _ (by omega) (k + 1) (va_up u (a + k) 0) rfl (li_clS hI) (by omega) ls _ _ hl hw
  have hl : lv_has ls 3 [(0, .ref (qa)), (1, .int (nI (a))), (2, .int (nI (0)))] := lv_sub hl [1, 2, 0] rfl
  exact L2 _ 0 d rfl (li_cl0 hR.1) (by omega) ls _ _ hl hw

set_option maxRecDepth 100000 in
set_option maxHeartbeats 4000000 in
theorem k_Mo_addTimes (l : Launch) (D : va_G) (K : Nat → ClassId) (qa : Nat) (qb : Nat) (N : Nat) (N2 : Nat) (a : Nat) (f : Nat) (n : Nat) (i : Nat) (j : Nat) (d : Nat → Nat) (V : Nat → Nat) (d2 : Nat → Nat) (V2 : Nat → Nat) (hR : li_R N d V) (hR2 : li_R N2 d2 V2) (hN : N ≤ 2048) (hN2 : N2 ≤ 2048) (ha : a = 8 * i) (hf : f = 8 * j) (hi : 8 * i + 8 ≤ N) (hj : 8 * j + 8 ≤ N2) (hn : n < 4294967296) (hl0 : V i + V2 j * n < 268435456 ^ 8) : mg_Mv l D K y_Mo_addTimes b_Mo_addTimes 9 ({ frames := 0, cells := 0, slots := 0, locals := 0 }) [.ref (qa), .int (nI (a)), .ref (qb), .int (nI (f)), .long (lN (n))] [mg_al K qa N d, mg_al K qb N2 d2] (fun (u : (Nat → Nat)) => li_R N u (va_up V i (V i + V2 j * n))) (fun (u : (Nat → Nat)) => [mg_al K qa N u, mg_al K qb N2 d2]) := by
  intro sz
  refine mg_entry (Qc := fun A => va_Qv (fun (u : (Nat → Nat)) => li_R N u (va_up V i (V i + V2 j * n))) (mg_B D A (fun (u : (Nat → Nat)) => [mg_al K qa N u, mg_al K qb N2 d2])) A) (by decide) (Nat.le_of_ble_eq_true rfl) ?_
  intro p e s m args below meth c A ls X hr hlk hnm hA hK hw hl
  have hl : lv_has ls 9 [(0, .ref (qa)), (1, .int (nI (a))), (2, .ref (qb)), (3, .int (nI (f))), (4, .long (lN (n)))] := hl
  refine mg_lconst X 1 0 d_Mo_addTimes_0 rfl rfl ?_
  refine mg_lstore X 3 [(6, .long (lN (0))), (0, .ref (qa)), (1, .int (nI (a))), (2, .ref (qb)), (3, .int (nI (f))), (4, .long (lN (n)))] d_Mo_addTimes_1 hl (by decide) rfl rfl (fun ls hl => ?_)
  refine mg_iconst X 4 0 d_Mo_addTimes_3 mg_ci_0 rfl ?_
  refine mg_istore X 6 [(8, .int (nI (0))), (6, .long (lN (0))), (0, .ref (qa)), (1, .int (nI (a))), (2, .ref (qb)), (3, .int (nI (f))), (4, .long (lN (n)))] d_Mo_addTimes_4 hl (by decide) rfl rfl (fun ls hl => ?_)
  have L6 : ∀ (n0 : Nat) (k : Nat) (cy : Nat) (u : Nat → Nat), n0 = 8 - k → (li_adI N a f n k cy d u d2) → (k ≤ 8) → ∀ (ls : Array Slot) (H : Heap) (locs : List Loc), lv_has ls 9 [(0, .ref (qa)), (1, .int (nI (a))), (2, .ref (qb)), (3, .int (nI (f))), (4, .long (lN (n))), (6, .long (lN (cy))), (8, .int (nI (k)))] → mg_H D A s.heap H locs [mg_al K qa N u, mg_al K qb N2 d2] → W p l e ({ frames := 0, cells := 0, slots := 0, locals := 0 }) s m args below meth c H locs 0 0 (MQ below (va_Qv (fun (u : (Nat → Nat)) => li_R N u (va_up V i (V i + V2 j * n))) (mg_B D A (fun (u : (Nat → Nat)) => [mg_al K qa N u, mg_al K qb N2 d2])) A) args s (0) (0) A) (F0 m 6 ls []) := by
    intro n0
    induction n0 using Nat.strongRecOn with
    | ind n0 ih6 =>
    intro k cy u hm6 hI hk ls H locs hl hw
    refine mg_iload X 8 d_Mo_addTimes_6 (lv_at hl 6 rfl) rfl ?_
    refine mg_bipush X 10 8 d_Mo_addTimes_8 mg_cb_8 rfl ?_
    refine mg_icmp_ge X 60 13 (by omega) (by omega) d_Mo_addTimes_10 (by decide) rfl (fun hb => ?_) (fun hb => ?_)
    · -- pc 10 t
      exact mg_vret X hr hlk (u) (by obtain rfl : k = 8 := (by omega); exact li_adF hI hR hR2 ha hf hi hj hl0) hw d_Mo_addTimes_60
    · -- pc 10 f
      refine mg_lload X 15 d_Mo_addTimes_13 (lv_at hl 5 rfl) rfl ?_
      refine mg_aload_n X 16 d_Mo_addTimes_15 (lv_at hl 0 rfl) rfl ?_
      refine mg_iload_n X 17 d_Mo_addTimes_16 (lv_at hl 1 rfl) rfl ?_
      refine mg_iload X 19 d_Mo_addTimes_17 (lv_at hl 6 rfl) rfl ?_
      refine mg_iadd X 20 (nI (a + k)) d_Mo_addTimes_19 (nI_add _ _) rfl ?_
      refine mg_lald X hK hw 21 0 rfl (by omega) (by omega) d_Mo_addTimes_20 rfl ?_
      refine mg_ladd X 22 (lN (cy + (u (a + k)))) d_Mo_addTimes_21 (lN_add _ _) rfl ?_
      refine mg_aload_n X 23 d_Mo_addTimes_22 (lv_at hl 2 rfl) rfl ?_
      refine mg_iload_n X 24 d_Mo_addTimes_23 (lv_at hl 3 rfl) rfl ?_
      refine mg_iload X 26 d_Mo_addTimes_24 (lv_at hl 6 rfl) rfl ?_
      refine mg_iadd X 27 (nI (f + k)) d_Mo_addTimes_26 (nI_add _ _) rfl ?_
      refine mg_lald X hK hw 28 1 rfl (by omega) (by omega) d_Mo_addTimes_27 rfl ?_
      refine mg_lload X 30 d_Mo_addTimes_28 (lv_at hl 4 rfl) rfl ?_
      refine mg_lmul X 31 (lN ((d2 (f + k)) * n)) d_Mo_addTimes_30 (lN_mul _ _) rfl ?_
      refine mg_ladd X 32 (lN ((cy + (u (a + k))) + ((d2 (f + k)) * n))) d_Mo_addTimes_31 (lN_add _ _) rfl ?_
      refine mg_lstore X 34 [(6, .long (lN ((cy + (u (a + k))) + ((d2 (f + k)) * n)))), (0, .ref (qa)), (1, .int (nI (a))), (2, .ref (qb)), (3, .int (nI (f))), (4, .long (lN (n))), (8, .int (nI (k)))] d_Mo_addTimes_32 hl (by decide) rfl rfl (fun ls hl => ?_)
      refine mg_aload_n X 35 d_Mo_addTimes_34 (lv_at hl 1 rfl) rfl ?_
      refine mg_iload_n X 36 d_Mo_addTimes_35 (lv_at hl 2 rfl) rfl ?_
      refine mg_iload X 38 d_Mo_addTimes_36 (lv_at hl 6 rfl) rfl ?_
      refine mg_iadd X 39 (nI (a + k)) d_Mo_addTimes_38 (nI_add _ _) rfl ?_
      refine mg_lload X 41 d_Mo_addTimes_39 (lv_at hl 0 rfl) rfl ?_
      refine mg_ldc2 X 44 268435456 d_Mo_addTimes_41 cw_Mo_137 rfl rfl ?_
      refine mg_lrem X 45 d_Mo_addTimes_44 (li_ad_lt (hI.1.1 (a + k) (by omega)) (hR2.1 (f + k) (by omega)) hI.2.2 hn) (by omega) (by omega) rfl ?_
      refine mg_last X hK hw 46 0 [mg_al K qa N (va_up u (a + k) (((cy + (u (a + k))) + ((d2 (f + k)) * n)) % 268435456)), mg_al K qb N2 d2] rfl (by omega) (by omega) d_Mo_addTimes_45 rfl rfl (fun H locs hw => ?_)
      refine mg_lload X 48 d_Mo_addTimes_46 (lv_at hl 0 rfl) rfl ?_
      refine mg_ldc2 X 51 268435456 d_Mo_addTimes_48 cw_Mo_137 rfl rfl ?_
      refine mg_ldiv X 52 d_Mo_addTimes_51 (li_ad_lt (hI.1.1 (a + k) (by omega)) (hR2.1 (f + k) (by omega)) hI.2.2 hn) (by omega) (by omega) rfl ?_
      refine mg_lstore X 54 [(6, .long (lN (((cy + (u (a + k))) + ((d2 (f + k)) * n)) / 268435456))), (0, .ref (qa)), (1, .int (nI (a))), (2, .ref (qb)), (3, .int (nI (f))), (4, .long (lN (n))), (8, .int (nI (k)))] d_Mo_addTimes_52 hl (by decide) rfl rfl (fun ls hl => ?_)
      refine mg_iinc X 57 [(8, .int (nI (k + 1))), (6, .long (lN (((cy + (u (a + k))) + ((d2 (f + k)) * n)) / 268435456))), (0, .ref (qa)), (1, .int (nI (a))), (2, .ref (qb)), (3, .int (nI (f))), (4, .long (lN (n)))] (k + 1) d_Mo_addTimes_54 hl (k := 6) rfl (mg_inc1 _) (by decide) rfl rfl (fun ls hl => ?_)
      refine mg_goto X 6 d_Mo_addTimes_57 (by decide) ?_
      have hl : lv_has ls 9 [(0, .ref (qa)), (1, .int (nI (a))), (2, .ref (qb)), (3, .int (nI (f))), (4, .long (lN (n))), (6, .long (lN (((cy + (u (a + k))) + ((d2 (f + k)) * n)) / 268435456))), (8, .int (nI (k + 1)))] := lv_sub hl [2, 3, 4, 5, 6, 1, 0] rfl
      exact ih6 _ (by omega) (k + 1) (((cy + (u (a + k))) + ((d2 (f + k)) * n)) / 268435456) (va_up u (a + k) (((cy + (u (a + k))) + ((d2 (f + k)) * n)) % 268435456)) rfl (li_adS hI hR2.1 (by omega) (by omega) (rfl)) (by omega) ls _ _ hl hw
  have hl : lv_has ls 9 [(0, .ref (qa)), (1, .int (nI (a))), (2, .ref (qb)), (3, .int (nI (f))), (4, .long (lN (n))), (6, .long (lN (0))), (8, .int (nI (0)))] := lv_sub hl [2, 3, 4, 5, 6, 1, 0] rfl
  exact L6 _ 0 0 d rfl (li_ad0 hR.1) (by omega) ls _ _ hl hw

set_option maxRecDepth 100000 in
set_option maxHeartbeats 4000000 in
theorem k_Mo_addTimes1 (l : Launch) (D : va_G) (K : Nat → ClassId) (qa : Nat) (N : Nat) (a : Nat) (f : Nat) (n : Nat) (i : Nat) (j : Nat) (d : Nat → Nat) (V : Nat → Nat) (hR : li_R N d V) (hN : N ≤ 2048) (ha : a = 8 * i) (hf : f = 8 * j) (hi : 8 * i + 8 ≤ N) (hj : 8 * j + 8 ≤ N) (hij : i ≠ j) (hn : n < 4294967296) (hl0 : V i + V j * n < 268435456 ^ 8) : mg_Mv l D K y_Mo_addTimes b_Mo_addTimes 9 ({ frames := 0, cells := 0, slots := 0, locals := 0 }) [.ref (qa), .int (nI (a)), .ref (qa), .int (nI (f)), .long (lN (n))] [mg_al K qa N d] (fun (u : (Nat → Nat)) => li_R N u (va_up V i (V i + V j * n))) (fun (u : (Nat → Nat)) => [mg_al K qa N u]) := by
  intro sz
  refine mg_entry (Qc := fun A => va_Qv (fun (u : (Nat → Nat)) => li_R N u (va_up V i (V i + V j * n))) (mg_B D A (fun (u : (Nat → Nat)) => [mg_al K qa N u])) A) (by decide) (Nat.le_of_ble_eq_true rfl) ?_
  intro p e s m args below meth c A ls X hr hlk hnm hA hK hw hl
  have hl : lv_has ls 9 [(0, .ref (qa)), (1, .int (nI (a))), (2, .ref (qa)), (3, .int (nI (f))), (4, .long (lN (n)))] := hl
  refine mg_lconst X 1 0 d_Mo_addTimes_0 rfl rfl ?_
  refine mg_lstore X 3 [(6, .long (lN (0))), (0, .ref (qa)), (1, .int (nI (a))), (2, .ref (qa)), (3, .int (nI (f))), (4, .long (lN (n)))] d_Mo_addTimes_1 hl (by decide) rfl rfl (fun ls hl => ?_)
  refine mg_iconst X 4 0 d_Mo_addTimes_3 mg_ci_0 rfl ?_
  refine mg_istore X 6 [(8, .int (nI (0))), (6, .long (lN (0))), (0, .ref (qa)), (1, .int (nI (a))), (2, .ref (qa)), (3, .int (nI (f))), (4, .long (lN (n)))] d_Mo_addTimes_4 hl (by decide) rfl rfl (fun ls hl => ?_)
  have L6 : ∀ (n0 : Nat) (k : Nat) (cy : Nat) (u : Nat → Nat), n0 = 8 - k → (li_adI N a f n k cy d u d) → (k ≤ 8) → ∀ (ls : Array Slot) (H : Heap) (locs : List Loc), lv_has ls 9 [(0, .ref (qa)), (1, .int (nI (a))), (2, .ref (qa)), (3, .int (nI (f))), (4, .long (lN (n))), (6, .long (lN (cy))), (8, .int (nI (k)))] → mg_H D A s.heap H locs [mg_al K qa N u] → W p l e ({ frames := 0, cells := 0, slots := 0, locals := 0 }) s m args below meth c H locs 0 0 (MQ below (va_Qv (fun (u : (Nat → Nat)) => li_R N u (va_up V i (V i + V j * n))) (mg_B D A (fun (u : (Nat → Nat)) => [mg_al K qa N u])) A) args s (0) (0) A) (F0 m 6 ls []) := by
    intro n0
    induction n0 using Nat.strongRecOn with
    | ind n0 ih6 =>
    intro k cy u hm6 hI hk ls H locs hl hw
    refine mg_iload X 8 d_Mo_addTimes_6 (lv_at hl 6 rfl) rfl ?_
    refine mg_bipush X 10 8 d_Mo_addTimes_8 mg_cb_8 rfl ?_
    refine mg_icmp_ge X 60 13 (by omega) (by omega) d_Mo_addTimes_10 (by decide) rfl (fun hb => ?_) (fun hb => ?_)
    · -- pc 10 t
      exact mg_vret X hr hlk (u) (by obtain rfl : k = 8 := (by omega); exact li_adF hI hR hR ha hf hi hj hl0) hw d_Mo_addTimes_60
    · -- pc 10 f
      refine mg_lload X 15 d_Mo_addTimes_13 (lv_at hl 5 rfl) rfl ?_
      refine mg_aload_n X 16 d_Mo_addTimes_15 (lv_at hl 0 rfl) rfl ?_
      refine mg_iload_n X 17 d_Mo_addTimes_16 (lv_at hl 1 rfl) rfl ?_
      refine mg_iload X 19 d_Mo_addTimes_17 (lv_at hl 6 rfl) rfl ?_
      refine mg_iadd X 20 (nI (a + k)) d_Mo_addTimes_19 (nI_add _ _) rfl ?_
      refine mg_lald X hK hw 21 0 rfl (by omega) (by omega) d_Mo_addTimes_20 rfl ?_
      refine mg_ladd X 22 (lN (cy + (u (a + k)))) d_Mo_addTimes_21 (lN_add _ _) rfl ?_
      refine mg_aload_n X 23 d_Mo_addTimes_22 (lv_at hl 2 rfl) rfl ?_
      refine mg_iload_n X 24 d_Mo_addTimes_23 (lv_at hl 3 rfl) rfl ?_
      refine mg_iload X 26 d_Mo_addTimes_24 (lv_at hl 6 rfl) rfl ?_
      refine mg_iadd X 27 (nI (f + k)) d_Mo_addTimes_26 (nI_add _ _) rfl ?_
      refine mg_lald X hK hw 28 0 rfl (by omega) (by omega) d_Mo_addTimes_27 rfl ?_
      refine mg_lload X 30 d_Mo_addTimes_28 (lv_at hl 4 rfl) rfl ?_
      refine mg_lmul X 31 (lN ((u (f + k)) * n)) d_Mo_addTimes_30 (lN_mul _ _) rfl ?_
      refine mg_ladd X 32 (lN ((cy + (u (a + k))) + ((u (f + k)) * n))) d_Mo_addTimes_31 (lN_add _ _) rfl ?_
      refine mg_lstore X 34 [(6, .long (lN ((cy + (u (a + k))) + ((u (f + k)) * n)))), (0, .ref (qa)), (1, .int (nI (a))), (2, .ref (qa)), (3, .int (nI (f))), (4, .long (lN (n))), (8, .int (nI (k)))] d_Mo_addTimes_32 hl (by decide) rfl rfl (fun ls hl => ?_)
      refine mg_aload_n X 35 d_Mo_addTimes_34 (lv_at hl 1 rfl) rfl ?_
      refine mg_iload_n X 36 d_Mo_addTimes_35 (lv_at hl 2 rfl) rfl ?_
      refine mg_iload X 38 d_Mo_addTimes_36 (lv_at hl 6 rfl) rfl ?_
      refine mg_iadd X 39 (nI (a + k)) d_Mo_addTimes_38 (nI_add _ _) rfl ?_
      refine mg_lload X 41 d_Mo_addTimes_39 (lv_at hl 0 rfl) rfl ?_
      refine mg_ldc2 X 44 268435456 d_Mo_addTimes_41 cw_Mo_137 rfl rfl ?_
      refine mg_lrem X 45 d_Mo_addTimes_44 (li_ad_lt (hI.1.1 (a + k) (by omega)) (hI.1.1 (f + k) (by omega)) hI.2.2 hn) (by omega) (by omega) rfl ?_
      refine mg_last X hK hw 46 0 [mg_al K qa N (va_up u (a + k) (((cy + (u (a + k))) + ((u (f + k)) * n)) % 268435456))] rfl (by omega) (by omega) d_Mo_addTimes_45 rfl rfl (fun H locs hw => ?_)
      refine mg_lload X 48 d_Mo_addTimes_46 (lv_at hl 0 rfl) rfl ?_
      refine mg_ldc2 X 51 268435456 d_Mo_addTimes_48 cw_Mo_137 rfl rfl ?_
      refine mg_ldiv X 52 d_Mo_addTimes_51 (li_ad_lt (hI.1.1 (a + k) (by omega)) (hI.1.1 (f + k) (by omega)) hI.2.2 hn) (by omega) (by omega) rfl ?_
      refine mg_lstore X 54 [(6, .long (lN (((cy + (u (a + k))) + ((u (f + k)) * n)) / 268435456))), (0, .ref (qa)), (1, .int (nI (a))), (2, .ref (qa)), (3, .int (nI (f))), (4, .long (lN (n))), (8, .int (nI (k)))] d_Mo_addTimes_52 hl (by decide) rfl rfl (fun ls hl => ?_)
      refine mg_iinc X 57 [(8, .int (nI (k + 1))), (6, .long (lN (((cy + (u (a + k))) + ((u (f + k)) * n)) / 268435456))), (0, .ref (qa)), (1, .int (nI (a))), (2, .ref (qa)), (3, .int (nI (f))), (4, .long (lN (n)))] (k + 1) d_Mo_addTimes_54 hl (k := 6) rfl (mg_inc1 _) (by decide) rfl rfl (fun ls hl => ?_)
      refine mg_goto X 6 d_Mo_addTimes_57 (by decide) ?_
      have hl : lv_has ls 9 [(0, .ref (qa)), (1, .int (nI (a))), (2, .ref (qa)), (3, .int (nI (f))), (4, .long (lN (n))), (6, .long (lN (((cy + (u (a + k))) + ((u (f + k)) * n)) / 268435456))), (8, .int (nI (k + 1)))] := lv_sub hl [2, 3, 4, 5, 6, 1, 0] rfl
      exact ih6 _ (by omega) (k + 1) (((cy + (u (a + k))) + ((u (f + k)) * n)) / 268435456) (va_up u (a + k) (((cy + (u (a + k))) + ((u (f + k)) * n)) % 268435456)) rfl (li_adS hI hR.1 (by omega) (by omega) (hI.1.2 (f + k) (by omega) (by omega))) (by omega) ls _ _ hl hw
  have hl : lv_has ls 9 [(0, .ref (qa)), (1, .int (nI (a))), (2, .ref (qa)), (3, .int (nI (f))), (4, .long (lN (n))), (6, .long (lN (0))), (8, .int (nI (0)))] := lv_sub hl [2, 3, 4, 5, 6, 1, 0] rfl
  exact L6 _ 0 0 d rfl (li_ad0 hR.1) (by omega) ls _ _ hl hw

set_option maxRecDepth 100000 in
set_option maxHeartbeats 4000000 in
theorem k_Mo_times (l : Launch) (D : va_G) (K : Nat → ClassId) (qa : Nat) (N : Nat) (a : Nat) (n : Nat) (i : Nat) (d : Nat → Nat) (V : Nat → Nat) (hR : li_R N d V) (hN : N ≤ 2048) (ha : a = 8 * i) (hi : 8 * i + 8 ≤ N) (hn : n < 4294967296) (hl0 : V i * n < 268435456 ^ 8) : mg_Mv l D K y_Mo_times b_Mo_times 7 ({ frames := 0, cells := 0, slots := 0, locals := 0 }) [.ref (qa), .int (nI (a)), .long (lN (n))] [mg_al K qa N d] (fun (u : (Nat → Nat)) => li_R N u (va_up V i (V i * n))) (fun (u : (Nat → Nat)) => [mg_al K qa N u]) := by
  intro sz
  refine mg_entry (Qc := fun A => va_Qv (fun (u : (Nat → Nat)) => li_R N u (va_up V i (V i * n))) (mg_B D A (fun (u : (Nat → Nat)) => [mg_al K qa N u])) A) (by decide) (Nat.le_of_ble_eq_true rfl) ?_
  intro p e s m args below meth c A ls X hr hlk hnm hA hK hw hl
  have hl : lv_has ls 7 [(0, .ref (qa)), (1, .int (nI (a))), (2, .long (lN (n)))] := hl
  refine mg_lconst X 1 0 d_Mo_times_0 rfl rfl ?_
  refine mg_lstore X 3 [(4, .long (lN (0))), (0, .ref (qa)), (1, .int (nI (a))), (2, .long (lN (n)))] d_Mo_times_1 hl (by decide) rfl rfl (fun ls hl => ?_)
  refine mg_iconst X 4 0 d_Mo_times_3 mg_ci_0 rfl ?_
  refine mg_istore X 6 [(6, .int (nI (0))), (4, .long (lN (0))), (0, .ref (qa)), (1, .int (nI (a))), (2, .long (lN (n)))] d_Mo_times_4 hl (by decide) rfl rfl (fun ls hl => ?_)
  have L6 : ∀ (n0 : Nat) (k : Nat) (cy : Nat) (u : Nat → Nat), n0 = 8 - k → (li_muI N a n k cy d u) → (k ≤ 8) → ∀ (ls : Array Slot) (H : Heap) (locs : List Loc), lv_has ls 7 [(0, .ref (qa)), (1, .int (nI (a))), (2, .long (lN (n))), (4, .long (lN (cy))), (6, .int (nI (k)))] → mg_H D A s.heap H locs [mg_al K qa N u] → W p l e ({ frames := 0, cells := 0, slots := 0, locals := 0 }) s m args below meth c H locs 0 0 (MQ below (va_Qv (fun (u : (Nat → Nat)) => li_R N u (va_up V i (V i * n))) (mg_B D A (fun (u : (Nat → Nat)) => [mg_al K qa N u])) A) args s (0) (0) A) (F0 m 6 ls []) := by
    intro n0
    induction n0 using Nat.strongRecOn with
    | ind n0 ih6 =>
    intro k cy u hm6 hI hk ls H locs hl hw
    refine mg_iload X 8 d_Mo_times_6 (lv_at hl 4 rfl) rfl ?_
    refine mg_bipush X 10 8 d_Mo_times_8 mg_cb_8 rfl ?_
    refine mg_icmp_ge X 52 13 (by omega) (by omega) d_Mo_times_10 (by decide) rfl (fun hb => ?_) (fun hb => ?_)
    · -- pc 10 t
      exact mg_vret X hr hlk (u) (by obtain rfl : k = 8 := (by omega); exact li_muF hI hR ha hi hl0) hw d_Mo_times_52
    · -- pc 10 f
      refine mg_lload X 15 d_Mo_times_13 (lv_at hl 3 rfl) rfl ?_
      refine mg_aload_n X 16 d_Mo_times_15 (lv_at hl 0 rfl) rfl ?_
      refine mg_iload_n X 17 d_Mo_times_16 (lv_at hl 1 rfl) rfl ?_
      refine mg_iload X 19 d_Mo_times_17 (lv_at hl 4 rfl) rfl ?_
      refine mg_iadd X 20 (nI (a + k)) d_Mo_times_19 (nI_add _ _) rfl ?_
      refine mg_lald X hK hw 21 0 rfl (by omega) (by omega) d_Mo_times_20 rfl ?_
      refine mg_lload_n X 22 d_Mo_times_21 (lv_at hl 2 rfl) rfl ?_
      refine mg_lmul X 23 (lN ((u (a + k)) * n)) d_Mo_times_22 (lN_mul _ _) rfl ?_
      refine mg_ladd X 24 (lN (cy + ((u (a + k)) * n))) d_Mo_times_23 (lN_add _ _) rfl ?_
      refine mg_lstore X 26 [(4, .long (lN (cy + ((u (a + k)) * n)))), (0, .ref (qa)), (1, .int (nI (a))), (2, .long (lN (n))), (6, .int (nI (k)))] d_Mo_times_24 hl (by decide) rfl rfl (fun ls hl => ?_)
      refine mg_aload_n X 27 d_Mo_times_26 (lv_at hl 1 rfl) rfl ?_
      refine mg_iload_n X 28 d_Mo_times_27 (lv_at hl 2 rfl) rfl ?_
      refine mg_iload X 30 d_Mo_times_28 (lv_at hl 4 rfl) rfl ?_
      refine mg_iadd X 31 (nI (a + k)) d_Mo_times_30 (nI_add _ _) rfl ?_
      refine mg_lload X 33 d_Mo_times_31 (lv_at hl 0 rfl) rfl ?_
      refine mg_ldc2 X 36 268435456 d_Mo_times_33 cw_Mo_137 rfl rfl ?_
      refine mg_lrem X 37 d_Mo_times_36 (li_mu_lt (hI.1.1 (a + k) (by omega)) hI.2.2 hn) (by omega) (by omega) rfl ?_
      refine mg_last X hK hw 38 0 [mg_al K qa N (va_up u (a + k) ((cy + ((u (a + k)) * n)) % 268435456))] rfl (by omega) (by omega) d_Mo_times_37 rfl rfl (fun H locs hw => ?_)
      refine mg_lload X 40 d_Mo_times_38 (lv_at hl 0 rfl) rfl ?_
      refine mg_ldc2 X 43 268435456 d_Mo_times_40 cw_Mo_137 rfl rfl ?_
      refine mg_ldiv X 44 d_Mo_times_43 (li_mu_lt (hI.1.1 (a + k) (by omega)) hI.2.2 hn) (by omega) (by omega) rfl ?_
      refine mg_lstore X 46 [(4, .long (lN ((cy + ((u (a + k)) * n)) / 268435456))), (0, .ref (qa)), (1, .int (nI (a))), (2, .long (lN (n))), (6, .int (nI (k)))] d_Mo_times_44 hl (by decide) rfl rfl (fun ls hl => ?_)
      refine mg_iinc X 49 [(6, .int (nI (k + 1))), (4, .long (lN ((cy + ((u (a + k)) * n)) / 268435456))), (0, .ref (qa)), (1, .int (nI (a))), (2, .long (lN (n)))] (k + 1) d_Mo_times_46 hl (k := 4) rfl (mg_inc1 _) (by decide) rfl rfl (fun ls hl => ?_)
      refine mg_goto X 6 d_Mo_times_49 (by decide) ?_
      have hl : lv_has ls 7 [(0, .ref (qa)), (1, .int (nI (a))), (2, .long (lN (n))), (4, .long (lN ((cy + ((u (a + k)) * n)) / 268435456))), (6, .int (nI (k + 1)))] := lv_sub hl [2, 3, 4, 1, 0] rfl
      exact ih6 _ (by omega) (k + 1) ((cy + ((u (a + k)) * n)) / 268435456) (va_up u (a + k) ((cy + ((u (a + k)) * n)) % 268435456)) rfl (li_muS hI (by omega)) (by omega) ls _ _ hl hw
  have hl : lv_has ls 7 [(0, .ref (qa)), (1, .int (nI (a))), (2, .long (lN (n))), (4, .long (lN (0))), (6, .int (nI (0)))] := lv_sub hl [2, 3, 4, 1, 0] rfl
  exact L6 _ 0 0 d rfl (li_mu0 hR.1) (by omega) ls _ _ hl hw

set_option maxRecDepth 100000 in
set_option maxHeartbeats 4000000 in
theorem k_Mo_compare (l : Launch) (D : va_G) (K : Nat → ClassId) (qa : Nat) (qb : Nat) (N : Nat) (N2 : Nat) (a : Nat) (f : Nat) (i : Nat) (j : Nat) (d : Nat → Nat) (V : Nat → Nat) (d2 : Nat → Nat) (V2 : Nat → Nat) (hR : li_R N d V) (hR2 : li_R N2 d2 V2) (hN : N ≤ 2048) (hN2 : N2 ≤ 2048) (ha : a = 8 * i) (hf : f = 8 * j) (hi : 8 * i + 8 ≤ N) (hj : 8 * j + 8 ≤ N2) : mg_Mi l D K y_Mo_compare b_Mo_compare 6 (.int) ({ frames := 0, cells := 0, slots := 0, locals := 0 }) [.ref (qa), .int (nI (a)), .ref (qb), .int (nI (f))] [mg_al K qa N d, mg_al K qb N2 d2] (fun (r : Int32) (_ : Unit) => r = nI (mg_cmp (V i) (V2 j))) (fun (_ : Unit) => [mg_al K qa N d, mg_al K qb N2 d2]) := by
  intro sz
  refine mg_entry (Qc := fun A => va_Qi (fun (r : Int32) (_ : Unit) => r = nI (mg_cmp (V i) (V2 j))) (mg_B D A (fun (_ : Unit) => [mg_al K qa N d, mg_al K qb N2 d2])) A) (by decide) (Nat.le_of_ble_eq_true rfl) ?_
  intro p e s m args below meth c A ls X hr hlk hnm hA hK hw hl
  have hl : lv_has ls 6 [(0, .ref (qa)), (1, .int (nI (a))), (2, .ref (qb)), (3, .int (nI (f)))] := hl
  refine mg_iconst X 1 0 d_Mo_compare_0 mg_ci_0 rfl ?_
  refine mg_istore X 3 [(4, .int (nI (0))), (0, .ref (qa)), (1, .int (nI (a))), (2, .ref (qb)), (3, .int (nI (f)))] d_Mo_compare_1 hl (by decide) rfl rfl (fun ls hl => ?_)
  refine mg_iconst X 4 0 d_Mo_compare_3 mg_ci_0 rfl ?_
  refine mg_istore X 6 [(5, .int (nI (0))), (4, .int (nI (0))), (0, .ref (qa)), (1, .int (nI (a))), (2, .ref (qb)), (3, .int (nI (f)))] d_Mo_compare_4 hl (by decide) rfl rfl (fun ls hl => ?_)
  have L6 : ∀ (n0 : Nat) (k : Nat) (x : Nat), n0 = 8 - k → (x = mg_cmp (nb_val 268435456 d a k) (nb_val 268435456 d2 f k)) → (k ≤ 8) → ∀ (ls : Array Slot) (H : Heap) (locs : List Loc), lv_has ls 6 [(0, .ref (qa)), (1, .int (nI (a))), (2, .ref (qb)), (3, .int (nI (f))), (4, .int (nI (x))), (5, .int (nI (k)))] → mg_H D A s.heap H locs [mg_al K qa N d, mg_al K qb N2 d2] → W p l e ({ frames := 0, cells := 0, slots := 0, locals := 0 }) s m args below meth c H locs 0 0 (MQ below (va_Qi (fun (r : Int32) (_ : Unit) => r = nI (mg_cmp (V i) (V2 j))) (mg_B D A (fun (_ : Unit) => [mg_al K qa N d, mg_al K qb N2 d2])) A) args s (0) (0) A) (F0 m 6 ls []) := by
    intro n0
    induction n0 using Nat.strongRecOn with
    | ind n0 ih6 =>
    intro k x hm6 hx hk ls H locs hl hw
    refine mg_iload X 8 d_Mo_compare_6 (lv_at hl 5 rfl) rfl ?_
    refine mg_bipush X 10 8 d_Mo_compare_8 mg_cb_8 rfl ?_
    refine mg_icmp_ge X 63 13 (by omega) (by omega) d_Mo_compare_10 (by decide) rfl (fun hb => ?_) (fun hb => ?_)
    · -- pc 10 t
      refine mg_iload X 65 d_Mo_compare_63 (lv_at hl 4 rfl) rfl ?_
      exact mg_iret X hr hlk (rfl) (()) (by subst ha; subst hf; rw [hx, show k = 8 by omega, hR.2 i hi, hR2.2 j hj]) hw d_Mo_compare_65
    · -- pc 10 f
      refine mg_aload_n X 14 d_Mo_compare_13 (lv_at hl 0 rfl) rfl ?_
      refine mg_iload_n X 15 d_Mo_compare_14 (lv_at hl 1 rfl) rfl ?_
      refine mg_iload X 17 d_Mo_compare_15 (lv_at hl 5 rfl) rfl ?_
      refine mg_iadd X 18 (nI (a + k)) d_Mo_compare_17 (nI_add _ _) rfl ?_
      refine mg_lald X hK hw 19 0 rfl (by omega) (by omega) d_Mo_compare_18 rfl ?_
      refine mg_aload_n X 20 d_Mo_compare_19 (lv_at hl 2 rfl) rfl ?_
      refine mg_iload_n X 21 d_Mo_compare_20 (lv_at hl 3 rfl) rfl ?_
      refine mg_iload X 23 d_Mo_compare_21 (lv_at hl 5 rfl) rfl ?_
      refine mg_iadd X 24 (nI (f + k)) d_Mo_compare_23 (nI_add _ _) rfl ?_
      refine mg_lald X hK hw 25 1 rfl (by omega) (by omega) d_Mo_compare_24 rfl ?_
      refine mg_lcmp_ge X 33 29 (by have := hR.1 (a + k) (by omega); omega) (by have := hR2.1 (f + k) (by omega); omega) d_Mo_compare_25 d_Mo_compare_26 (by decide) rfl (fun h1 => ?_) (fun h1 => ?_)
      · -- pc 25 t
        refine mg_aload_n X 34 d_Mo_compare_33 (lv_at hl 0 rfl) rfl ?_
        refine mg_iload_n X 35 d_Mo_compare_34 (lv_at hl 1 rfl) rfl ?_
        refine mg_iload X 37 d_Mo_compare_35 (lv_at hl 5 rfl) rfl ?_
        refine mg_iadd X 38 (nI (a + k)) d_Mo_compare_37 (nI_add _ _) rfl ?_
        refine mg_lald X hK hw 39 0 rfl (by omega) (by omega) d_Mo_compare_38 rfl ?_
        refine mg_aload_n X 40 d_Mo_compare_39 (lv_at hl 2 rfl) rfl ?_
        refine mg_iload_n X 41 d_Mo_compare_40 (lv_at hl 3 rfl) rfl ?_
        refine mg_iload X 43 d_Mo_compare_41 (lv_at hl 5 rfl) rfl ?_
        refine mg_iadd X 44 (nI (f + k)) d_Mo_compare_43 (nI_add _ _) rfl ?_
        refine mg_lald X hK hw 45 1 rfl (by omega) (by omega) d_Mo_compare_44 rfl ?_
        refine mg_lcmp_le X 53 49 (by have := hR.1 (a + k) (by omega); omega) (by have := hR2.1 (f + k) (by omega); omega) d_Mo_compare_45 d_Mo_compare_46 (by decide) rfl (fun h2 => ?_) (fun h2 => ?_)
        · -- pc 45 t
          refine mg_iload X 55 d_Mo_compare_53 (lv_at hl 4 rfl) rfl ?_
          refine mg_istore X 57 [(4, .int (nI (x))), (0, .ref (qa)), (1, .int (nI (a))), (2, .ref (qb)), (3, .int (nI (f))), (5, .int (nI (k)))] d_Mo_compare_55 hl (by decide) rfl rfl (fun ls hl => ?_)
          refine mg_iinc X 60 [(5, .int (nI (k + 1))), (4, .int (nI (x))), (0, .ref (qa)), (1, .int (nI (a))), (2, .ref (qb)), (3, .int (nI (f)))] (k + 1) d_Mo_compare_57 hl (k := 5) rfl (mg_inc1 _) (by decide) rfl rfl (fun ls hl => ?_)
          refine mg_goto X 6 d_Mo_compare_60 (by decide) ?_
          have hl : lv_has ls 6 [(0, .ref (qa)), (1, .int (nI (a))), (2, .ref (qb)), (3, .int (nI (f))), (4, .int (nI (x))), (5, .int (nI (k + 1)))] := lv_sub hl [2, 3, 4, 5, 1, 0] rfl
          exact ih6 _ (by omega) (k + 1) x rfl (hx.trans (li_ceq (by omega)).symm) (by omega) ls _ _ hl hw
        · -- pc 45 f
          refine mg_iconst X 50 1 d_Mo_compare_49 mg_ci_1 rfl ?_
          refine mg_goto X 55 d_Mo_compare_50 (by decide) ?_
          refine mg_istore X 57 [(4, .int (nI (1))), (0, .ref (qa)), (1, .int (nI (a))), (2, .ref (qb)), (3, .int (nI (f))), (5, .int (nI (k)))] d_Mo_compare_55 hl (by decide) rfl rfl (fun ls hl => ?_)
          refine mg_iinc X 60 [(5, .int (nI (k + 1))), (4, .int (nI (1))), (0, .ref (qa)), (1, .int (nI (a))), (2, .ref (qb)), (3, .int (nI (f)))] (k + 1) d_Mo_compare_57 hl (k := 5) rfl (mg_inc1 _) (by decide) rfl rfl (fun ls hl => ?_)
          refine mg_goto X 6 d_Mo_compare_60 (by decide) ?_
          have hl : lv_has ls 6 [(0, .ref (qa)), (1, .int (nI (a))), (2, .ref (qb)), (3, .int (nI (f))), (4, .int (nI (1))), (5, .int (nI (k + 1)))] := lv_sub hl [2, 3, 4, 5, 1, 0] rfl
          exact ih6 _ (by omega) (k + 1) 1 rfl ((li_cgt (show li_cp N N2 a f d d2 (k + 1) from ⟨hR.1, hR2.1, by omega, by omega⟩) h2).symm) (by omega) ls _ _ hl hw
      · -- pc 25 f
        refine mg_iconst X 30 4294967295 d_Mo_compare_29 mg_ci_m1 rfl ?_
        refine mg_goto X 55 d_Mo_compare_30 (by decide) ?_
        refine mg_istore X 57 [(4, .int (nI (4294967295))), (0, .ref (qa)), (1, .int (nI (a))), (2, .ref (qb)), (3, .int (nI (f))), (5, .int (nI (k)))] d_Mo_compare_55 hl (by decide) rfl rfl (fun ls hl => ?_)
        refine mg_iinc X 60 [(5, .int (nI (k + 1))), (4, .int (nI (4294967295))), (0, .ref (qa)), (1, .int (nI (a))), (2, .ref (qb)), (3, .int (nI (f)))] (k + 1) d_Mo_compare_57 hl (k := 5) rfl (mg_inc1 _) (by decide) rfl rfl (fun ls hl => ?_)
        refine mg_goto X 6 d_Mo_compare_60 (by decide) ?_
        have hl : lv_has ls 6 [(0, .ref (qa)), (1, .int (nI (a))), (2, .ref (qb)), (3, .int (nI (f))), (4, .int (nI (4294967295))), (5, .int (nI (k + 1)))] := lv_sub hl [2, 3, 4, 5, 1, 0] rfl
        exact ih6 _ (by omega) (k + 1) 4294967295 rfl ((li_clt (show li_cp N N2 a f d d2 (k + 1) from ⟨hR.1, hR2.1, by omega, by omega⟩) h1).symm) (by omega) ls _ _ hl hw
  have hl : lv_has ls 6 [(0, .ref (qa)), (1, .int (nI (a))), (2, .ref (qb)), (3, .int (nI (f))), (4, .int (nI (0))), (5, .int (nI (0)))] := lv_sub hl [2, 3, 4, 5, 1, 0] rfl
  exact L6 _ 0 0 rfl (rfl) (by omega) ls _ _ hl hw

set_option maxRecDepth 100000 in
set_option maxHeartbeats 4000000 in
theorem k_Mo_isNothing (l : Launch) (D : va_G) (K : Nat → ClassId) (qa : Nat) (N : Nat) (d : Nat → Nat) (V : Nat → Nat) (hR : li_R N d V) (hN : N ≤ 2048) (hN8 : 8 ≤ N) : mg_Mi l D K y_Mo_isNothing b_Mo_isNothing 3 (.boolean) ({ frames := 0, cells := 0, slots := 0, locals := 0 }) [.ref (qa)] [mg_al K qa N d] (fun (r : Int32) (_ : Unit) => r = nI (ft_c (V 0 = 0))) (fun (_ : Unit) => [mg_al K qa N d]) := by
  intro sz
  refine mg_entry (Qc := fun A => va_Qi (fun (r : Int32) (_ : Unit) => r = nI (ft_c (V 0 = 0))) (mg_B D A (fun (_ : Unit) => [mg_al K qa N d])) A) (by decide) (Nat.le_of_ble_eq_true rfl) ?_
  intro p e s m args below meth c A ls X hr hlk hnm hA hK hw hl
  have hl : lv_has ls 3 [(0, .ref (qa))] := hl
  refine mg_iconst X 1 1 d_Mo_isNothing_0 mg_ci_1 rfl ?_
  refine mg_istore_n X 2 [(1, .int (nI (1))), (0, .ref (qa))] d_Mo_isNothing_1 hl (by decide) rfl rfl (fun ls hl => ?_)
  refine mg_iconst X 3 0 d_Mo_isNothing_2 mg_ci_0 rfl ?_
  refine mg_istore_n X 4 [(2, .int (nI (0))), (1, .int (nI (1))), (0, .ref (qa))] d_Mo_isNothing_3 hl (by decide) rfl rfl (fun ls hl => ?_)
  have L4 : ∀ (n0 : Nat) (k : Nat) (x : Nat), n0 = 8 - k → (x = ft_c (nb_val 268435456 d 0 k = 0)) → (k ≤ 8) → ∀ (ls : Array Slot) (H : Heap) (locs : List Loc), lv_has ls 3 [(0, .ref (qa)), (1, .int (nI (x))), (2, .int (nI (k)))] → mg_H D A s.heap H locs [mg_al K qa N d] → W p l e ({ frames := 0, cells := 0, slots := 0, locals := 0 }) s m args below meth c H locs 0 0 (MQ below (va_Qi (fun (r : Int32) (_ : Unit) => r = nI (ft_c (V 0 = 0))) (mg_B D A (fun (_ : Unit) => [mg_al K qa N d])) A) args s (0) (0) A) (F0 m 4 ls []) := by
    intro n0
    induction n0 using Nat.strongRecOn with
    | ind n0 ih4 =>
    intro k x hm4 hx hk ls H locs hl hw
    have hx2 : x < 2 := by rw [hx]; exact mg_ft1 _
    refine mg_iload_n X 5 d_Mo_isNothing_4 (lv_at hl 2 rfl) rfl ?_
    refine mg_bipush X 7 8 d_Mo_isNothing_5 mg_cb_8 rfl ?_
    refine mg_icmp_ge X 34 10 (by omega) (by omega) d_Mo_isNothing_7 (by decide) rfl (fun hb => ?_) (fun hb => ?_)
    · -- pc 7 t
      refine mg_iload_n X 35 d_Mo_isNothing_34 (lv_at hl 1 rfl) rfl ?_
      exact mg_iret X hr hlk (mg_nz (by omega)) (()) (by rw [hx, show k = 8 by omega, ← hR.2 0 (by omega)]) hw d_Mo_isNothing_35
    · -- pc 7 f
      refine mg_iload_n X 11 d_Mo_isNothing_10 (lv_at hl 1 rfl) rfl ?_
      refine mg_if_eq X 26 14 (by omega) d_Mo_isNothing_11 (by decide) rfl (fun hx0 => ?_) (fun hx0 => ?_)
      · -- pc 11 t
        refine mg_iconst X 27 0 d_Mo_isNothing_26 mg_ci_0 rfl ?_
        refine mg_istore_n X 28 [(1, .int (nI (0))), (0, .ref (qa)), (2, .int (nI (k)))] d_Mo_isNothing_27 hl (by decide) rfl rfl (fun ls hl => ?_)
        refine mg_iinc X 31 [(2, .int (nI (k + 1))), (1, .int (nI (0))), (0, .ref (qa))] (k + 1) d_Mo_isNothing_28 hl (k := 2) rfl (mg_inc1 _) (by decide) rfl rfl (fun ls hl => ?_)
        refine mg_goto X 4 d_Mo_isNothing_31 (by decide) ?_
        have hl : lv_has ls 3 [(0, .ref (qa)), (1, .int (nI (0))), (2, .int (nI (k + 1)))] := lv_sub hl [2, 1, 0] rfl
        exact ih4 _ (by omega) (k + 1) 0 rfl ((ft_c0 (fun q => absurd (hx.trans (ft_c1 (li_z.mp q).1)) (by omega))).symm) (by omega) ls _ _ hl hw
      · -- pc 11 f
        refine mg_aload_n X 15 d_Mo_isNothing_14 (lv_at hl 0 rfl) rfl ?_
        refine mg_iload_n X 16 d_Mo_isNothing_15 (lv_at hl 2 rfl) rfl ?_
        refine mg_lald X hK hw 17 0 rfl (by omega) (by omega) d_Mo_isNothing_16 rfl ?_
        refine mg_lconst X 18 0 d_Mo_isNothing_17 rfl rfl ?_
        refine mg_lcmp_ne X 26 22 (by have := hR.1 k (by omega); omega) (by omega) d_Mo_isNothing_18 d_Mo_isNothing_19 (by decide) rfl (fun hz => ?_) (fun hz => ?_)
        · -- pc 18 t
          refine mg_iconst X 27 0 d_Mo_isNothing_26 mg_ci_0 rfl ?_
          refine mg_istore_n X 28 [(1, .int (nI (0))), (0, .ref (qa)), (2, .int (nI (k)))] d_Mo_isNothing_27 hl (by decide) rfl rfl (fun ls hl => ?_)
          refine mg_iinc X 31 [(2, .int (nI (k + 1))), (1, .int (nI (0))), (0, .ref (qa))] (k + 1) d_Mo_isNothing_28 hl (k := 2) rfl (mg_inc1 _) (by decide) rfl rfl (fun ls hl => ?_)
          refine mg_goto X 4 d_Mo_isNothing_31 (by decide) ?_
          have hl : lv_has ls 3 [(0, .ref (qa)), (1, .int (nI (0))), (2, .int (nI (k + 1)))] := lv_sub hl [2, 1, 0] rfl
          exact ih4 _ (by omega) (k + 1) 0 rfl ((ft_c0 (fun q => hz (li_z.mp q).2)).symm) (by omega) ls _ _ hl hw
        · -- pc 18 f
          refine mg_iconst X 23 1 d_Mo_isNothing_22 mg_ci_1 rfl ?_
          refine mg_goto X 27 d_Mo_isNothing_23 (by decide) ?_
          refine mg_istore_n X 28 [(1, .int (nI (1))), (0, .ref (qa)), (2, .int (nI (k)))] d_Mo_isNothing_27 hl (by decide) rfl rfl (fun ls hl => ?_)
          refine mg_iinc X 31 [(2, .int (nI (k + 1))), (1, .int (nI (1))), (0, .ref (qa))] (k + 1) d_Mo_isNothing_28 hl (k := 2) rfl (mg_inc1 _) (by decide) rfl rfl (fun ls hl => ?_)
          refine mg_goto X 4 d_Mo_isNothing_31 (by decide) ?_
          have hl : lv_has ls 3 [(0, .ref (qa)), (1, .int (nI (1))), (2, .int (nI (k + 1)))] := lv_sub hl [2, 1, 0] rfl
          exact ih4 _ (by omega) (k + 1) 1 rfl ((ft_c1 (li_z.mpr ⟨Classical.not_not.mp (fun q => hx0 (hx.trans (ft_c0 q))), hz⟩)).symm) (by omega) ls _ _ hl hw
  have hl : lv_has ls 3 [(0, .ref (qa)), (1, .int (nI (1))), (2, .int (nI (0)))] := lv_sub hl [2, 1, 0] rfl
  exact L4 _ 0 1 rfl ((ft_c1 rfl).symm) (by omega) ls _ _ hl hw

set_option maxRecDepth 100000 in
set_option maxHeartbeats 4000000 in
theorem k_Mo_multiply (l : Launch) (D : va_G) (K : Nat → ClassId) (mh : Nat) (qor : Nat) (qfa : Nat) (qmo : Nat) (qwt : Nat) (qrt : Nat) (qnw : Nat) (qsn : Nat) (qlt : Nat) (qkn : Nat) (qft : Nat) (qbf : Nat) (qbh : Nat) (qjt : Nat) (qot : Nat) (qsm : Nat) (qpt : Nat) (qpr : Nat) (qch : Nat) (qbt : Nat) (qpg : Nat) (flt : Nat) (np : Nat) (nf : Nat) (nc : Nat) (nm : Nat) (wr : Nat) (qa : Nat) (qb : Nat) (N : Nat) (N2 : Nat) (a : Nat) (f : Nat) (i : Nat) (j : Nat) (dQ : Nat → Nat) (VQ : Nat → Nat) (d : Nat → Nat) (V : Nat → Nat) (d2 : Nat → Nat) (V2 : Nat → Nat) (hRQ : li_R 17 dQ VQ) (hR : li_R N d V) (hR2 : li_R N2 d2 V2) (hN : N ≤ 2048) (hN2 : N2 ≤ 2048) (ha : a = 8 * i) (hf : f = 8 * j) (hi : 8 * i + 8 ≤ N) (hj : 8 * j + 8 ≤ N2) (hl0 : V i * V2 j < 268435456 ^ 8) : mg_Mv l D K y_Mo_multiply b_Mo_multiply 9 ({ frames := 0, cells := 0, slots := 0, locals := 0 }) [.ref (mh), .ref (qa), .int (nI (a)), .ref (qb), .int (nI (f))] [mg_ob mh 6 [.int (nI (flt)), .int (nI (np)), .int (nI (nf)), .int (nI (nc)), .ref (qor), .ref (qfa), .ref (qmo), .int (nI (nm)), .ref (qwt), .ref (qrt), .ref (qnw), .ref (qsn), .ref (qlt), .ref (qkn), .ref (qft), .ref (qbf), .ref (qbh), .ref (qjt), .ref (qot), .ref (qsm), .ref (qpt), .ref (qpr), .ref (qch), .ref (qbt), .int (nI (wr)), .ref (qpg)], mg_al K qpr 17 dQ, mg_al K qa N d, mg_al K qb N2 d2] (fun (u : (Nat → Nat)) => li_R 17 u (mo_pr u (V i * V2 j))) (fun (u : (Nat → Nat)) => [mg_ob mh 6 [.int (nI (flt)), .int (nI (np)), .int (nI (nf)), .int (nI (nc)), .ref (qor), .ref (qfa), .ref (qmo), .int (nI (nm)), .ref (qwt), .ref (qrt), .ref (qnw), .ref (qsn), .ref (qlt), .ref (qkn), .ref (qft), .ref (qbf), .ref (qbh), .ref (qjt), .ref (qot), .ref (qsm), .ref (qpt), .ref (qpr), .ref (qch), .ref (qbt), .int (nI (wr)), .ref (qpg)], mg_al K qpr 17 u, mg_al K qa N d, mg_al K qb N2 d2]) := by
  intro sz
  refine mg_entry (Qc := fun A => va_Qv (fun (u : (Nat → Nat)) => li_R 17 u (mo_pr u (V i * V2 j))) (mg_B D A (fun (u : (Nat → Nat)) => [mg_ob mh 6 [.int (nI (flt)), .int (nI (np)), .int (nI (nf)), .int (nI (nc)), .ref (qor), .ref (qfa), .ref (qmo), .int (nI (nm)), .ref (qwt), .ref (qrt), .ref (qnw), .ref (qsn), .ref (qlt), .ref (qkn), .ref (qft), .ref (qbf), .ref (qbh), .ref (qjt), .ref (qot), .ref (qsm), .ref (qpt), .ref (qpr), .ref (qch), .ref (qbt), .int (nI (wr)), .ref (qpg)], mg_al K qpr 17 u, mg_al K qa N d, mg_al K qb N2 d2])) A) (by decide) (Nat.le_of_ble_eq_true rfl) ?_
  intro p e s m args below meth c A ls X hr hlk hnm hA hK hw hl
  have hl : lv_has ls 9 [(0, .ref (mh)), (1, .ref (qa)), (2, .int (nI (a))), (3, .ref (qb)), (4, .int (nI (f)))] := hl
  refine mg_iconst X 1 0 d_Mo_multiply_0 mg_ci_0 rfl ?_
  refine mg_istore X 3 [(5, .int (nI (0))), (0, .ref (mh)), (1, .ref (qa)), (2, .int (nI (a))), (3, .ref (qb)), (4, .int (nI (f)))] d_Mo_multiply_1 hl (by decide) rfl rfl (fun ls hl => ?_)
  have L3 : ∀ (n0 : Nat) (k : Nat) (u : Nat → Nat), n0 = 17 - k → (∀ q, q < k → u q = 0) → (k ≤ 17) → ∀ (ls : Array Slot) (H : Heap) (locs : List Loc), lv_has ls 9 [(0, .ref (mh)), (1, .ref (qa)), (2, .int (nI (a))), (3, .ref (qb)), (4, .int (nI (f))), (5, .int (nI (k)))] → mg_H D A s.heap H locs [mg_ob mh 6 [.int (nI (flt)), .int (nI (np)), .int (nI (nf)), .int (nI (nc)), .ref (qor), .ref (qfa), .ref (qmo), .int (nI (nm)), .ref (qwt), .ref (qrt), .ref (qnw), .ref (qsn), .ref (qlt), .ref (qkn), .ref (qft), .ref (qbf), .ref (qbh), .ref (qjt), .ref (qot), .ref (qsm), .ref (qpt), .ref (qpr), .ref (qch), .ref (qbt), .int (nI (wr)), .ref (qpg)], mg_al K qpr 17 u, mg_al K qa N d, mg_al K qb N2 d2] → W p l e ({ frames := 0, cells := 0, slots := 0, locals := 0 }) s m args below meth c H locs 0 0 (MQ below (va_Qv (fun (u : (Nat → Nat)) => li_R 17 u (mo_pr u (V i * V2 j))) (mg_B D A (fun (u : (Nat → Nat)) => [mg_ob mh 6 [.int (nI (flt)), .int (nI (np)), .int (nI (nf)), .int (nI (nc)), .ref (qor), .ref (qfa), .ref (qmo), .int (nI (nm)), .ref (qwt), .ref (qrt), .ref (qnw), .ref (qsn), .ref (qlt), .ref (qkn), .ref (qft), .ref (qbf), .ref (qbh), .ref (qjt), .ref (qot), .ref (qsm), .ref (qpt), .ref (qpr), .ref (qch), .ref (qbt), .int (nI (wr)), .ref (qpg)], mg_al K qpr 17 u, mg_al K qa N d, mg_al K qb N2 d2])) A) args s (0) (0) A) (F0 m 3 ls []) := by
    intro n0
    induction n0 using Nat.strongRecOn with
    | ind n0 ih3 =>
    intro k u hm3 hz hk ls H locs hl hw
    refine mg_iload X 5 d_Mo_multiply_3 (lv_at hl 5 rfl) rfl ?_
    refine mg_bipush X 7 17 d_Mo_multiply_5 mg_cb_17 rfl ?_
    refine mg_icmp_ge X 24 10 (by omega) (by omega) d_Mo_multiply_7 (by decide) rfl (fun hb => ?_) (fun hb => ?_)
    · -- pc 7 t
      refine mg_iconst X 25 0 d_Mo_multiply_24 mg_ci_0 rfl ?_
      refine mg_istore X 27 [(5, .int (nI (0))), (0, .ref (mh)), (1, .ref (qa)), (2, .int (nI (a))), (3, .ref (qb)), (4, .int (nI (f)))] d_Mo_multiply_25 hl (by decide) rfl rfl (fun ls hl => ?_)
      have L27 : ∀ (n0 : Nat) (i1 : Nat) (u1 : Nat → Nat), n0 = 8 - i1 → (li_prO i1 a f u1 d d2) → (i1 ≤ 8) → ∀ (ls : Array Slot) (H : Heap) (locs : List Loc), lv_has ls 9 [(0, .ref (mh)), (1, .ref (qa)), (2, .int (nI (a))), (3, .ref (qb)), (4, .int (nI (f))), (5, .int (nI (i1)))] → mg_H D A s.heap H locs [mg_ob mh 6 [.int (nI (flt)), .int (nI (np)), .int (nI (nf)), .int (nI (nc)), .ref (qor), .ref (qfa), .ref (qmo), .int (nI (nm)), .ref (qwt), .ref (qrt), .ref (qnw), .ref (qsn), .ref (qlt), .ref (qkn), .ref (qft), .ref (qbf), .ref (qbh), .ref (qjt), .ref (qot), .ref (qsm), .ref (qpt), .ref (qpr), .ref (qch), .ref (qbt), .int (nI (wr)), .ref (qpg)], mg_al K qpr 17 u1, mg_al K qa N d, mg_al K qb N2 d2] → W p l e ({ frames := 0, cells := 0, slots := 0, locals := 0 }) s m args below meth c H locs 0 0 (MQ below (va_Qv (fun (u : (Nat → Nat)) => li_R 17 u (mo_pr u (V i * V2 j))) (mg_B D A (fun (u : (Nat → Nat)) => [mg_ob mh 6 [.int (nI (flt)), .int (nI (np)), .int (nI (nf)), .int (nI (nc)), .ref (qor), .ref (qfa), .ref (qmo), .int (nI (nm)), .ref (qwt), .ref (qrt), .ref (qnw), .ref (qsn), .ref (qlt), .ref (qkn), .ref (qft), .ref (qbf), .ref (qbh), .ref (qjt), .ref (qot), .ref (qsm), .ref (qpt), .ref (qpr), .ref (qch), .ref (qbt), .int (nI (wr)), .ref (qpg)], mg_al K qpr 17 u, mg_al K qa N d, mg_al K qb N2 d2])) A) args s (0) (0) A) (F0 m 27 ls []) := by
        intro n0
        induction n0 using Nat.strongRecOn with
        | ind n0 ih27 =>
        intro i1 u1 hm27 hO hi1 ls H locs hl hw
        refine mg_iload X 29 d_Mo_multiply_27 (lv_at hl 5 rfl) rfl ?_
        refine mg_bipush X 31 8 d_Mo_multiply_29 mg_cb_8 rfl ?_
        refine mg_icmp_ge X 125 34 (by omega) (by omega) d_Mo_multiply_31 (by decide) rfl (fun hb1 => ?_) (fun hb1 => ?_)
        · -- pc 31 t
          exact mg_vret X hr hlk (u1) (by obtain rfl : i1 = 8 := (by omega); exact li_prF hO hR hR2 ha hf hi hj hl0) hw d_Mo_multiply_125
        · -- pc 31 f
          refine mg_lconst X 35 0 d_Mo_multiply_34 rfl rfl ?_
          refine mg_lstore X 37 [(6, .long (lN (0))), (0, .ref (mh)), (1, .ref (qa)), (2, .int (nI (a))), (3, .ref (qb)), (4, .int (nI (f))), (5, .int (nI (i1)))] d_Mo_multiply_35 hl (by decide) rfl rfl (fun ls hl => ?_)
          refine mg_iconst X 38 0 d_Mo_multiply_37 mg_ci_0 rfl ?_
          refine mg_istore X 40 [(8, .int (nI (0))), (6, .long (lN (0))), (0, .ref (mh)), (1, .ref (qa)), (2, .int (nI (a))), (3, .ref (qb)), (4, .int (nI (f))), (5, .int (nI (i1)))] d_Mo_multiply_38 hl (by decide) rfl rfl (fun ls hl => ?_)
          have L40 : ∀ (n0 : Nat) (j1 : Nat) (cy : Nat) (u2 : Nat → Nat), n0 = 8 - j1 → (li_prI i1 j1 cy a f u1 u2 d d2) → (j1 ≤ 8) → ∀ (ls : Array Slot) (H : Heap) (locs : List Loc), lv_has ls 9 [(0, .ref (mh)), (1, .ref (qa)), (2, .int (nI (a))), (3, .ref (qb)), (4, .int (nI (f))), (5, .int (nI (i1))), (6, .long (lN (cy))), (8, .int (nI (j1)))] → mg_H D A s.heap H locs [mg_ob mh 6 [.int (nI (flt)), .int (nI (np)), .int (nI (nf)), .int (nI (nc)), .ref (qor), .ref (qfa), .ref (qmo), .int (nI (nm)), .ref (qwt), .ref (qrt), .ref (qnw), .ref (qsn), .ref (qlt), .ref (qkn), .ref (qft), .ref (qbf), .ref (qbh), .ref (qjt), .ref (qot), .ref (qsm), .ref (qpt), .ref (qpr), .ref (qch), .ref (qbt), .int (nI (wr)), .ref (qpg)], mg_al K qpr 17 u2, mg_al K qa N d, mg_al K qb N2 d2] → W p l e ({ frames := 0, cells := 0, slots := 0, locals := 0 }) s m args below meth c H locs 0 0 (MQ below (va_Qv (fun (u : (Nat → Nat)) => li_R 17 u (mo_pr u (V i * V2 j))) (mg_B D A (fun (u : (Nat → Nat)) => [mg_ob mh 6 [.int (nI (flt)), .int (nI (np)), .int (nI (nf)), .int (nI (nc)), .ref (qor), .ref (qfa), .ref (qmo), .int (nI (nm)), .ref (qwt), .ref (qrt), .ref (qnw), .ref (qsn), .ref (qlt), .ref (qkn), .ref (qft), .ref (qbf), .ref (qbh), .ref (qjt), .ref (qot), .ref (qsm), .ref (qpt), .ref (qpr), .ref (qch), .ref (qbt), .int (nI (wr)), .ref (qpg)], mg_al K qpr 17 u, mg_al K qa N d, mg_al K qb N2 d2])) A) args s (0) (0) A) (F0 m 40 ls []) := by
            intro n0
            induction n0 using Nat.strongRecOn with
            | ind n0 ih40 =>
            intro j1 cy u2 hm40 hI hj1 ls H locs hl hw
            refine mg_iload X 42 d_Mo_multiply_40 (lv_at hl 7 rfl) rfl ?_
            refine mg_bipush X 44 8 d_Mo_multiply_42 mg_cb_8 rfl ?_
            refine mg_icmp_ge X 107 47 (by omega) (by omega) d_Mo_multiply_44 (by decide) rfl (fun hb2 => ?_) (fun hb2 => ?_)
            · -- pc 44 t
              refine mg_aload_n X 108 d_Mo_multiply_107 (lv_at hl 0 rfl) rfl ?_
              refine mg_get X hK hw 111 0 21 f_Mo_60 rfl rfl d_Mo_multiply_108 rfl ?_
              refine mg_iload X 113 d_Mo_multiply_111 (lv_at hl 5 rfl) rfl ?_
              refine mg_bipush X 115 8 d_Mo_multiply_113 mg_cb_8 rfl ?_
              refine mg_iadd X 116 (nI (i1 + 8)) d_Mo_multiply_115 (nI_add _ _) rfl ?_
              refine mg_lload X 118 d_Mo_multiply_116 (lv_at hl 6 rfl) rfl ?_
              refine mg_last X hK hw 119 1 [mg_ob mh 6 [.int (nI (flt)), .int (nI (np)), .int (nI (nf)), .int (nI (nc)), .ref (qor), .ref (qfa), .ref (qmo), .int (nI (nm)), .ref (qwt), .ref (qrt), .ref (qnw), .ref (qsn), .ref (qlt), .ref (qkn), .ref (qft), .ref (qbf), .ref (qbh), .ref (qjt), .ref (qot), .ref (qsm), .ref (qpt), .ref (qpr), .ref (qch), .ref (qbt), .int (nI (wr)), .ref (qpg)], mg_al K qpr 17 (va_up u2 (i1 + 8) cy), mg_al K qa N d, mg_al K qb N2 d2] rfl (by omega) (by omega) d_Mo_multiply_118 rfl rfl (fun H locs hw => ?_)
              refine mg_iinc X 122 [(5, .int (nI (i1 + 1))), (0, .ref (mh)), (1, .ref (qa)), (2, .int (nI (a))), (3, .ref (qb)), (4, .int (nI (f))), (6, .long (lN (cy))), (8, .int (nI (j1)))] (i1 + 1) d_Mo_multiply_119 hl (k := 5) rfl (mg_inc1 _) (by decide) rfl rfl (fun ls hl => ?_)
              refine mg_goto X 27 d_Mo_multiply_122 (by decide) ?_
              have hl : lv_has ls 9 [(0, .ref (mh)), (1, .ref (qa)), (2, .int (nI (a))), (3, .ref (qb)), (4, .int (nI (f))), (5, .int (nI (i1 + 1)))] := lv_sub hl [1, 2, 3, 4, 5, 0] rfl
              exact ih27 _ (by omega) (i1 + 1) (va_up u2 (i1 + 8) cy) rfl (li_prOS hO (by obtain rfl : j1 = 8 := (by omega); exact hI)) (by omega) ls _ _ hl hw
            · -- pc 44 f
              refine mg_lload X 49 d_Mo_multiply_47 (lv_at hl 6 rfl) rfl ?_
              refine mg_aload_n X 50 d_Mo_multiply_49 (lv_at hl 0 rfl) rfl ?_
              refine mg_get X hK hw 53 0 21 f_Mo_60 rfl rfl d_Mo_multiply_50 rfl ?_
              refine mg_iload X 55 d_Mo_multiply_53 (lv_at hl 5 rfl) rfl ?_
              refine mg_iload X 57 d_Mo_multiply_55 (lv_at hl 7 rfl) rfl ?_
              refine mg_iadd X 58 (nI (i1 + j1)) d_Mo_multiply_57 (nI_add _ _) rfl ?_
              refine mg_lald X hK hw 59 1 rfl (by omega) (by omega) d_Mo_multiply_58 rfl ?_
              refine mg_ladd X 60 (lN (cy + (u2 (i1 + j1)))) d_Mo_multiply_59 (lN_add _ _) rfl ?_
              refine mg_aload_n X 61 d_Mo_multiply_60 (lv_at hl 1 rfl) rfl ?_
              refine mg_iload_n X 62 d_Mo_multiply_61 (lv_at hl 2 rfl) rfl ?_
              refine mg_iload X 64 d_Mo_multiply_62 (lv_at hl 5 rfl) rfl ?_
              refine mg_iadd X 65 (nI (a + i1)) d_Mo_multiply_64 (nI_add _ _) rfl ?_
              refine mg_lald X hK hw 66 2 rfl (by omega) (by omega) d_Mo_multiply_65 rfl ?_
              refine mg_aload_n X 67 d_Mo_multiply_66 (lv_at hl 3 rfl) rfl ?_
              refine mg_iload X 69 d_Mo_multiply_67 (lv_at hl 4 rfl) rfl ?_
              refine mg_iload X 71 d_Mo_multiply_69 (lv_at hl 7 rfl) rfl ?_
              refine mg_iadd X 72 (nI (f + j1)) d_Mo_multiply_71 (nI_add _ _) rfl ?_
              refine mg_lald X hK hw 73 3 rfl (by omega) (by omega) d_Mo_multiply_72 rfl ?_
              refine mg_lmul X 74 (lN ((d (a + i1)) * (d2 (f + j1)))) d_Mo_multiply_73 (lN_mul _ _) rfl ?_
              refine mg_ladd X 75 (lN ((cy + (u2 (i1 + j1))) + ((d (a + i1)) * (d2 (f + j1))))) d_Mo_multiply_74 (lN_add _ _) rfl ?_
              refine mg_lstore X 77 [(6, .long (lN ((cy + (u2 (i1 + j1))) + ((d (a + i1)) * (d2 (f + j1)))))), (0, .ref (mh)), (1, .ref (qa)), (2, .int (nI (a))), (3, .ref (qb)), (4, .int (nI (f))), (5, .int (nI (i1))), (8, .int (nI (j1)))] d_Mo_multiply_75 hl (by decide) rfl rfl (fun ls hl => ?_)
              refine mg_aload_n X 78 d_Mo_multiply_77 (lv_at hl 1 rfl) rfl ?_
              refine mg_get X hK hw 81 0 21 f_Mo_60 rfl rfl d_Mo_multiply_78 rfl ?_
              refine mg_iload X 83 d_Mo_multiply_81 (lv_at hl 6 rfl) rfl ?_
              refine mg_iload X 85 d_Mo_multiply_83 (lv_at hl 7 rfl) rfl ?_
              refine mg_iadd X 86 (nI (i1 + j1)) d_Mo_multiply_85 (nI_add _ _) rfl ?_
              refine mg_lload X 88 d_Mo_multiply_86 (lv_at hl 0 rfl) rfl ?_
              refine mg_ldc2 X 91 268435456 d_Mo_multiply_88 cw_Mo_137 rfl rfl ?_
              refine mg_lrem X 92 d_Mo_multiply_91 (by have h9 := li_pr_mul (hR.1 (a + i1) (by omega)) (hR2.1 (f + j1) (by omega)) hI.2.2.2 (hI.1 (i1 + j1) (by omega)); omega) (by omega) (by omega) rfl ?_
              refine mg_last X hK hw 93 1 [mg_ob mh 6 [.int (nI (flt)), .int (nI (np)), .int (nI (nf)), .int (nI (nc)), .ref (qor), .ref (qfa), .ref (qmo), .int (nI (nm)), .ref (qwt), .ref (qrt), .ref (qnw), .ref (qsn), .ref (qlt), .ref (qkn), .ref (qft), .ref (qbf), .ref (qbh), .ref (qjt), .ref (qot), .ref (qsm), .ref (qpt), .ref (qpr), .ref (qch), .ref (qbt), .int (nI (wr)), .ref (qpg)], mg_al K qpr 17 (va_up u2 (i1 + j1) (((cy + (u2 (i1 + j1))) + ((d (a + i1)) * (d2 (f + j1)))) % 268435456)), mg_al K qa N d, mg_al K qb N2 d2] rfl (by omega) (by omega) d_Mo_multiply_92 rfl rfl (fun H locs hw => ?_)
              refine mg_lload X 95 d_Mo_multiply_93 (lv_at hl 0 rfl) rfl ?_
              refine mg_ldc2 X 98 268435456 d_Mo_multiply_95 cw_Mo_137 rfl rfl ?_
              refine mg_ldiv X 99 d_Mo_multiply_98 (by have h9 := li_pr_mul (hR.1 (a + i1) (by omega)) (hR2.1 (f + j1) (by omega)) hI.2.2.2 (hI.1 (i1 + j1) (by omega)); omega) (by omega) (by omega) rfl ?_
              refine mg_lstore X 101 [(6, .long (lN (((cy + (u2 (i1 + j1))) + ((d (a + i1)) * (d2 (f + j1)))) / 268435456))), (0, .ref (mh)), (1, .ref (qa)), (2, .int (nI (a))), (3, .ref (qb)), (4, .int (nI (f))), (5, .int (nI (i1))), (8, .int (nI (j1)))] d_Mo_multiply_99 hl (by decide) rfl rfl (fun ls hl => ?_)
              refine mg_iinc X 104 [(8, .int (nI (j1 + 1))), (6, .long (lN (((cy + (u2 (i1 + j1))) + ((d (a + i1)) * (d2 (f + j1)))) / 268435456))), (0, .ref (mh)), (1, .ref (qa)), (2, .int (nI (a))), (3, .ref (qb)), (4, .int (nI (f))), (5, .int (nI (i1)))] (j1 + 1) d_Mo_multiply_101 hl (k := 7) rfl (mg_inc1 _) (by decide) rfl rfl (fun ls hl => ?_)
              refine mg_goto X 40 d_Mo_multiply_104 (by decide) ?_
              have hl : lv_has ls 9 [(0, .ref (mh)), (1, .ref (qa)), (2, .int (nI (a))), (3, .ref (qb)), (4, .int (nI (f))), (5, .int (nI (i1))), (6, .long (lN (((cy + (u2 (i1 + j1))) + ((d (a + i1)) * (d2 (f + j1)))) / 268435456))), (8, .int (nI (j1 + 1)))] := lv_sub hl [2, 3, 4, 5, 6, 7, 1, 0] rfl
              exact ih40 _ (by omega) (j1 + 1) (((cy + (u2 (i1 + j1))) + ((d (a + i1)) * (d2 (f + j1)))) / 268435456) (va_up u2 (i1 + j1) (((cy + (u2 (i1 + j1))) + ((d (a + i1)) * (d2 (f + j1)))) % 268435456)) rfl (li_prIS hI hR.1 hR2.1 (by omega) (by omega) (by omega) (by omega)) (by omega) ls _ _ hl hw
          have hl : lv_has ls 9 [(0, .ref (mh)), (1, .ref (qa)), (2, .int (nI (a))), (3, .ref (qb)), (4, .int (nI (f))), (5, .int (nI (i1))), (6, .long (lN (0))), (8, .int (nI (0)))] := lv_sub hl [2, 3, 4, 5, 6, 7, 1, 0] rfl
          exact L40 _ 0 0 u1 rfl (li_prI0 hO.1) (by omega) ls _ _ hl hw
      have hl : lv_has ls 9 [(0, .ref (mh)), (1, .ref (qa)), (2, .int (nI (a))), (3, .ref (qb)), (4, .int (nI (f))), (5, .int (nI (0)))] := lv_sub hl [1, 2, 3, 4, 5, 0] rfl
      exact L27 _ 0 u rfl (li_pr0 (fun q hq => hz q (by omega))) (by omega) ls _ _ hl hw
    · -- pc 7 f
      refine mg_aload_n X 11 d_Mo_multiply_10 (lv_at hl 0 rfl) rfl ?_
      refine mg_get X hK hw 14 0 21 f_Mo_60 rfl rfl d_Mo_multiply_11 rfl ?_
      refine mg_iload X 16 d_Mo_multiply_14 (lv_at hl 5 rfl) rfl ?_
      refine mg_lconst X 17 0 d_Mo_multiply_16 rfl rfl ?_
      refine mg_last X hK hw 18 1 [mg_ob mh 6 [.int (nI (flt)), .int (nI (np)), .int (nI (nf)), .int (nI (nc)), .ref (qor), .ref (qfa), .ref (qmo), .int (nI (nm)), .ref (qwt), .ref (qrt), .ref (qnw), .ref (qsn), .ref (qlt), .ref (qkn), .ref (qft), .ref (qbf), .ref (qbh), .ref (qjt), .ref (qot), .ref (qsm), .ref (qpt), .ref (qpr), .ref (qch), .ref (qbt), .int (nI (wr)), .ref (qpg)], mg_al K qpr 17 (va_up u k 0), mg_al K qa N d, mg_al K qb N2 d2] rfl (by omega) (by omega) d_Mo_multiply_17 rfl rfl (fun H locs hw => ?_)
      refine mg_iinc X 21 [(5, .int (nI (k + 1))), (0, .ref (mh)), (1, .ref (qa)), (2, .int (nI (a))), (3, .ref (qb)), (4, .int (nI (f)))] (k + 1) d_Mo_multiply_18 hl (k := 5) rfl (mg_inc1 _) (by decide) rfl rfl (fun ls hl => ?_)
      refine mg_goto X 3 d_Mo_multiply_21 (by decide) ?_
      have hl : lv_has ls 9 [(0, .ref (mh)), (1, .ref (qa)), (2, .int (nI (a))), (3, .ref (qb)), (4, .int (nI (f))), (5, .int (nI (k + 1)))] := lv_sub hl [1, 2, 3, 4, 5, 0] rfl
      exact ih3 _ (by omega) (k + 1) (va_up u k 0) rfl (fun q hq => by by_cases h9 : q = k; rw [h9, va_up_self]; rw [va_up_ne _ _ h9]; exact hz q (by omega)) (by omega) ls _ _ hl hw
  have hl : lv_has ls 9 [(0, .ref (mh)), (1, .ref (qa)), (2, .int (nI (a))), (3, .ref (qb)), (4, .int (nI (f))), (5, .int (nI (0)))] := lv_sub hl [1, 2, 3, 4, 5, 0] rfl
  exact L3 _ 0 dQ rfl (fun q hq => by omega) (by omega) ls _ _ hl hw

set_option maxRecDepth 100000 in
set_option maxHeartbeats 4000000 in
theorem k_Mo_bitsOf (l : Launch) (D : va_G) (K : Nat → ClassId) (w : Nat) (hw1 : w < 64) : mg_Mi l D K y_Mo_bitsOf b_Mo_bitsOf 3 (.int) ({ frames := 0, cells := 0, slots := 0, locals := 0 }) [.int (nI (w))] [] (fun (r : Int32) (_ : Unit) => r = nI (li_bc 6 w)) (fun (_ : Unit) => []) := by
  intro sz
  refine mg_entry (Qc := fun A => va_Qi (fun (r : Int32) (_ : Unit) => r = nI (li_bc 6 w)) (mg_B D A (fun (_ : Unit) => [])) A) (by decide) (Nat.le_of_ble_eq_true rfl) ?_
  intro p e s m args below meth c A ls X hr hlk hnm hA hK hw hl
  have hl : lv_has ls 3 [(0, .int (nI (w)))] := hl
  refine mg_iconst X 1 0 d_Mo_bitsOf_0 mg_ci_0 rfl ?_
  refine mg_istore_n X 2 [(1, .int (nI (0))), (0, .int (nI (w)))] d_Mo_bitsOf_1 hl (by decide) rfl rfl (fun ls hl => ?_)
  refine mg_iconst X 3 0 d_Mo_bitsOf_2 mg_ci_0 rfl ?_
  refine mg_istore_n X 4 [(2, .int (nI (0))), (1, .int (nI (0))), (0, .int (nI (w)))] d_Mo_bitsOf_3 hl (by decide) rfl rfl (fun ls hl => ?_)
  have L4 : ∀ (n0 : Nat) (k : Nat) (x : Nat), n0 = 6 - k → (x = li_bc k w) → (k ≤ 6) → ∀ (ls : Array Slot) (H : Heap) (locs : List Loc), lv_has ls 3 [(0, .int (nI (w))), (1, .int (nI (x))), (2, .int (nI (k)))] → mg_H D A s.heap H locs [] → W p l e ({ frames := 0, cells := 0, slots := 0, locals := 0 }) s m args below meth c H locs 0 0 (MQ below (va_Qi (fun (r : Int32) (_ : Unit) => r = nI (li_bc 6 w)) (mg_B D A (fun (_ : Unit) => [])) A) args s (0) (0) A) (F0 m 4 ls []) := by
    intro n0
    induction n0 using Nat.strongRecOn with
    | ind n0 ih4 =>
    intro k x hm4 hx hk ls H locs hl hw
    refine mg_iload_n X 5 d_Mo_bitsOf_4 (lv_at hl 2 rfl) rfl ?_
    refine mg_bipush X 7 6 d_Mo_bitsOf_5 mg_cb_6 rfl ?_
    refine mg_icmp_ge X 24 10 (by omega) (by omega) d_Mo_bitsOf_7 (by decide) rfl (fun hb => ?_) (fun hb => ?_)
    · -- pc 7 t
      refine mg_iload_n X 25 d_Mo_bitsOf_24 (lv_at hl 1 rfl) rfl ?_
      exact mg_iret X hr hlk (rfl) (()) (by rw [hx, show k = 6 by omega]) hw d_Mo_bitsOf_25
    · -- pc 7 f
      refine mg_iload_n X 11 d_Mo_bitsOf_10 (lv_at hl 1 rfl) rfl ?_
      refine mg_iload_n X 12 d_Mo_bitsOf_11 (lv_at hl 0 rfl) rfl ?_
      refine mg_iload_n X 13 d_Mo_bitsOf_12 (lv_at hl 2 rfl) rfl ?_
      refine mg_ishr X 14 ((nI (w / 2 ^ k))) d_Mo_bitsOf_13 (mg_shr (by omega) (by omega)) rfl ?_
      refine mg_iconst X 15 1 d_Mo_bitsOf_14 mg_ci_1 rfl ?_
      refine mg_iand X 16 ((nI ((w / 2 ^ k) % 2))) d_Mo_bitsOf_15 (mg_and1 (Nat.lt_of_le_of_lt (Nat.div_le_self _ _) (by omega))) rfl ?_
      refine mg_iadd X 17 (nI (x + ((w / 2 ^ k) % 2))) d_Mo_bitsOf_16 (nI_add _ _) rfl ?_
      refine mg_istore_n X 18 [(1, .int (nI (x + ((w / 2 ^ k) % 2)))), (0, .int (nI (w))), (2, .int (nI (k)))] d_Mo_bitsOf_17 hl (by decide) rfl rfl (fun ls hl => ?_)
      refine mg_iinc X 21 [(2, .int (nI (k + 1))), (1, .int (nI (x + ((w / 2 ^ k) % 2)))), (0, .int (nI (w)))] (k + 1) d_Mo_bitsOf_18 hl (k := 2) rfl (mg_inc1 _) (by decide) rfl rfl (fun ls hl => ?_)
      refine mg_goto X 4 d_Mo_bitsOf_21 (by decide) ?_
      have hl : lv_has ls 3 [(0, .int (nI (w))), (1, .int (nI (x + ((w / 2 ^ k) % 2)))), (2, .int (nI (k + 1)))] := lv_sub hl [2, 1, 0] rfl
      exact ih4 _ (by omega) (k + 1) (x + ((w / 2 ^ k) % 2)) rfl (by rw [hx]; rfl) (by omega) ls _ _ hl hw
  have hl : lv_has ls 3 [(0, .int (nI (w))), (1, .int (nI (0))), (2, .int (nI (0)))] := lv_sub hl [2, 1, 0] rfl
  exact L4 _ 0 0 rfl (rfl) (by omega) ls _ _ hl hw

set_option maxRecDepth 100000 in
set_option maxHeartbeats 4000000 in
theorem k_Mo_reckonChanges (l : Launch) (D : va_G) (K : Nat → ClassId) (mh : Nat) (qor : Nat) (qfa : Nat) (qmo : Nat) (qwt : Nat) (qrt : Nat) (qnw : Nat) (qsn : Nat) (qlt : Nat) (qkn : Nat) (qft : Nat) (qbf : Nat) (qbh : Nat) (qjt : Nat) (qot : Nat) (qsm : Nat) (qpt : Nat) (qpr : Nat) (qch : Nat) (qbt : Nat) (qpg : Nat) (flt : Nat) (np : Nat) (nf : Nat) (nc : Nat) (nm : Nat) (wr : Nat) (nw : Nat → Nat) (ch : Nat → Nat) (g : Nat) (hnc : nc ≤ 3) (hg : g < 4) (hr16 : nw g ≤ 16) : mg_Mv l D K y_Mo_reckonChanges b_Mo_reckonChanges 4 ({ frames := 0, cells := 0, slots := 0, locals := 0 }) [.ref (mh), .int (nI (g))] [mg_ob mh 6 [.int (nI (flt)), .int (nI (np)), .int (nI (nf)), .int (nI (nc)), .ref (qor), .ref (qfa), .ref (qmo), .int (nI (nm)), .ref (qwt), .ref (qrt), .ref (qnw), .ref (qsn), .ref (qlt), .ref (qkn), .ref (qft), .ref (qbf), .ref (qbh), .ref (qjt), .ref (qot), .ref (qsm), .ref (qpt), .ref (qpr), .ref (qch), .ref (qbt), .int (nI (wr)), .ref (qpg)], mg_ai K qnw 4 nw, mg_al K qch 7 ch] (fun (u : (Nat → Nat)) => ∀ d, d ≤ 2 * nc → u d = mo_chg (nw g) (2 * nc) d) (fun (u : (Nat → Nat)) => [mg_ob mh 6 [.int (nI (flt)), .int (nI (np)), .int (nI (nf)), .int (nI (nc)), .ref (qor), .ref (qfa), .ref (qmo), .int (nI (nm)), .ref (qwt), .ref (qrt), .ref (qnw), .ref (qsn), .ref (qlt), .ref (qkn), .ref (qft), .ref (qbf), .ref (qbh), .ref (qjt), .ref (qot), .ref (qsm), .ref (qpt), .ref (qpr), .ref (qch), .ref (qbt), .int (nI (wr)), .ref (qpg)], mg_ai K qnw 4 nw, mg_al K qch 7 u]) := by
  intro sz
  refine mg_entry (Qc := fun A => va_Qv (fun (u : (Nat → Nat)) => ∀ d, d ≤ 2 * nc → u d = mo_chg (nw g) (2 * nc) d) (mg_B D A (fun (u : (Nat → Nat)) => [mg_ob mh 6 [.int (nI (flt)), .int (nI (np)), .int (nI (nf)), .int (nI (nc)), .ref (qor), .ref (qfa), .ref (qmo), .int (nI (nm)), .ref (qwt), .ref (qrt), .ref (qnw), .ref (qsn), .ref (qlt), .ref (qkn), .ref (qft), .ref (qbf), .ref (qbh), .ref (qjt), .ref (qot), .ref (qsm), .ref (qpt), .ref (qpr), .ref (qch), .ref (qbt), .int (nI (wr)), .ref (qpg)], mg_ai K qnw 4 nw, mg_al K qch 7 u])) A) (by decide) (Nat.le_of_ble_eq_true rfl) ?_
  intro p e s m args below meth c A ls X hr hlk hnm hA hK hw hl
  have hl : lv_has ls 4 [(0, .ref (mh)), (1, .int (nI (g)))] := hl
  refine mg_iconst X 1 0 d_Mo_reckonChanges_0 mg_ci_0 rfl ?_
  refine mg_istore_n X 2 [(2, .int (nI (0))), (0, .ref (mh)), (1, .int (nI (g)))] d_Mo_reckonChanges_1 hl (by decide) rfl rfl (fun ls hl => ?_)
  have L2 : ∀ (n0 : Nat) (d : Nat) (u : Nat → Nat), n0 = 2 * nc + 1 - d → (∀ j, j < d → u j = mo_chg (nw g) (2 * nc) j) → (d ≤ 2 * nc + 1) → ∀ (ls : Array Slot) (H : Heap) (locs : List Loc), lv_has ls 4 [(0, .ref (mh)), (1, .int (nI (g))), (2, .int (nI (d)))] → mg_H D A s.heap H locs [mg_ob mh 6 [.int (nI (flt)), .int (nI (np)), .int (nI (nf)), .int (nI (nc)), .ref (qor), .ref (qfa), .ref (qmo), .int (nI (nm)), .ref (qwt), .ref (qrt), .ref (qnw), .ref (qsn), .ref (qlt), .ref (qkn), .ref (qft), .ref (qbf), .ref (qbh), .ref (qjt), .ref (qot), .ref (qsm), .ref (qpt), .ref (qpr), .ref (qch), .ref (qbt), .int (nI (wr)), .ref (qpg)], mg_ai K qnw 4 nw, mg_al K qch 7 u] → W p l e ({ frames := 0, cells := 0, slots := 0, locals := 0 }) s m args below meth c H locs 0 0 (MQ below (va_Qv (fun (u : (Nat → Nat)) => ∀ d, d ≤ 2 * nc → u d = mo_chg (nw g) (2 * nc) d) (mg_B D A (fun (u : (Nat → Nat)) => [mg_ob mh 6 [.int (nI (flt)), .int (nI (np)), .int (nI (nf)), .int (nI (nc)), .ref (qor), .ref (qfa), .ref (qmo), .int (nI (nm)), .ref (qwt), .ref (qrt), .ref (qnw), .ref (qsn), .ref (qlt), .ref (qkn), .ref (qft), .ref (qbf), .ref (qbh), .ref (qjt), .ref (qot), .ref (qsm), .ref (qpt), .ref (qpr), .ref (qch), .ref (qbt), .int (nI (wr)), .ref (qpg)], mg_ai K qnw 4 nw, mg_al K qch 7 u])) A) args s (0) (0) A) (F0 m 2 ls []) := by
    intro n0
    induction n0 using Nat.strongRecOn with
    | ind n0 ih2 =>
    intro d u hm2 hI hd ls H locs hl hw
    refine mg_iload_n X 3 d_Mo_reckonChanges_2 (lv_at hl 2 rfl) rfl ?_
    refine mg_iconst X 4 2 d_Mo_reckonChanges_3 mg_ci_2 rfl ?_
    refine mg_aload_n X 5 d_Mo_reckonChanges_4 (lv_at hl 0 rfl) rfl ?_
    refine mg_get X hK hw 8 0 3 f_Mo_86 rfl rfl d_Mo_reckonChanges_5 rfl ?_
    refine mg_imul X 9 (nI (2 * nc)) d_Mo_reckonChanges_8 (pk_mul _ _) rfl ?_
    refine mg_icmp_gt X 80 12 (by omega) (by omega) d_Mo_reckonChanges_9 (by decide) rfl (fun hb => ?_) (fun hb => ?_)
    · -- pc 9 t
      exact mg_vret X hr hlk (u) (fun j hj => hI j (by omega)) hw d_Mo_reckonChanges_80
    · -- pc 9 f
      refine mg_aload_n X 13 d_Mo_reckonChanges_12 (lv_at hl 0 rfl) rfl ?_
      refine mg_get X hK hw 16 0 22 f_Mo_63 rfl rfl d_Mo_reckonChanges_13 rfl ?_
      refine mg_iload_n X 17 d_Mo_reckonChanges_16 (lv_at hl 2 rfl) rfl ?_
      refine mg_lconst X 18 1 d_Mo_reckonChanges_17 rfl rfl ?_
      refine mg_last X hK hw 19 2 [mg_ob mh 6 [.int (nI (flt)), .int (nI (np)), .int (nI (nf)), .int (nI (nc)), .ref (qor), .ref (qfa), .ref (qmo), .int (nI (nm)), .ref (qwt), .ref (qrt), .ref (qnw), .ref (qsn), .ref (qlt), .ref (qkn), .ref (qft), .ref (qbf), .ref (qbh), .ref (qjt), .ref (qot), .ref (qsm), .ref (qpt), .ref (qpr), .ref (qch), .ref (qbt), .int (nI (wr)), .ref (qpg)], mg_ai K qnw 4 nw, mg_al K qch 7 (va_up u d 1)] rfl (by omega) (by omega) d_Mo_reckonChanges_18 rfl rfl (fun H locs hw => ?_)
      refine mg_iconst X 20 0 d_Mo_reckonChanges_19 mg_ci_0 rfl ?_
      refine mg_istore_n X 21 [(3, .int (nI (0))), (0, .ref (mh)), (1, .int (nI (g))), (2, .int (nI (d)))] d_Mo_reckonChanges_20 hl (by decide) rfl rfl (fun ls hl => ?_)
      have L21 : ∀ (n0 : Nat) (k : Nat) (u1 : Nat → Nat), n0 = 2 * nc - k → (∀ j, j < d → u1 j = u j) → (u1 d = mo_ch (nw g) d k) → (k ≤ 2 * nc) → ∀ (ls : Array Slot) (H : Heap) (locs : List Loc), lv_has ls 4 [(0, .ref (mh)), (1, .int (nI (g))), (2, .int (nI (d))), (3, .int (nI (k)))] → mg_H D A s.heap H locs [mg_ob mh 6 [.int (nI (flt)), .int (nI (np)), .int (nI (nf)), .int (nI (nc)), .ref (qor), .ref (qfa), .ref (qmo), .int (nI (nm)), .ref (qwt), .ref (qrt), .ref (qnw), .ref (qsn), .ref (qlt), .ref (qkn), .ref (qft), .ref (qbf), .ref (qbh), .ref (qjt), .ref (qot), .ref (qsm), .ref (qpt), .ref (qpr), .ref (qch), .ref (qbt), .int (nI (wr)), .ref (qpg)], mg_ai K qnw 4 nw, mg_al K qch 7 u1] → W p l e ({ frames := 0, cells := 0, slots := 0, locals := 0 }) s m args below meth c H locs 0 0 (MQ below (va_Qv (fun (u : (Nat → Nat)) => ∀ d, d ≤ 2 * nc → u d = mo_chg (nw g) (2 * nc) d) (mg_B D A (fun (u : (Nat → Nat)) => [mg_ob mh 6 [.int (nI (flt)), .int (nI (np)), .int (nI (nf)), .int (nI (nc)), .ref (qor), .ref (qfa), .ref (qmo), .int (nI (nm)), .ref (qwt), .ref (qrt), .ref (qnw), .ref (qsn), .ref (qlt), .ref (qkn), .ref (qft), .ref (qbf), .ref (qbh), .ref (qjt), .ref (qot), .ref (qsm), .ref (qpt), .ref (qpr), .ref (qch), .ref (qbt), .int (nI (wr)), .ref (qpg)], mg_ai K qnw 4 nw, mg_al K qch 7 u])) A) args s (0) (0) A) (F0 m 21 ls []) := by
        intro n0
        induction n0 using Nat.strongRecOn with
        | ind n0 ih21 =>
        intro k u1 hm21 hlo hv hk ls H locs hl hw
        refine mg_iload_n X 22 d_Mo_reckonChanges_21 (lv_at hl 3 rfl) rfl ?_
        refine mg_iconst X 23 2 d_Mo_reckonChanges_22 mg_ci_2 rfl ?_
        refine mg_aload_n X 24 d_Mo_reckonChanges_23 (lv_at hl 0 rfl) rfl ?_
        refine mg_get X hK hw 27 0 3 f_Mo_86 rfl rfl d_Mo_reckonChanges_24 rfl ?_
        refine mg_imul X 28 (nI (2 * nc)) d_Mo_reckonChanges_27 (pk_mul _ _) rfl ?_
        refine mg_icmp_ge X 74 31 (by omega) (by omega) d_Mo_reckonChanges_28 (by decide) rfl (fun hb2 => ?_) (fun hb2 => ?_)
        · -- pc 28 t
          refine mg_iinc X 77 [(2, .int (nI (d + 1))), (0, .ref (mh)), (1, .int (nI (g))), (3, .int (nI (k)))] (d + 1) d_Mo_reckonChanges_74 hl (k := 2) rfl (mg_inc1 _) (by decide) rfl rfl (fun ls hl => ?_)
          refine mg_goto X 2 d_Mo_reckonChanges_77 (by decide) ?_
          have hl : lv_has ls 4 [(0, .ref (mh)), (1, .int (nI (g))), (2, .int (nI (d + 1)))] := lv_sub hl [1, 2, 0] rfl
          exact ih2 _ (by omega) (d + 1) u1 rfl (fun j hj => by rcases (show j = d ∨ j < d by omega) with h9 | h9; rw [h9, hv, show k = 2 * nc by omega, mo_ch_eq (by omega)]; rw [hlo j h9]; exact hI j h9) (by omega) ls _ _ hl hw
        · -- pc 28 f
          refine mg_aload_n X 32 d_Mo_reckonChanges_31 (lv_at hl 0 rfl) rfl ?_
          refine mg_get X hK hw 35 0 22 f_Mo_63 rfl rfl d_Mo_reckonChanges_32 rfl ?_
          refine mg_iload_n X 36 d_Mo_reckonChanges_35 (lv_at hl 2 rfl) rfl ?_
          refine mg_aload_n X 37 d_Mo_reckonChanges_36 (lv_at hl 0 rfl) rfl ?_
          refine mg_get X hK hw 40 0 22 f_Mo_63 rfl rfl d_Mo_reckonChanges_37 rfl ?_
          refine mg_iload_n X 41 d_Mo_reckonChanges_40 (lv_at hl 2 rfl) rfl ?_
          refine mg_lald X hK hw 42 2 rfl (by omega) (by omega) d_Mo_reckonChanges_41 rfl ?_
          refine mg_iload_n X 43 d_Mo_reckonChanges_42 (lv_at hl 3 rfl) rfl ?_
          refine mg_iload_n X 44 d_Mo_reckonChanges_43 (lv_at hl 2 rfl) rfl ?_
          refine mg_icmp_ge X 56 47 (by omega) (by omega) d_Mo_reckonChanges_44 (by decide) rfl (fun hkd => ?_) (fun hkd => ?_)
          · -- pc 44 t
            refine mg_bipush X 58 16 d_Mo_reckonChanges_56 mg_cb_16 rfl ?_
            refine mg_aload_n X 59 d_Mo_reckonChanges_58 (lv_at hl 0 rfl) rfl ?_
            refine mg_get X hK hw 62 0 10 f_Mo_25 rfl rfl d_Mo_reckonChanges_59 rfl ?_
            refine mg_iload_n X 63 d_Mo_reckonChanges_62 (lv_at hl 1 rfl) rfl ?_
            refine mg_iald X hK hw 64 1 rfl (by omega) (by omega) d_Mo_reckonChanges_63 rfl ?_
            refine mg_isub X 65 (nI (16 - (nw g))) d_Mo_reckonChanges_64 (pk_sub (by omega)) rfl ?_
            refine mg_i2l X 66 d_Mo_reckonChanges_65 (by omega) rfl ?_
            refine mg_lmul X 67 (lN ((u1 d) * (16 - (nw g)))) d_Mo_reckonChanges_66 (lN_mul _ _) rfl ?_
            refine mg_last X hK hw 68 2 [mg_ob mh 6 [.int (nI (flt)), .int (nI (np)), .int (nI (nf)), .int (nI (nc)), .ref (qor), .ref (qfa), .ref (qmo), .int (nI (nm)), .ref (qwt), .ref (qrt), .ref (qnw), .ref (qsn), .ref (qlt), .ref (qkn), .ref (qft), .ref (qbf), .ref (qbh), .ref (qjt), .ref (qot), .ref (qsm), .ref (qpt), .ref (qpr), .ref (qch), .ref (qbt), .int (nI (wr)), .ref (qpg)], mg_ai K qnw 4 nw, mg_al K qch 7 (va_up u1 d ((u1 d) * (16 - (nw g))))] rfl (by omega) (by omega) d_Mo_reckonChanges_67 rfl rfl (fun H locs hw => ?_)
            refine mg_iinc X 71 [(3, .int (nI (k + 1))), (0, .ref (mh)), (1, .int (nI (g))), (2, .int (nI (d)))] (k + 1) d_Mo_reckonChanges_68 hl (k := 3) rfl (mg_inc1 _) (by decide) rfl rfl (fun ls hl => ?_)
            refine mg_goto X 21 d_Mo_reckonChanges_71 (by decide) ?_
            have hl : lv_has ls 4 [(0, .ref (mh)), (1, .int (nI (g))), (2, .int (nI (d))), (3, .int (nI (k + 1)))] := lv_sub hl [1, 2, 3, 0] rfl
            exact ih21 _ (by omega) (k + 1) (va_up u1 d ((u1 d) * (16 - (nw g)))) rfl (fun j hj => by rw [va_up_ne _ _ (by omega)]; exact hlo j hj) (by rw [va_up_self, hv]; exact (mo_ch_s2 (by omega)).symm) (by omega) ls _ _ hl hw
          · -- pc 44 f
            refine mg_aload_n X 48 d_Mo_reckonChanges_47 (lv_at hl 0 rfl) rfl ?_
            refine mg_get X hK hw 51 0 10 f_Mo_25 rfl rfl d_Mo_reckonChanges_48 rfl ?_
            refine mg_iload_n X 52 d_Mo_reckonChanges_51 (lv_at hl 1 rfl) rfl ?_
            refine mg_iald X hK hw 53 1 rfl (by omega) (by omega) d_Mo_reckonChanges_52 rfl ?_
            refine mg_goto X 65 d_Mo_reckonChanges_53 (by decide) ?_
            refine mg_i2l X 66 d_Mo_reckonChanges_65 (by omega) rfl ?_
            refine mg_lmul X 67 (lN ((u1 d) * (nw g))) d_Mo_reckonChanges_66 (lN_mul _ _) rfl ?_
            refine mg_last X hK hw 68 2 [mg_ob mh 6 [.int (nI (flt)), .int (nI (np)), .int (nI (nf)), .int (nI (nc)), .ref (qor), .ref (qfa), .ref (qmo), .int (nI (nm)), .ref (qwt), .ref (qrt), .ref (qnw), .ref (qsn), .ref (qlt), .ref (qkn), .ref (qft), .ref (qbf), .ref (qbh), .ref (qjt), .ref (qot), .ref (qsm), .ref (qpt), .ref (qpr), .ref (qch), .ref (qbt), .int (nI (wr)), .ref (qpg)], mg_ai K qnw 4 nw, mg_al K qch 7 (va_up u1 d ((u1 d) * (nw g)))] rfl (by omega) (by omega) d_Mo_reckonChanges_67 rfl rfl (fun H locs hw => ?_)
            refine mg_iinc X 71 [(3, .int (nI (k + 1))), (0, .ref (mh)), (1, .int (nI (g))), (2, .int (nI (d)))] (k + 1) d_Mo_reckonChanges_68 hl (k := 3) rfl (mg_inc1 _) (by decide) rfl rfl (fun ls hl => ?_)
            refine mg_goto X 21 d_Mo_reckonChanges_71 (by decide) ?_
            have hl : lv_has ls 4 [(0, .ref (mh)), (1, .int (nI (g))), (2, .int (nI (d))), (3, .int (nI (k + 1)))] := lv_sub hl [1, 2, 3, 0] rfl
            exact ih21 _ (by omega) (k + 1) (va_up u1 d ((u1 d) * (nw g))) rfl (fun j hj => by rw [va_up_ne _ _ (by omega)]; exact hlo j hj) (by rw [va_up_self, hv]; exact (mo_ch_s1 (by omega)).symm) (by omega) ls _ _ hl hw
      have hl : lv_has ls 4 [(0, .ref (mh)), (1, .int (nI (g))), (2, .int (nI (d))), (3, .int (nI (0)))] := lv_sub hl [1, 2, 3, 0] rfl
      exact L21 _ 0 (va_up u d 1) rfl (fun j hj => va_up_ne _ _ (by omega)) (va_up_self ..) (by omega) ls _ _ hl hw
  have hl : lv_has ls 4 [(0, .ref (mh)), (1, .int (nI (g))), (2, .int (nI (0)))] := lv_sub hl [1, 2, 0] rfl
  exact L2 _ 0 ch rfl (fun j hj => by omega) (by omega) ls _ _ hl hw
