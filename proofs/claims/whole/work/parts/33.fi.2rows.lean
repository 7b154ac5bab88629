set_option maxRecDepth 100000 in
set_option maxHeartbeats 4000000 in
theorem k_Fi_at (l : Launch) (D : va_G) (K : Nat → ClassId) (hF : Nat) (qtb : Nat) (ql : Nat) (h : Nat) (hM : Nat) (mk : Nat) (w : Nat) (tb : Nat → Nat) (hm : mk < 4) (hw1 : w < 64) : mg_Mi l D K y_Fi_at b_Fi_at 3 (.int) ({ frames := 0, cells := 0, slots := 0, locals := 0 }) [.ref (hF), .int (nI (mk)), .int (nI (w))] [mg_ob hF 3 [.ref (h), .ref (hM), .ref (qtb), .ref (ql)], mg_ai K qtb 256 tb] (fun (r : Int32) (_ : Unit) => r = nI (tb (mk * 64 + w))) (fun (_ : Unit) => [mg_ob hF 3 [.ref (h), .ref (hM), .ref (qtb), .ref (ql)], mg_ai K qtb 256 tb]) := by
  intro sz
  refine mg_entry (Qc := fun A => va_Qi (fun (r : Int32) (_ : Unit) => r = nI (tb (mk * 64 + w))) (mg_B D A (fun (_ : Unit) => [mg_ob hF 3 [.ref (h), .ref (hM), .ref (qtb), .ref (ql)], mg_ai K qtb 256 tb])) A) (by decide) (Nat.le_of_ble_eq_true rfl) ?_
  intro p e s m args below meth c A ls X hr hlk hnm hA hK hw hl
  have hl : lv_has ls 3 [(0, .ref (hF)), (1, .int (nI (mk))), (2, .int (nI (w)))] := hl
  refine mg_aload_n X 1 d_Fi_at_0 (lv_at hl 0 rfl) rfl ?_
  refine mg_get X hK hw 4 0 2 f_Fi_19 rfl rfl d_Fi_at_1 rfl ?_
  refine mg_iload_n X 5 d_Fi_at_4 (lv_at hl 1 rfl) rfl ?_
  refine mg_bipush X 7 64 d_Fi_at_5 mg_cb_64 rfl ?_
  refine mg_imul X 8 (nI (mk * 64)) d_Fi_at_7 (pk_mul _ _) rfl ?_
  refine mg_iload_n X 9 d_Fi_at_8 (lv_at hl 2 rfl) rfl ?_
  refine mg_iadd X 10 (nI ((mk * 64) + w)) d_Fi_at_9 (nI_add _ _) rfl ?_
  refine mg_iald X hK hw 11 1 rfl (by omega) (by omega) d_Fi_at_10 rfl ?_
  exact mg_iret X hr hlk (rfl) (()) (rfl) hw d_Fi_at_11

set_option maxRecDepth 100000 in
set_option maxHeartbeats 4000000 in
theorem k_Fi_weightOfLetters (l : Launch) (D : va_G) (K : Nat → ClassId) (hF : Nat) (qtb : Nat) (ql : Nat) (h : Nat) (qf : Nat) (qm : Nat) (qr : Nat) (nf : Nat) (nc : Nat) (hM : Nat) (qw : Nat) (qra : Nat) (qo : Nat) (qt : Nat) (nm : Nat) (sg : Nat) (wt : Nat → Nat) (L : Nat → Nat) (mk : Nat) (hf1 : nf ≤ 3) (hm : mk < 4) (hW : ∀ l, 1 ≤ l → l ≤ 3 → ma_wt wt mk l ≤ 8) (hL : ∀ k, k < 6 → L k ≤ 3) : mg_Mi l D K y_Fi_weightOfLetters b_Fi_weightOfLetters 4 (.int) ({ frames := 1, cells := 0, slots := 0, locals := 22 }) [.ref (hF), .int (nI (mk))] [mg_ob hF 3 [.ref (h), .ref (hM), .ref (qtb), .ref (ql)], mg_ai K ql 6 L, mg_ob h 1 [.ref (qf), .ref (qm), .ref (qr), .int (nI (nf)), .int (nI (nc))], mg_ob hM 2 [.ref (qw), .ref (qra), .ref (qo), .ref (qt), .int (nI (nm)), .int (nI (sg))], mg_ai K qw 12 wt] (fun (r : Int32) (_ : Unit) => r = nI (ft_w (ma_wt wt mk) L (2 * nf))) (fun (_ : Unit) => [mg_ob hF 3 [.ref (h), .ref (hM), .ref (qtb), .ref (ql)], mg_ai K ql 6 L, mg_ob h 1 [.ref (qf), .ref (qm), .ref (qr), .int (nI (nf)), .int (nI (nc))], mg_ob hM 2 [.ref (qw), .ref (qra), .ref (qo), .ref (qt), .int (nI (nm)), .int (nI (sg))], mg_ai K qw 12 wt]) := by
  intro sz
  refine mg_entry (Qc := fun A => va_Qi (fun (r : Int32) (_ : Unit) => r = nI (ft_w (ma_wt wt mk) L (2 * nf))) (mg_B D A (fun (_ : Unit) => [mg_ob hF 3 [.ref (h), .ref (hM), .ref (qtb), .ref (ql)], mg_ai K ql 6 L, mg_ob h 1 [.ref (qf), .ref (qm), .ref (qr), .int (nI (nf)), .int (nI (nc))], mg_ob hM 2 [.ref (qw), .ref (qra), .ref (qo), .ref (qt), .int (nI (nm)), .int (nI (sg))], mg_ai K qw 12 wt])) A) (by decide) (Nat.le_of_ble_eq_true rfl) ?_
  intro p e s m args below meth c A ls X hr hlk hnm hA hK hw hl
  have hl : lv_has ls 4 [(0, .ref (hF)), (1, .int (nI (mk)))] := hl
  refine mg_iconst X 1 1 d_Fi_weightOfLetters_0 mg_ci_1 rfl ?_
  refine mg_istore_n X 2 [(2, .int (nI (1))), (0, .ref (hF)), (1, .int (nI (mk)))] d_Fi_weightOfLetters_1 hl (by decide) rfl rfl (fun ls hl => ?_)
  refine mg_iconst X 3 0 d_Fi_weightOfLetters_2 mg_ci_0 rfl ?_
  refine mg_istore_n X 4 [(3, .int (nI (0))), (2, .int (nI (1))), (0, .ref (hF)), (1, .int (nI (mk)))] d_Fi_weightOfLetters_3 hl (by decide) rfl rfl (fun ls hl => ?_)
  have L4 : ∀ (n0 : Nat) (k : Nat) (x : Nat), n0 = 2 * nf - k → (x = ft_w (ma_wt wt mk) L k) → (k ≤ 2 * nf) → ∀ (ls : Array Slot) (H : Heap) (locs : List Loc), lv_has ls 4 [(0, .ref (hF)), (1, .int (nI (mk))), (2, .int (nI (x))), (3, .int (nI (k)))] → mg_H D A s.heap H locs [mg_ob hF 3 [.ref (h), .ref (hM), .ref (qtb), .ref (ql)], mg_ai K ql 6 L, mg_ob h 1 [.ref (qf), .ref (qm), .ref (qr), .int (nI (nf)), .int (nI (nc))], mg_ob hM 2 [.ref (qw), .ref (qra), .ref (qo), .ref (qt), .int (nI (nm)), .int (nI (sg))], mg_ai K qw 12 wt] → W p l e ({ frames := 1, cells := 0, slots := 0, locals := 22 }) s m args below meth c H locs 0 0 (MQ below (va_Qi (fun (r : Int32) (_ : Unit) => r = nI (ft_w (ma_wt wt mk) L (2 * nf))) (mg_B D A (fun (_ : Unit) => [mg_ob hF 3 [.ref (h), .ref (hM), .ref (qtb), .ref (ql)], mg_ai K ql 6 L, mg_ob h 1 [.ref (qf), .ref (qm), .ref (qr), .int (nI (nf)), .int (nI (nc))], mg_ob hM 2 [.ref (qw), .ref (qra), .ref (qo), .ref (qt), .int (nI (nm)), .int (nI (sg))], mg_ai K qw 12 wt])) A) args s (0) (0) A) (F0 m 4 ls []) := by
    intro n0
    induction n0 using Nat.strongRecOn with
    | ind n0 ih4 =>
    intro k x hm4 hI hk ls H locs hl hw
    have hx : x ≤ 8 ^ 6 := by rw [hI]; exact Nat.le_trans (ft_w_le (K := 6) hW hL k (by omega)) (Nat.pow_le_pow_right (by decide) (by omega))
    refine mg_iload_n X 5 d_Fi_weightOfLetters_4 (lv_at hl 3 rfl) rfl ?_
    refine mg_iconst X 6 2 d_Fi_weightOfLetters_5 mg_ci_2 rfl ?_
    refine mg_aload_n X 7 d_Fi_weightOfLetters_6 (lv_at hl 0 rfl) rfl ?_
    refine mg_get X hK hw 10 0 0 f_Fi_9 rfl rfl d_Fi_weightOfLetters_7 rfl ?_
    refine mg_get X hK hw 13 2 3 f_Fi_71 rfl rfl d_Fi_weightOfLetters_10 rfl ?_
    refine mg_imul X 14 (nI (2 * nf)) d_Fi_weightOfLetters_13 (pk_mul _ _) rfl ?_
    refine mg_icmp_ge X 40 17 (by omega) (by omega) d_Fi_weightOfLetters_14 (by decide) rfl (fun hb => ?_) (fun hb => ?_)
    · -- pc 14 t
      refine mg_iload_n X 41 d_Fi_weightOfLetters_40 (lv_at hl 2 rfl) rfl ?_
      exact mg_iret X hr hlk (rfl) (()) (by rw [hI, show k = 2 * nf by omega]) hw d_Fi_weightOfLetters_41
    · -- pc 14 f
      refine mg_iload_n X 18 d_Fi_weightOfLetters_17 (lv_at hl 2 rfl) rfl ?_
      refine mg_aload_n X 19 d_Fi_weightOfLetters_18 (lv_at hl 0 rfl) rfl ?_
      refine mg_get X hK hw 22 0 1 f_Fi_15 rfl rfl d_Fi_weightOfLetters_19 rfl ?_
      refine mg_iload_n X 23 d_Fi_weightOfLetters_22 (lv_at hl 1 rfl) rfl ?_
      refine mg_aload_n X 24 d_Fi_weightOfLetters_23 (lv_at hl 0 rfl) rfl ?_
      refine mg_get X hK hw 27 0 3 f_Fi_23 rfl rfl d_Fi_weightOfLetters_24 rfl ?_
      refine mg_iload_n X 28 d_Fi_weightOfLetters_27 (lv_at hl 3 rfl) rfl ?_
      refine mg_iald X hK hw 29 1 rfl (by omega) (by omega) d_Fi_weightOfLetters_28 rfl ?_
      refine mg_callVi X hK hw hA 32 [3, 4] 3 (fun _ => [mg_ob hF 3 [.ref (h), .ref (hM), .ref (qtb), .ref (ql)], mg_ai K ql 6 L, mg_ob h 1 [.ref (qf), .ref (qm), .ref (qr), .int (nI (nf)), .int (nI (nc))], mg_ob hM 2 [.ref (qw), .ref (qra), .ref (qo), .ref (qt), .int (nI (nm)), .int (nI (sg))], mg_ai K qw 12 wt]) rfl rfl (k_Ma_weightOf l D K hM qw qra qo qt nm sg wt mk (L k) (by omega) (hL k (by omega))) g_Fi_74 ⟨by decide, by decide⟩ ⟨rfl, rfl⟩ rfl rfl rfl hl.1 (rest := [.int (nI (x))]) (As := [.int (nI (mk)), .int (nI (L k))]) rfl (Nat.le_of_ble_eq_true rfl) d_Fi_weightOfLetters_29 ⟨Nat.zero_le _, Nat.zero_le _⟩ (fun _ => rfl) (fun _ => rfl) rfl ?_
      intro r _ H locs hp2 hw
      subst hp2
      refine mg_imul X 33 (nI (x * (if (L k) = 0 then 8 else ma_wt wt mk (L k)))) d_Fi_weightOfLetters_32 (pk_mul _ _) rfl ?_
      refine mg_istore_n X 34 [(2, .int (nI (x * (if (L k) = 0 then 8 else ma_wt wt mk (L k))))), (0, .ref (hF)), (1, .int (nI (mk))), (3, .int (nI (k)))] d_Fi_weightOfLetters_33 hl (by decide) rfl rfl (fun ls hl => ?_)
      refine mg_iinc X 37 [(3, .int (nI (k + 1))), (2, .int (nI (x * (if (L k) = 0 then 8 else ma_wt wt mk (L k))))), (0, .ref (hF)), (1, .int (nI (mk)))] (k + 1) d_Fi_weightOfLetters_34 hl (k := 3) rfl (mg_inc1 _) (by decide) rfl rfl (fun ls hl => ?_)
      refine mg_goto X 4 d_Fi_weightOfLetters_37 (by decide) ?_
      have hl : lv_has ls 4 [(0, .ref (hF)), (1, .int (nI (mk))), (2, .int (nI (x * (if (L k) = 0 then 8 else ma_wt wt mk (L k))))), (3, .int (nI (k + 1)))] := lv_sub hl [2, 3, 1, 0] rfl
      exact ih4 _ (by omega) (k + 1) (x * (if (L k) = 0 then 8 else ma_wt wt mk (L k))) rfl (by rw [hI]; rfl) (by omega) ls _ _ hl hw
  have hl : lv_has ls 4 [(0, .ref (hF)), (1, .int (nI (mk))), (2, .int (nI (1))), (3, .int (nI (0)))] := lv_sub hl [2, 3, 1, 0] rfl
  exact L4 _ 0 1 rfl (rfl) (by omega) ls _ _ hl hw

set_option maxRecDepth 100000 in
set_option maxHeartbeats 4000000 in
theorem k_Fi_sumWith (l : Launch) (D : va_G) (K : Nat → ClassId) (hF : Nat) (qtb : Nat) (ql : Nat) (h : Nat) (qf : Nat) (qm : Nat) (qr : Nat) (nf : Nat) (nc : Nat) (hM : Nat) (qw : Nat) (qra : Nat) (qo : Nat) (qt : Nat) (nm : Nat) (sg : Nat) (fa : Nat → Nat) (mo : Nat → Nat) (rk : Nat → Nat) (wt : Nat → Nat) (ol : Nat → Nat) (tl : Nat → Nat) (L : Nat → Nat) (mk : Nat) (w : Nat) (j : Nat) (p0 : Nat) (fr : Nat) (lo : Nat) (x : Nat) (y : Nat) (hF0 : fm_ok nf nc fa mo rk) (hm : mk < 4) (hw1 : w < 64) (hol : ∀ k, k < 24 → ol k ≤ 3) (htl : ∀ k, k < 24 → tl k ≤ 3) (hL : ∀ k, k < 6 → L k ≤ 3) (hp : p0 < nf + nc) (hx : 1 ≤ x ∧ x ≤ 3) (hy : 1 ≤ y ∧ y ≤ 3) (hrec : ∀ (L1 : Nat → Nat), (∀ k, k < 6 → L1 k ≤ 3) → mg_Mi l D K y_Fi_sumFrom b_Fi_sumFrom 7 (.int) ({ frames := fr, cells := 0, slots := 0, locals := lo }) [.ref (hF), .int (nI (p0 + 1)), .int (nI (mk)), .int (nI (w))] [mg_ob hF 3 [.ref (h), .ref (hM), .ref (qtb), .ref (ql)], mg_ai K ql 6 L1, mg_ob h 1 [.ref (qf), .ref (qm), .ref (qr), .int (nI (nf)), .int (nI (nc))], mg_ai K qf 6 fa, mg_ai K qm 6 mo, mg_ai K qr 6 rk, mg_ob hM 2 [.ref (qw), .ref (qra), .ref (qo), .ref (qt), .int (nI (nm)), .int (nI (sg))], mg_ai K qw 12 wt, mg_ai K qo 24 ol, mg_ai K qt 24 tl] (fun (r : Int32) (_ : Unit) => r = nI (ft_from (ma_wt wt mk) (2 * nf) (fun q => ol (mk * 6 + q)) (fun q => tl (mk * 6 + q)) (fun q => fm_src fa mo rk w 3 q 0) (fun q => fm_src fa mo rk w 3 q 1) j (p0 + 1) L1)) (fun (_ : Unit) => [mg_ob hF 3 [.ref (h), .ref (hM), .ref (qtb), .ref (ql)], mg_ai K ql 6 L1, mg_ob h 1 [.ref (qf), .ref (qm), .ref (qr), .int (nI (nf)), .int (nI (nc))], mg_ai K qf 6 fa, mg_ai K qm 6 mo, mg_ai K qr 6 rk, mg_ob hM 2 [.ref (qw), .ref (qra), .ref (qo), .ref (qt), .int (nI (nm)), .int (nI (sg))], mg_ai K qw 12 wt, mg_ai K qo 24 ol, mg_ai K qt 24 tl])) : mg_Mi l D K y_Fi_sumWith b_Fi_sumWith 11 (.int) ({ frames := fr + 1, cells := 0, slots := 0, locals := lo + 30 }) [.ref (hF), .int (nI (p0)), .int (nI (mk)), .int (nI (w)), .int (nI (x)), .int (nI (y))] [mg_ob hF 3 [.ref (h), .ref (hM), .ref (qtb), .ref (ql)], mg_ai K ql 6 L, mg_ob h 1 [.ref (qf), .ref (qm), .ref (qr), .int (nI (nf)), .int (nI (nc))], mg_ai K qf 6 fa, mg_ai K qm 6 mo, mg_ai K qr 6 rk, mg_ob hM 2 [.ref (qw), .ref (qra), .ref (qo), .ref (qt), .int (nI (nm)), .int (nI (sg))], mg_ai K qw 12 wt, mg_ai K qo 24 ol, mg_ai K qt 24 tl] (fun (r : Int32) (_ : Unit) => r = nI (ft_with (fun q => fm_src fa mo rk w 3 q 0) (fun q => fm_src fa mo rk w 3 q 1) (ft_from (ma_wt wt mk) (2 * nf) (fun q => ol (mk * 6 + q)) (fun q => tl (mk * 6 + q)) (fun q => fm_src fa mo rk w 3 q 0) (fun q => fm_src fa mo rk w 3 q 1) j (p0 + 1)) p0 L x y)) (fun (_ : Unit) => [mg_ob hF 3 [.ref (h), .ref (hM), .ref (qtb), .ref (ql)], mg_ai K ql 6 L, mg_ob h 1 [.ref (qf), .ref (qm), .ref (qr), .int (nI (nf)), .int (nI (nc))], mg_ai K qf 6 fa, mg_ai K qm 6 mo, mg_ai K qr 6 rk, mg_ob hM 2 [.ref (qw), .ref (qra), .ref (qo), .ref (qt), .int (nI (nm)), .int (nI (sg))], mg_ai K qw 12 wt, mg_ai K qo 24 ol, mg_ai K qt 24 tl]) := by
  intro sz
  refine mg_entry (Qc := fun A => va_Qi (fun (r : Int32) (_ : Unit) => r = nI (ft_with (fun q => fm_src fa mo rk w 3 q 0) (fun q => fm_src fa mo rk w 3 q 1) (ft_from (ma_wt wt mk) (2 * nf) (fun q => ol (mk * 6 + q)) (fun q => tl (mk * 6 + q)) (fun q => fm_src fa mo rk w 3 q 0) (fun q => fm_src fa mo rk w 3 q 1) j (p0 + 1)) p0 L x y)) (mg_B D A (fun (_ : Unit) => [mg_ob hF 3 [.ref (h), .ref (hM), .ref (qtb), .ref (ql)], mg_ai K ql 6 L, mg_ob h 1 [.ref (qf), .ref (qm), .ref (qr), .int (nI (nf)), .int (nI (nc))], mg_ai K qf 6 fa, mg_ai K qm 6 mo, mg_ai K qr 6 rk, mg_ob hM 2 [.ref (qw), .ref (qra), .ref (qo), .ref (qt), .int (nI (nm)), .int (nI (sg))], mg_ai K qw 12 wt, mg_ai K qo 24 ol, mg_ai K qt 24 tl])) A) (by decide) (Nat.le_of_ble_eq_true rfl) ?_
  intro p e s m args below meth c A ls X hr hlk hnm hA hK hw hl
  have hl : lv_has ls 11 [(0, .ref (hF)), (1, .int (nI (p0))), (2, .int (nI (mk))), (3, .int (nI (w))), (4, .int (nI (x))), (5, .int (nI (y)))] := hl
  have hf1 := hF0.1
  have hf2 := hF0.2.1
  have q0 := fm_lt3 hF0 w hp (show 0 < 2 by omega)
  have q1 := fm_lt3 hF0 w hp (show 1 < 2 by omega)
  have l0 := hL (fm_src fa mo rk w 3 p0 0) (by omega)
  have l1 := fi_le1 (a := fm_src fa mo rk w 3 p0 0) hL hx.2 (fm_src fa mo rk w 3 p0 1) (by omega)
  refine mg_iconst X 1 0 d_Fi_sumWith_0 mg_ci_0 rfl ?_
  refine mg_istore X 3 [(6, .int (nI (0))), (0, .ref (hF)), (1, .int (nI (p0))), (2, .int (nI (mk))), (3, .int (nI (w))), (4, .int (nI (x))), (5, .int (nI (y)))] d_Fi_sumWith_1 hl (by decide) rfl rfl (fun ls hl => ?_)
  refine mg_aload_n X 4 d_Fi_sumWith_3 (lv_at hl 1 rfl) rfl ?_
  refine mg_get X hK hw 7 0 0 f_Fi_9 rfl rfl d_Fi_sumWith_4 rfl ?_
  refine mg_iload_n X 8 d_Fi_sumWith_7 (lv_at hl 2 rfl) rfl ?_
  refine mg_iconst X 9 0 d_Fi_sumWith_8 mg_ci_0 rfl ?_
  refine mg_iload_n X 10 d_Fi_sumWith_9 (lv_at hl 4 rfl) rfl ?_
  refine mg_callVi X hK hw hA 13 [2, 3, 4, 5] 2 (fun _ => [mg_ob hF 3 [.ref (h), .ref (hM), .ref (qtb), .ref (ql)], mg_ai K ql 6 L, mg_ob h 1 [.ref (qf), .ref (qm), .ref (qr), .int (nI (nf)), .int (nI (nc))], mg_ai K qf 6 fa, mg_ai K qm 6 mo, mg_ai K qr 6 rk, mg_ob hM 2 [.ref (qw), .ref (qra), .ref (qo), .ref (qt), .int (nI (nm)), .int (nI (sg))], mg_ai K qw 12 wt, mg_ai K qo 24 ol, mg_ai K qt 24 tl]) rfl rfl (k_Fa_sourceOf l D K h qf qm qr nf nc fa mo rk p0 0 w (hF0) (by omega) (by omega) (by omega)) g_Fi_68 ⟨by dsimp only; omega, by dsimp only; omega⟩ ⟨rfl, rfl⟩ rfl rfl rfl hl.1 (rest := []) (As := [.int (nI (p0)), .int (nI (0)), .int (nI (w))]) rfl (Nat.le_of_ble_eq_true rfl) d_Fi_sumWith_10 ⟨Nat.zero_le _, Nat.zero_le _⟩ (fun _ => rfl) (fun _ => rfl) rfl ?_
  intro r _ H locs hp2 hw
  subst hp2
  refine mg_istore X 15 [(7, .int (nI (fm_src fa mo rk w 3 p0 0))), (6, .int (nI (0))), (0, .ref (hF)), (1, .int (nI (p0))), (2, .int (nI (mk))), (3, .int (nI (w))), (4, .int (nI (x))), (5, .int (nI (y)))] d_Fi_sumWith_13 hl (by decide) rfl rfl (fun ls hl => ?_)
  refine mg_aload_n X 16 d_Fi_sumWith_15 (lv_at hl 2 rfl) rfl ?_
  refine mg_get X hK hw 19 0 3 f_Fi_23 rfl rfl d_Fi_sumWith_16 rfl ?_
  refine mg_iload X 21 d_Fi_sumWith_19 (lv_at hl 0 rfl) rfl ?_
  refine mg_iald X hK hw 22 1 rfl (by omega) (by omega) d_Fi_sumWith_21 rfl ?_
  refine mg_istore X 24 [(8, .int (nI (L (fm_src fa mo rk w 3 p0 0)))), (7, .int (nI (fm_src fa mo rk w 3 p0 0))), (6, .int (nI (0))), (0, .ref (hF)), (1, .int (nI (p0))), (2, .int (nI (mk))), (3, .int (nI (w))), (4, .int (nI (x))), (5, .int (nI (y)))] d_Fi_sumWith_22 hl (by decide) rfl rfl (fun ls hl => ?_)
  refine mg_iload X 26 d_Fi_sumWith_24 (lv_at hl 0 rfl) rfl ?_
  refine mg_if_eq X 36 29 (by omega) d_Fi_sumWith_26 (by decide) rfl (fun e1 => ?_) (fun e1 => ?_)
  · -- pc 26 t
    refine mg_aload_n X 37 d_Fi_sumWith_36 (lv_at hl 3 rfl) rfl ?_
    refine mg_get X hK hw 40 0 3 f_Fi_23 rfl rfl d_Fi_sumWith_37 rfl ?_
    refine mg_iload X 42 d_Fi_sumWith_40 (lv_at hl 1 rfl) rfl ?_
    refine mg_iload X 44 d_Fi_sumWith_42 (lv_at hl 7 rfl) rfl ?_
    refine mg_iast X hK hw 45 1 [mg_ob hF 3 [.ref (h), .ref (hM), .ref (qtb), .ref (ql)], mg_ai K ql 6 (va_up L (fm_src fa mo rk w 3 p0 0) x), mg_ob h 1 [.ref (qf), .ref (qm), .ref (qr), .int (nI (nf)), .int (nI (nc))], mg_ai K qf 6 fa, mg_ai K qm 6 mo, mg_ai K qr 6 rk, mg_ob hM 2 [.ref (qw), .ref (qra), .ref (qo), .ref (qt), .int (nI (nm)), .int (nI (sg))], mg_ai K qw 12 wt, mg_ai K qo 24 ol, mg_ai K qt 24 tl] rfl (by omega) (by omega) d_Fi_sumWith_44 rfl rfl (fun H locs hw => ?_)
    refine mg_aload_n X 46 d_Fi_sumWith_45 (lv_at hl 3 rfl) rfl ?_
    refine mg_get X hK hw 49 0 0 f_Fi_9 rfl rfl d_Fi_sumWith_46 rfl ?_
    refine mg_iload_n X 50 d_Fi_sumWith_49 (lv_at hl 4 rfl) rfl ?_
    refine mg_iconst X 51 1 d_Fi_sumWith_50 mg_ci_1 rfl ?_
    refine mg_iload_n X 52 d_Fi_sumWith_51 (lv_at hl 6 rfl) rfl ?_
    refine mg_callVi X hK hw hA 55 [2, 3, 4, 5] 2 (fun _ => [mg_ob hF 3 [.ref (h), .ref (hM), .ref (qtb), .ref (ql)], mg_ai K ql 6 (va_up L (fm_src fa mo rk w 3 p0 0) x), mg_ob h 1 [.ref (qf), .ref (qm), .ref (qr), .int (nI (nf)), .int (nI (nc))], mg_ai K qf 6 fa, mg_ai K qm 6 mo, mg_ai K qr 6 rk, mg_ob hM 2 [.ref (qw), .ref (qra), .ref (qo), .ref (qt), .int (nI (nm)), .int (nI (sg))], mg_ai K qw 12 wt, mg_ai K qo 24 ol, mg_ai K qt 24 tl]) rfl rfl (k_Fa_sourceOf l D K h qf qm qr nf nc fa mo rk p0 1 w (hF0) (by omega) (by omega) (by omega)) g_Fi_68 ⟨by dsimp only; omega, by dsimp only; omega⟩ ⟨rfl, rfl⟩ rfl rfl rfl hl.1 (rest := []) (As := [.int (nI (p0)), .int (nI (1)), .int (nI (w))]) rfl (Nat.le_of_ble_eq_true rfl) d_Fi_sumWith_52 ⟨Nat.zero_le _, Nat.zero_le _⟩ (fun _ => rfl) (fun _ => rfl) rfl ?_
    intro r _ H locs hp4 hw
    subst hp4
    refine mg_istore X 57 [(9, .int (nI (fm_src fa mo rk w 3 p0 1))), (8, .int (nI (L (fm_src fa mo rk w 3 p0 0)))), (7, .int (nI (fm_src fa mo rk w 3 p0 0))), (6, .int (nI (0))), (0, .ref (hF)), (1, .int (nI (p0))), (2, .int (nI (mk))), (3, .int (nI (w))), (4, .int (nI (x))), (5, .int (nI (y)))] d_Fi_sumWith_55 hl (by decide) rfl rfl (fun ls hl => ?_)
    refine mg_aload_n X 58 d_Fi_sumWith_57 (lv_at hl 4 rfl) rfl ?_
    refine mg_get X hK hw 61 0 3 f_Fi_23 rfl rfl d_Fi_sumWith_58 rfl ?_
    refine mg_iload X 63 d_Fi_sumWith_61 (lv_at hl 0 rfl) rfl ?_
    refine mg_iald X hK hw 64 1 rfl (by omega) (by omega) d_Fi_sumWith_63 rfl ?_
    refine mg_istore X 66 [(10, .int (nI ((va_up L (fm_src fa mo rk w 3 p0 0) x) (fm_src fa mo rk w 3 p0 1)))), (9, .int (nI (fm_src fa mo rk w 3 p0 1))), (8, .int (nI (L (fm_src fa mo rk w 3 p0 0)))), (7, .int (nI (fm_src fa mo rk w 3 p0 0))), (6, .int (nI (0))), (0, .ref (hF)), (1, .int (nI (p0))), (2, .int (nI (mk))), (3, .int (nI (w))), (4, .int (nI (x))), (5, .int (nI (y)))] d_Fi_sumWith_64 hl (by decide) rfl rfl (fun ls hl => ?_)
    refine mg_iload X 68 d_Fi_sumWith_66 (lv_at hl 0 rfl) rfl ?_
    refine mg_if_eq X 78 71 (by omega) d_Fi_sumWith_68 (by decide) rfl (fun e3 => ?_) (fun e3 => ?_)
    · -- pc 68 t
      refine mg_aload_n X 79 d_Fi_sumWith_78 (lv_at hl 5 rfl) rfl ?_
      refine mg_get X hK hw 82 0 3 f_Fi_23 rfl rfl d_Fi_sumWith_79 rfl ?_
      refine mg_iload X 84 d_Fi_sumWith_82 (lv_at hl 1 rfl) rfl ?_
      refine mg_iload X 86 d_Fi_sumWith_84 (lv_at hl 10 rfl) rfl ?_
      refine mg_iast X hK hw 87 1 [mg_ob hF 3 [.ref (h), .ref (hM), .ref (qtb), .ref (ql)], mg_ai K ql 6 (va_up (va_up L (fm_src fa mo rk w 3 p0 0) x) (fm_src fa mo rk w 3 p0 1) y), mg_ob h 1 [.ref (qf), .ref (qm), .ref (qr), .int (nI (nf)), .int (nI (nc))], mg_ai K qf 6 fa, mg_ai K qm 6 mo, mg_ai K qr 6 rk, mg_ob hM 2 [.ref (qw), .ref (qra), .ref (qo), .ref (qt), .int (nI (nm)), .int (nI (sg))], mg_ai K qw 12 wt, mg_ai K qo 24 ol, mg_ai K qt 24 tl] rfl (by omega) (by omega) d_Fi_sumWith_86 rfl rfl (fun H locs hw => ?_)
      refine mg_aload_n X 88 d_Fi_sumWith_87 (lv_at hl 5 rfl) rfl ?_
      refine mg_iload_n X 89 d_Fi_sumWith_88 (lv_at hl 6 rfl) rfl ?_
      refine mg_iconst X 90 1 d_Fi_sumWith_89 mg_ci_1 rfl ?_
      refine mg_iadd X 91 (nI (p0 + 1)) d_Fi_sumWith_90 (nI_add _ _) rfl ?_
      refine mg_iload_n X 92 d_Fi_sumWith_91 (lv_at hl 7 rfl) rfl ?_
      refine mg_iload_n X 93 d_Fi_sumWith_92 (lv_at hl 8 rfl) rfl ?_
      refine mg_callVi X hK hw hA 96 [0, 1, 2, 3, 4, 5, 6, 7, 8, 9] 0 (fun _ => [mg_ob hF 3 [.ref (h), .ref (hM), .ref (qtb), .ref (ql)], mg_ai K ql 6 (va_up (va_up L (fm_src fa mo rk w 3 p0 0) x) (fm_src fa mo rk w 3 p0 1) y), mg_ob h 1 [.ref (qf), .ref (qm), .ref (qr), .int (nI (nf)), .int (nI (nc))], mg_ai K qf 6 fa, mg_ai K qm 6 mo, mg_ai K qr 6 rk, mg_ob hM 2 [.ref (qw), .ref (qra), .ref (qo), .ref (qt), .int (nI (nm)), .int (nI (sg))], mg_ai K qw 12 wt, mg_ai K qo 24 ol, mg_ai K qt 24 tl]) rfl rfl (hrec (va_up (va_up L (fm_src fa mo rk w 3 p0 0) x) (fm_src fa mo rk w 3 p0 1) y) (fun k hk => fi_le2 (fi_le1 hL hx.2) hy.2 k hk)) g_Fi_42 ⟨by dsimp only; omega, by dsimp only; omega⟩ ⟨rfl, rfl⟩ rfl rfl rfl hl.1 (rest := []) (As := [.int (nI (p0 + 1)), .int (nI (mk)), .int (nI (w))]) rfl (Nat.le_of_ble_eq_true rfl) d_Fi_sumWith_93 ⟨Nat.zero_le _, Nat.zero_le _⟩ (fun _ => rfl) (fun _ => rfl) rfl ?_
      intro r _ H locs hp6 hw
      subst hp6
      refine mg_istore X 98 [(6, .int (nI (ft_from (ma_wt wt mk) (2 * nf) (fun q => ol (mk * 6 + q)) (fun q => tl (mk * 6 + q)) (fun q => fm_src fa mo rk w 3 q 0) (fun q => fm_src fa mo rk w 3 q 1) j (p0 + 1) (va_up (va_up L (fm_src fa mo rk w 3 p0 0) x) (fm_src fa mo rk w 3 p0 1) y)))), (10, .int (nI ((va_up L (fm_src fa mo rk w 3 p0 0) x) (fm_src fa mo rk w 3 p0 1)))), (9, .int (nI (fm_src fa mo rk w 3 p0 1))), (8, .int (nI (L (fm_src fa mo rk w 3 p0 0)))), (7, .int (nI (fm_src fa mo rk w 3 p0 0))), (0, .ref (hF)), (1, .int (nI (p0))), (2, .int (nI (mk))), (3, .int (nI (w))), (4, .int (nI (x))), (5, .int (nI (y)))] d_Fi_sumWith_96 hl (by decide) rfl rfl (fun ls hl => ?_)
      refine mg_aload_n X 99 d_Fi_sumWith_98 (lv_at hl 5 rfl) rfl ?_
      refine mg_get X hK hw 102 0 3 f_Fi_23 rfl rfl d_Fi_sumWith_99 rfl ?_
      refine mg_iload X 104 d_Fi_sumWith_102 (lv_at hl 2 rfl) rfl ?_
      refine mg_iload X 106 d_Fi_sumWith_104 (lv_at hl 1 rfl) rfl ?_
      refine mg_iast X hK hw 107 1 [mg_ob hF 3 [.ref (h), .ref (hM), .ref (qtb), .ref (ql)], mg_ai K ql 6 (va_up (va_up (va_up L (fm_src fa mo rk w 3 p0 0) x) (fm_src fa mo rk w 3 p0 1) y) (fm_src fa mo rk w 3 p0 1) ((va_up L (fm_src fa mo rk w 3 p0 0) x) (fm_src fa mo rk w 3 p0 1))), mg_ob h 1 [.ref (qf), .ref (qm), .ref (qr), .int (nI (nf)), .int (nI (nc))], mg_ai K qf 6 fa, mg_ai K qm 6 mo, mg_ai K qr 6 rk, mg_ob hM 2 [.ref (qw), .ref (qra), .ref (qo), .ref (qt), .int (nI (nm)), .int (nI (sg))], mg_ai K qw 12 wt, mg_ai K qo 24 ol, mg_ai K qt 24 tl] rfl (by omega) (by omega) d_Fi_sumWith_106 rfl rfl (fun H locs hw => ?_)
      refine mg_aload_n X 108 d_Fi_sumWith_107 (lv_at hl 5 rfl) rfl ?_
      refine mg_get X hK hw 111 0 3 f_Fi_23 rfl rfl d_Fi_sumWith_108 rfl ?_
      refine mg_iload X 113 d_Fi_sumWith_111 (lv_at hl 4 rfl) rfl ?_
      refine mg_iload X 115 d_Fi_sumWith_113 (lv_at hl 3 rfl) rfl ?_
      refine mg_iast X hK hw 116 1 [mg_ob hF 3 [.ref (h), .ref (hM), .ref (qtb), .ref (ql)], mg_ai K ql 6 (va_up (va_up (va_up (va_up L (fm_src fa mo rk w 3 p0 0) x) (fm_src fa mo rk w 3 p0 1) y) (fm_src fa mo rk w 3 p0 1) ((va_up L (fm_src fa mo rk w 3 p0 0) x) (fm_src fa mo rk w 3 p0 1))) (fm_src fa mo rk w 3 p0 0) (L (fm_src fa mo rk w 3 p0 0))), mg_ob h 1 [.ref (qf), .ref (qm), .ref (qr), .int (nI (nf)), .int (nI (nc))], mg_ai K qf 6 fa, mg_ai K qm 6 mo, mg_ai K qr 6 rk, mg_ob hM 2 [.ref (qw), .ref (qra), .ref (qo), .ref (qt), .int (nI (nm)), .int (nI (sg))], mg_ai K qw 12 wt, mg_ai K qo 24 ol, mg_ai K qt 24 tl] rfl (by omega) (by omega) d_Fi_sumWith_115 rfl rfl (fun H locs hw => ?_)
      refine mg_iload X 118 d_Fi_sumWith_116 (lv_at hl 0 rfl) rfl ?_
      rw [fi_back2 L (fm_src fa mo rk w 3 p0 0) (fm_src fa mo rk w 3 p0 1) x y] at hw
      exact mg_iret X hr hlk (rfl) (()) (by unfold ft_with; rw [if_pos (show L (fm_src fa mo rk w 3 p0 0) = 0 ∨ L (fm_src fa mo rk w 3 p0 0) = x by omega), if_pos (show va_up L (fm_src fa mo rk w 3 p0 0) x (fm_src fa mo rk w 3 p0 1) = 0 ∨ va_up L (fm_src fa mo rk w 3 p0 0) x (fm_src fa mo rk w 3 p0 1) = y by omega)]) hw d_Fi_sumWith_118
    · -- pc 68 f
      refine mg_iload X 73 d_Fi_sumWith_71 (lv_at hl 0 rfl) rfl ?_
      refine mg_iload X 75 d_Fi_sumWith_73 (lv_at hl 10 rfl) rfl ?_
      refine mg_icmp_ne X 107 78 (by omega) (by omega) d_Fi_sumWith_75 (by decide) rfl (fun e4 => ?_) (fun e4 => ?_)
      · -- pc 75 t
        refine mg_aload_n X 108 d_Fi_sumWith_107 (lv_at hl 5 rfl) rfl ?_
        refine mg_get X hK hw 111 0 3 f_Fi_23 rfl rfl d_Fi_sumWith_108 rfl ?_
        refine mg_iload X 113 d_Fi_sumWith_111 (lv_at hl 3 rfl) rfl ?_
        refine mg_iload X 115 d_Fi_sumWith_113 (lv_at hl 2 rfl) rfl ?_
        refine mg_iast X hK hw 116 1 [mg_ob hF 3 [.ref (h), .ref (hM), .ref (qtb), .ref (ql)], mg_ai K ql 6 (va_up (va_up L (fm_src fa mo rk w 3 p0 0) x) (fm_src fa mo rk w 3 p0 0) (L (fm_src fa mo rk w 3 p0 0))), mg_ob h 1 [.ref (qf), .ref (qm), .ref (qr), .int (nI (nf)), .int (nI (nc))], mg_ai K qf 6 fa, mg_ai K qm 6 mo, mg_ai K qr 6 rk, mg_ob hM 2 [.ref (qw), .ref (qra), .ref (qo), .ref (qt), .int (nI (nm)), .int (nI (sg))], mg_ai K qw 12 wt, mg_ai K qo 24 ol, mg_ai K qt 24 tl] rfl (by omega) (by omega) d_Fi_sumWith_115 rfl rfl (fun H locs hw => ?_)
        refine mg_iload X 118 d_Fi_sumWith_116 (lv_at hl 4 rfl) rfl ?_
        rw [fi_back1 L (fm_src fa mo rk w 3 p0 0) x] at hw
        exact mg_iret X hr hlk (rfl) (()) (by unfold ft_with; rw [if_pos (show L (fm_src fa mo rk w 3 p0 0) = 0 ∨ L (fm_src fa mo rk w 3 p0 0) = x by omega), if_neg (show ¬ (va_up L (fm_src fa mo rk w 3 p0 0) x (fm_src fa mo rk w 3 p0 1) = 0 ∨ va_up L (fm_src fa mo rk w 3 p0 0) x (fm_src fa mo rk w 3 p0 1) = y) by omega)]) hw d_Fi_sumWith_118
      · -- pc 75 f
        refine mg_aload_n X 79 d_Fi_sumWith_78 (lv_at hl 5 rfl) rfl ?_
        refine mg_get X hK hw 82 0 3 f_Fi_23 rfl rfl d_Fi_sumWith_79 rfl ?_
        refine mg_iload X 84 d_Fi_sumWith_82 (lv_at hl 1 rfl) rfl ?_
        refine mg_iload X 86 d_Fi_sumWith_84 (lv_at hl 10 rfl) rfl ?_
        refine mg_iast X hK hw 87 1 [mg_ob hF 3 [.ref (h), .ref (hM), .ref (qtb), .ref (ql)], mg_ai K ql 6 (va_up (va_up L (fm_src fa mo rk w 3 p0 0) x) (fm_src fa mo rk w 3 p0 1) y), mg_ob h 1 [.ref (qf), .ref (qm), .ref (qr), .int (nI (nf)), .int (nI (nc))], mg_ai K qf 6 fa, mg_ai K qm 6 mo, mg_ai K qr 6 rk, mg_ob hM 2 [.ref (qw), .ref (qra), .ref (qo), .ref (qt), .int (nI (nm)), .int (nI (sg))], mg_ai K qw 12 wt, mg_ai K qo 24 ol, mg_ai K qt 24 tl] rfl (by omega) (by omega) d_Fi_sumWith_86 rfl rfl (fun H locs hw => ?_)
        refine mg_aload_n X 88 d_Fi_sumWith_87 (lv_at hl 5 rfl) rfl ?_
        refine mg_iload_n X 89 d_Fi_sumWith_88 (lv_at hl 6 rfl) rfl ?_
        refine mg_iconst X 90 1 d_Fi_sumWith_89 mg_ci_1 rfl ?_
        refine mg_iadd X 91 (nI (p0 + 1)) d_Fi_sumWith_90 (nI_add _ _) rfl ?_
        refine mg_iload_n X 92 d_Fi_sumWith_91 (lv_at hl 7 rfl) rfl ?_
        refine mg_iload_n X 93 d_Fi_sumWith_92 (lv_at hl 8 rfl) rfl ?_
        refine mg_callVi X hK hw hA 96 [0, 1, 2, 3, 4, 5, 6, 7, 8, 9] 0 (fun _ => [mg_ob hF 3 [.ref (h), .ref (hM), .ref (qtb), .ref (ql)], mg_ai K ql 6 (va_up (va_up L (fm_src fa mo rk w 3 p0 0) x) (fm_src fa mo rk w 3 p0 1) y), mg_ob h 1 [.ref (qf), .ref (qm), .ref (qr), .int (nI (nf)), .int (nI (nc))], mg_ai K qf 6 fa, mg_ai K qm 6 mo, mg_ai K qr 6 rk, mg_ob hM 2 [.ref (qw), .ref (qra), .ref (qo), .ref (qt), .int (nI (nm)), .int (nI (sg))], mg_ai K qw 12 wt, mg_ai K qo 24 ol, mg_ai K qt 24 tl]) rfl rfl (hrec (va_up (va_up L (fm_src fa mo rk w 3 p0 0) x) (fm_src fa mo rk w 3 p0 1) y) (fun k hk => fi_le2 (fi_le1 hL hx.2) hy.2 k hk)) g_Fi_42 ⟨by dsimp only; omega, by dsimp only; omega⟩ ⟨rfl, rfl⟩ rfl rfl rfl hl.1 (rest := []) (As := [.int (nI (p0 + 1)), .int (nI (mk)), .int (nI (w))]) rfl (Nat.le_of_ble_eq_true rfl) d_Fi_sumWith_93 ⟨Nat.zero_le _, Nat.zero_le _⟩ (fun _ => rfl) (fun _ => rfl) rfl ?_
        intro r _ H locs hp8 hw
        subst hp8
        refine mg_istore X 98 [(6, .int (nI (ft_from (ma_wt wt mk) (2 * nf) (fun q => ol (mk * 6 + q)) (fun q => tl (mk * 6 + q)) (fun q => fm_src fa mo rk w 3 q 0) (fun q => fm_src fa mo rk w 3 q 1) j (p0 + 1) (va_up (va_up L (fm_src fa mo rk w 3 p0 0) x) (fm_src fa mo rk w 3 p0 1) y)))), (10, .int (nI ((va_up L (fm_src fa mo rk w 3 p0 0) x) (fm_src fa mo rk w 3 p0 1)))), (9, .int (nI (fm_src fa mo rk w 3 p0 1))), (8, .int (nI (L (fm_src fa mo rk w 3 p0 0)))), (7, .int (nI (fm_src fa mo rk w 3 p0 0))), (0, .ref (hF)), (1, .int (nI (p0))), (2, .int (nI (mk))), (3, .int (nI (w))), (4, .int (nI (x))), (5, .int (nI (y)))] d_Fi_sumWith_96 hl (by decide) rfl rfl (fun ls hl => ?_)
        refine mg_aload_n X 99 d_Fi_sumWith_98 (lv_at hl 5 rfl) rfl ?_
        refine mg_get X hK hw 102 0 3 f_Fi_23 rfl rfl d_Fi_sumWith_99 rfl ?_
        refine mg_iload X 104 d_Fi_sumWith_102 (lv_at hl 2 rfl) rfl ?_
        refine mg_iload X 106 d_Fi_sumWith_104 (lv_at hl 1 rfl) rfl ?_
        refine mg_iast X hK hw 107 1 [mg_ob hF 3 [.ref (h), .ref (hM), .ref (qtb), .ref (ql)], mg_ai K ql 6 (va_up (va_up (va_up L (fm_src fa mo rk w 3 p0 0) x) (fm_src fa mo rk w 3 p0 1) y) (fm_src fa mo rk w 3 p0 1) ((va_up L (fm_src fa mo rk w 3 p0 0) x) (fm_src fa mo rk w 3 p0 1))), mg_ob h 1 [.ref (qf), .ref (qm), .ref (qr), .int (nI (nf)), .int (nI (nc))], mg_ai K qf 6 fa, mg_ai K qm 6 mo, mg_ai K qr 6 rk, mg_ob hM 2 [.ref (qw), .ref (qra), .ref (qo), .ref (qt), .int (nI (nm)), .int (nI (sg))], mg_ai K qw 12 wt, mg_ai K qo 24 ol, mg_ai K qt 24 tl] rfl (by omega) (by omega) d_Fi_sumWith_106 rfl rfl (fun H locs hw => ?_)
        refine mg_aload_n X 108 d_Fi_sumWith_107 (lv_at hl 5 rfl) rfl ?_
        refine mg_get X hK hw 111 0 3 f_Fi_23 rfl rfl d_Fi_sumWith_108 rfl ?_
        refine mg_iload X 113 d_Fi_sumWith_111 (lv_at hl 4 rfl) rfl ?_
        refine mg_iload X 115 d_Fi_sumWith_113 (lv_at hl 3 rfl) rfl ?_
        refine mg_iast X hK hw 116 1 [mg_ob hF 3 [.ref (h), .ref (hM), .ref (qtb), .ref (ql)], mg_ai K ql 6 (va_up (va_up (va_up (va_up L (fm_src fa mo rk w 3 p0 0) x) (fm_src fa mo rk w 3 p0 1) y) (fm_src fa mo rk w 3 p0 1) ((va_up L (fm_src fa mo rk w 3 p0 0) x) (fm_src fa mo rk w 3 p0 1))) (fm_src fa mo rk w 3 p0 0) (L (fm_src fa mo rk w 3 p0 0))), mg_ob h 1 [.ref (qf), .ref (qm), .ref (qr), .int (nI (nf)), .int (nI (nc))], mg_ai K qf 6 fa, mg_ai K qm 6 mo, mg_ai K qr 6 rk, mg_ob hM 2 [.ref (qw), .ref (qra), .ref (qo), .ref (qt), .int (nI (nm)), .int (nI (sg))], mg_ai K qw 12 wt, mg_ai K qo 24 ol, mg_ai K qt 24 tl] rfl (by omega) (by omega) d_Fi_sumWith_115 rfl rfl (fun H locs hw => ?_)
        refine mg_iload X 118 d_Fi_sumWith_116 (lv_at hl 0 rfl) rfl ?_
        rw [fi_back2 L (fm_src fa mo rk w 3 p0 0) (fm_src fa mo rk w 3 p0 1) x y] at hw
        exact mg_iret X hr hlk (rfl) (()) (by unfold ft_with; rw [if_pos (show L (fm_src fa mo rk w 3 p0 0) = 0 ∨ L (fm_src fa mo rk w 3 p0 0) = x by omega), if_pos (show va_up L (fm_src fa mo rk w 3 p0 0) x (fm_src fa mo rk w 3 p0 1) = 0 ∨ va_up L (fm_src fa mo rk w 3 p0 0) x (fm_src fa mo rk w 3 p0 1) = y by omega)]) hw d_Fi_sumWith_118
  · -- pc 26 f
    refine mg_iload X 31 d_Fi_sumWith_29 (lv_at hl 0 rfl) rfl ?_
    refine mg_iload X 33 d_Fi_sumWith_31 (lv_at hl 7 rfl) rfl ?_
    refine mg_icmp_ne X 116 36 (by omega) (by omega) d_Fi_sumWith_33 (by decide) rfl (fun e2 => ?_) (fun e2 => ?_)
    · -- pc 33 t
      refine mg_iload X 118 d_Fi_sumWith_116 (lv_at hl 2 rfl) rfl ?_
      exact mg_iret X hr hlk (rfl) (()) (by unfold ft_with; rw [if_neg (show ¬ (L (fm_src fa mo rk w 3 p0 0) = 0 ∨ L (fm_src fa mo rk w 3 p0 0) = x) by omega)]) hw d_Fi_sumWith_118
    · -- pc 33 f
      refine mg_aload_n X 37 d_Fi_sumWith_36 (lv_at hl 3 rfl) rfl ?_
      refine mg_get X hK hw 40 0 3 f_Fi_23 rfl rfl d_Fi_sumWith_37 rfl ?_
      refine mg_iload X 42 d_Fi_sumWith_40 (lv_at hl 1 rfl) rfl ?_
      refine mg_iload X 44 d_Fi_sumWith_42 (lv_at hl 7 rfl) rfl ?_
      refine mg_iast X hK hw 45 1 [mg_ob hF 3 [.ref (h), .ref (hM), .ref (qtb), .ref (ql)], mg_ai K ql 6 (va_up L (fm_src fa mo rk w 3 p0 0) x), mg_ob h 1 [.ref (qf), .ref (qm), .ref (qr), .int (nI (nf)), .int (nI (nc))], mg_ai K qf 6 fa, mg_ai K qm 6 mo, mg_ai K qr 6 rk, mg_ob hM 2 [.ref (qw), .ref (qra), .ref (qo), .ref (qt), .int (nI (nm)), .int (nI (sg))], mg_ai K qw 12 wt, mg_ai K qo 24 ol, mg_ai K qt 24 tl] rfl (by omega) (by omega) d_Fi_sumWith_44 rfl rfl (fun H locs hw => ?_)
      refine mg_aload_n X 46 d_Fi_sumWith_45 (lv_at hl 3 rfl) rfl ?_
      refine mg_get X hK hw 49 0 0 f_Fi_9 rfl rfl d_Fi_sumWith_46 rfl ?_
      refine mg_iload_n X 50 d_Fi_sumWith_49 (lv_at hl 4 rfl) rfl ?_
      refine mg_iconst X 51 1 d_Fi_sumWith_50 mg_ci_1 rfl ?_
      refine mg_iload_n X 52 d_Fi_sumWith_51 (lv_at hl 6 rfl) rfl ?_
      refine mg_callVi X hK hw hA 55 [2, 3, 4, 5] 2 (fun _ => [mg_ob hF 3 [.ref (h), .ref (hM), .ref (qtb), .ref (ql)], mg_ai K ql 6 (va_up L (fm_src fa mo rk w 3 p0 0) x), mg_ob h 1 [.ref (qf), .ref (qm), .ref (qr), .int (nI (nf)), .int (nI (nc))], mg_ai K qf 6 fa, mg_ai K qm 6 mo, mg_ai K qr 6 rk, mg_ob hM 2 [.ref (qw), .ref (qra), .ref (qo), .ref (qt), .int (nI (nm)), .int (nI (sg))], mg_ai K qw 12 wt, mg_ai K qo 24 ol, mg_ai K qt 24 tl]) rfl rfl (k_Fa_sourceOf l D K h qf qm qr nf nc fa mo rk p0 1 w (hF0) (by omega) (by omega) (by omega)) g_Fi_68 ⟨by dsimp only; omega, by dsimp only; omega⟩ ⟨rfl, rfl⟩ rfl rfl rfl hl.1 (rest := []) (As := [.int (nI (p0)), .int (nI (1)), .int (nI (w))]) rfl (Nat.le_of_ble_eq_true rfl) d_Fi_sumWith_52 ⟨Nat.zero_le _, Nat.zero_le _⟩ (fun _ => rfl) (fun _ => rfl) rfl ?_
      intro r _ H locs hp10 hw
      subst hp10
      refine mg_istore X 57 [(9, .int (nI (fm_src fa mo rk w 3 p0 1))), (8, .int (nI (L (fm_src fa mo rk w 3 p0 0)))), (7, .int (nI (fm_src fa mo rk w 3 p0 0))), (6, .int (nI (0))), (0, .ref (hF)), (1, .int (nI (p0))), (2, .int (nI (mk))), (3, .int (nI (w))), (4, .int (nI (x))), (5, .int (nI (y)))] d_Fi_sumWith_55 hl (by decide) rfl rfl (fun ls hl => ?_)
      refine mg_aload_n X 58 d_Fi_sumWith_57 (lv_at hl 4 rfl) rfl ?_
      refine mg_get X hK hw 61 0 3 f_Fi_23 rfl rfl d_Fi_sumWith_58 rfl ?_
      refine mg_iload X 63 d_Fi_sumWith_61 (lv_at hl 0 rfl) rfl ?_
      refine mg_iald X hK hw 64 1 rfl (by omega) (by omega) d_Fi_sumWith_63 rfl ?_
      refine mg_istore X 66 [(10, .int (nI ((va_up L (fm_src fa mo rk w 3 p0 0) x) (fm_src fa mo rk w 3 p0 1)))), (9, .int (nI (fm_src fa mo rk w 3 p0 1))), (8, .int (nI (L (fm_src fa mo rk w 3 p0 0)))), (7, .int (nI (fm_src fa mo rk w 3 p0 0))), (6, .int (nI (0))), (0, .ref (hF)), (1, .int (nI (p0))), (2, .int (nI (mk))), (3, .int (nI (w))), (4, .int (nI (x))), (5, .int (nI (y)))] d_Fi_sumWith_64 hl (by decide) rfl rfl (fun ls hl => ?_)
      refine mg_iload X 68 d_Fi_sumWith_66 (lv_at hl 0 rfl) rfl ?_
      refine mg_if_eq X 78 71 (by omega) d_Fi_sumWith_68 (by decide) rfl (fun e3 => ?_) (fun e3 => ?_)
      · -- pc 68 t
        refine mg_aload_n X 79 d_Fi_sumWith_78 (lv_at hl 5 rfl) rfl ?_
        refine mg_get X hK hw 82 0 3 f_Fi_23 rfl rfl d_Fi_sumWith_79 rfl ?_
        refine mg_iload X 84 d_Fi_sumWith_82 (lv_at hl 1 rfl) rfl ?_
        refine mg_iload X 86 d_Fi_sumWith_84 (lv_at hl 10 rfl) rfl ?_
        refine mg_iast X hK hw 87 1 [mg_ob hF 3 [.ref (h), .ref (hM), .ref (qtb), .ref (ql)], mg_ai K ql 6 (va_up (va_up L (fm_src fa mo rk w 3 p0 0) x) (fm_src fa mo rk w 3 p0 1) y), mg_ob h 1 [.ref (qf), .ref (qm), .ref (qr), .int (nI (nf)), .int (nI (nc))], mg_ai K qf 6 fa, mg_ai K qm 6 mo, mg_ai K qr 6 rk, mg_ob hM 2 [.ref (qw), .ref (qra), .ref (qo), .ref (qt), .int (nI (nm)), .int (nI (sg))], mg_ai K qw 12 wt, mg_ai K qo 24 ol, mg_ai K qt 24 tl] rfl (by omega) (by omega) d_Fi_sumWith_86 rfl rfl (fun H locs hw => ?_)
        refine mg_aload_n X 88 d_Fi_sumWith_87 (lv_at hl 5 rfl) rfl ?_
        refine mg_iload_n X 89 d_Fi_sumWith_88 (lv_at hl 6 rfl) rfl ?_
        refine mg_iconst X 90 1 d_Fi_sumWith_89 mg_ci_1 rfl ?_
        refine mg_iadd X 91 (nI (p0 + 1)) d_Fi_sumWith_90 (nI_add _ _) rfl ?_
        refine mg_iload_n X 92 d_Fi_sumWith_91 (lv_at hl 7 rfl) rfl ?_
        refine mg_iload_n X 93 d_Fi_sumWith_92 (lv_at hl 8 rfl) rfl ?_
        refine mg_callVi X hK hw hA 96 [0, 1, 2, 3, 4, 5, 6, 7, 8, 9] 0 (fun _ => [mg_ob hF 3 [.ref (h), .ref (hM), .ref (qtb), .ref (ql)], mg_ai K ql 6 (va_up (va_up L (fm_src fa mo rk w 3 p0 0) x) (fm_src fa mo rk w 3 p0 1) y), mg_ob h 1 [.ref (qf), .ref (qm), .ref (qr), .int (nI (nf)), .int (nI (nc))], mg_ai K qf 6 fa, mg_ai K qm 6 mo, mg_ai K qr 6 rk, mg_ob hM 2 [.ref (qw), .ref (qra), .ref (qo), .ref (qt), .int (nI (nm)), .int (nI (sg))], mg_ai K qw 12 wt, mg_ai K qo 24 ol, mg_ai K qt 24 tl]) rfl rfl (hrec (va_up (va_up L (fm_src fa mo rk w 3 p0 0) x) (fm_src fa mo rk w 3 p0 1) y) (fun k hk => fi_le2 (fi_le1 hL hx.2) hy.2 k hk)) g_Fi_42 ⟨by dsimp only; omega, by dsimp only; omega⟩ ⟨rfl, rfl⟩ rfl rfl rfl hl.1 (rest := []) (As := [.int (nI (p0 + 1)), .int (nI (mk)), .int (nI (w))]) rfl (Nat.le_of_ble_eq_true rfl) d_Fi_sumWith_93 ⟨Nat.zero_le _, Nat.zero_le _⟩ (fun _ => rfl) (fun _ => rfl) rfl ?_
        intro r _ H locs hp12 hw
        subst hp12
        refine mg_istore X 98 [(6, .int (nI (ft_from (ma_wt wt mk) (2 * nf) (fun q => ol (mk * 6 + q)) (fun q => tl (mk * 6 + q)) (fun q => fm_src fa mo rk w 3 q 0) (fun q => fm_src fa mo rk w 3 q 1) j (p0 + 1) (va_up (va_up L (fm_src fa mo rk w 3 p0 0) x) (fm_src fa mo rk w 3 p0 1) y)))), (10, .int (nI ((va_up L (fm_src fa mo rk w 3 p0 0) x) (fm_src fa mo rk w 3 p0 1)))), (9, .int (nI (fm_src fa mo rk w 3 p0 1))), (8, .int (nI (L (fm_src fa mo rk w 3 p0 0)))), (7, .int (nI (fm_src fa mo rk w 3 p0 0))), (0, .ref (hF)), (1, .int (nI (p0))), (2, .int (nI (mk))), (3, .int (nI (w))), (4, .int (nI (x))), (5, .int (nI (y)))] d_Fi_sumWith_96 hl (by decide) rfl rfl (fun ls hl => ?_)
        refine mg_aload_n X 99 d_Fi_sumWith_98 (lv_at hl 5 rfl) rfl ?_
        refine mg_get X hK hw 102 0 3 f_Fi_23 rfl rfl d_Fi_sumWith_99 rfl ?_
        refine mg_iload X 104 d_Fi_sumWith_102 (lv_at hl 2 rfl) rfl ?_
        refine mg_iload X 106 d_Fi_sumWith_104 (lv_at hl 1 rfl) rfl ?_
        refine mg_iast X hK hw 107 1 [mg_ob hF 3 [.ref (h), .ref (hM), .ref (qtb), .ref (ql)], mg_ai K ql 6 (va_up (va_up (va_up L (fm_src fa mo rk w 3 p0 0) x) (fm_src fa mo rk w 3 p0 1) y) (fm_src fa mo rk w 3 p0 1) ((va_up L (fm_src fa mo rk w 3 p0 0) x) (fm_src fa mo rk w 3 p0 1))), mg_ob h 1 [.ref (qf), .ref (qm), .ref (qr), .int (nI (nf)), .int (nI (nc))], mg_ai K qf 6 fa, mg_ai K qm 6 mo, mg_ai K qr 6 rk, mg_ob hM 2 [.ref (qw), .ref (qra), .ref (qo), .ref (qt), .int (nI (nm)), .int (nI (sg))], mg_ai K qw 12 wt, mg_ai K qo 24 ol, mg_ai K qt 24 tl] rfl (by omega) (by omega) d_Fi_sumWith_106 rfl rfl (fun H locs hw => ?_)
        refine mg_aload_n X 108 d_Fi_sumWith_107 (lv_at hl 5 rfl) rfl ?_
        refine mg_get X hK hw 111 0 3 f_Fi_23 rfl rfl d_Fi_sumWith_108 rfl ?_
        refine mg_iload X 113 d_Fi_sumWith_111 (lv_at hl 4 rfl) rfl ?_
        refine mg_iload X 115 d_Fi_sumWith_113 (lv_at hl 3 rfl) rfl ?_
        refine mg_iast X hK hw 116 1 [mg_ob hF 3 [.ref (h), .ref (hM), .ref (qtb), .ref (ql)], mg_ai K ql 6 (va_up (va_up (va_up (va_up L (fm_src fa mo rk w 3 p0 0) x) (fm_src fa mo rk w 3 p0 1) y) (fm_src fa mo rk w 3 p0 1) ((va_up L (fm_src fa mo rk w 3 p0 0) x) (fm_src fa mo rk w 3 p0 1))) (fm_src fa mo rk w 3 p0 0) (L (fm_src fa mo rk w 3 p0 0))), mg_ob h 1 [.ref (qf), .ref (qm), .ref (qr), .int (nI (nf)), .int (nI (nc))], mg_ai K qf 6 fa, mg_ai K qm 6 mo, mg_ai K qr 6 rk, mg_ob hM 2 [.ref (qw), .ref (qra), .ref (qo), .ref (qt), .int (nI (nm)), .int (nI (sg))], mg_ai K qw 12 wt, mg_ai K qo 24 ol, mg_ai K qt 24 tl] rfl (by omega) (by omega) d_Fi_sumWith_115 rfl rfl (fun H locs hw => ?_)
        refine mg_iload X 118 d_Fi_sumWith_116 (lv_at hl 0 rfl) rfl ?_
        rw [fi_back2 L (fm_src fa mo rk w 3 p0 0) (fm_src fa mo rk w 3 p0 1) x y] at hw
        exact mg_iret X hr hlk (rfl) (()) (by unfold ft_with; rw [if_pos (show L (fm_src fa mo rk w 3 p0 0) = 0 ∨ L (fm_src fa mo rk w 3 p0 0) = x by omega), if_pos (show va_up L (fm_src fa mo rk w 3 p0 0) x (fm_src fa mo rk w 3 p0 1) = 0 ∨ va_up L (fm_src fa mo rk w 3 p0 0) x (fm_src fa mo rk w 3 p0 1) = y by omega)]) hw d_Fi_sumWith_118
      · -- pc 68 f
        refine mg_iload X 73 d_Fi_sumWith_71 (lv_at hl 0 rfl) rfl ?_
        refine mg_iload X 75 d_Fi_sumWith_73 (lv_at hl 10 rfl) rfl ?_
        refine mg_icmp_ne X 107 78 (by omega) (by omega) d_Fi_sumWith_75 (by decide) rfl (fun e4 => ?_) (fun e4 => ?_)
        · -- pc 75 t
          refine mg_aload_n X 108 d_Fi_sumWith_107 (lv_at hl 5 rfl) rfl ?_
          refine mg_get X hK hw 111 0 3 f_Fi_23 rfl rfl d_Fi_sumWith_108 rfl ?_
          refine mg_iload X 113 d_Fi_sumWith_111 (lv_at hl 3 rfl) rfl ?_
          refine mg_iload X 115 d_Fi_sumWith_113 (lv_at hl 2 rfl) rfl ?_
          refine mg_iast X hK hw 116 1 [mg_ob hF 3 [.ref (h), .ref (hM), .ref (qtb), .ref (ql)], mg_ai K ql 6 (va_up (va_up L (fm_src fa mo rk w 3 p0 0) x) (fm_src fa mo rk w 3 p0 0) (L (fm_src fa mo rk w 3 p0 0))), mg_ob h 1 [.ref (qf), .ref (qm), .ref (qr), .int (nI (nf)), .int (nI (nc))], mg_ai K qf 6 fa, mg_ai K qm 6 mo, mg_ai K qr 6 rk, mg_ob hM 2 [.ref (qw), .ref (qra), .ref (qo), .ref (qt), .int (nI (nm)), .int (nI (sg))], mg_ai K qw 12 wt, mg_ai K qo 24 ol, mg_ai K qt 24 tl] rfl (by omega) (by omega) d_Fi_sumWith_115 rfl rfl (fun H locs hw => ?_)
          refine mg_iload X 118 d_Fi_sumWith_116 (lv_at hl 4 rfl) rfl ?_
          rw [fi_back1 L (fm_src fa mo rk w 3 p0 0) x] at hw
          exact mg_iret X hr hlk (rfl) (()) (by unfold ft_with; rw [if_pos (show L (fm_src fa mo rk w 3 p0 0) = 0 ∨ L (fm_src fa mo rk w 3 p0 0) = x by omega), if_neg (show ¬ (va_up L (fm_src fa mo rk w 3 p0 0) x (fm_src fa mo rk w 3 p0 1) = 0 ∨ va_up L (fm_src fa mo rk w 3 p0 0) x (fm_src fa mo rk w 3 p0 1) = y) by omega)]) hw d_Fi_sumWith_118
        · -- pc 75 f
          refine mg_aload_n X 79 d_Fi_sumWith_78 (lv_at hl 5 rfl) rfl ?_
          refine mg_get X hK hw 82 0 3 f_Fi_23 rfl rfl d_Fi_sumWith_79 rfl ?_
          refine mg_iload X 84 d_Fi_sumWith_82 (lv_at hl 1 rfl) rfl ?_
          refine mg_iload X 86 d_Fi_sumWith_84 (lv_at hl 10 rfl) rfl ?_
          refine mg_iast X hK hw 87 1 [mg_ob hF 3 [.ref (h), .ref (hM), .ref (qtb), .ref (ql)], mg_ai K ql 6 (va_up (va_up L (fm_src fa mo rk w 3 p0 0) x) (fm_src fa mo rk w 3 p0 1) y), mg_ob h 1 [.ref (qf), .ref (qm), .ref (qr), .int (nI (nf)), .int (nI (nc))], mg_ai K qf 6 fa, mg_ai K qm 6 mo, mg_ai K qr 6 rk, mg_ob hM 2 [.ref (qw), .ref (qra), .ref (qo), .ref (qt), .int (nI (nm)), .int (nI (sg))], mg_ai K qw 12 wt, mg_ai K qo 24 ol, mg_ai K qt 24 tl] rfl (by omega) (by omega) d_Fi_sumWith_86 rfl rfl (fun H locs hw => ?_)
          refine mg_aload_n X 88 d_Fi_sumWith_87 (lv_at hl 5 rfl) rfl ?_
          refine mg_iload_n X 89 d_Fi_sumWith_88 (lv_at hl 6 rfl) rfl ?_
          refine mg_iconst X 90 1 d_Fi_sumWith_89 mg_ci_1 rfl ?_
          refine mg_iadd X 91 (nI (p0 + 1)) d_Fi_sumWith_90 (nI_add _ _) rfl ?_
          refine mg_iload_n X 92 d_Fi_sumWith_91 (lv_at hl 7 rfl) rfl ?_
          refine mg_iload_n X 93 d_Fi_sumWith_92 (lv_at hl 8 rfl) rfl ?_
          refine mg_callVi X hK hw hA 96 [0, 1, 2, 3, 4, 5, 6, 7, 8, 9] 0 (fun _ => [mg_ob hF 3 [.ref (h), .ref (hM), .ref (qtb), .ref (ql)], mg_ai K ql 6 (va_up (va_up L (fm_src fa mo rk w 3 p0 0) x) (fm_src fa mo rk w 3 p0 1) y), mg_ob h 1 [.ref (qf), .ref (qm), .ref (qr), .int (nI (nf)), .int (nI (nc))], mg_ai K qf 6 fa, mg_ai K qm 6 mo, mg_ai K qr 6 rk, mg_ob hM 2 [.ref (qw), .ref (qra), .ref (qo), .ref (qt), .int (nI (nm)), .int (nI (sg))], mg_ai K qw 12 wt, mg_ai K qo 24 ol, mg_ai K qt 24 tl]) rfl rfl (hrec (va_up (va_up L (fm_src fa mo rk w 3 p0 0) x) (fm_src fa mo rk w 3 p0 1) y) (fun k hk => fi_le2 (fi_le1 hL hx.2) hy.2 k hk)) g_Fi_42 ⟨by dsimp only; omega, by dsimp only; omega⟩ ⟨rfl, rfl⟩ rfl rfl rfl hl.1 (rest := []) (As := [.int (nI (p0 + 1)), .int (nI (mk)), .int (nI (w))]) rfl (Nat.le_of_ble_eq_true rfl) d_Fi_sumWith_93 ⟨Nat.zero_le _, Nat.zero_le _⟩ (fun _ => rfl) (fun _ => rfl) rfl ?_
          intro r _ H locs hp14 hw
          subst hp14
          refine mg_istore X 98 [(6, .int (nI (ft_from (ma_wt wt mk) (2 * nf) (fun q => ol (mk * 6 + q)) (fun q => tl (mk * 6 + q)) (fun q => fm_src fa mo rk w 3 q 0) (fun q => fm_src fa mo rk w 3 q 1) j (p0 + 1) (va_up (va_up L (fm_src fa mo rk w 3 p0 0) x) (fm_src fa mo rk w 3 p0 1) y)))), (10, .int (nI ((va_up L (fm_src fa mo rk w 3 p0 0) x) (fm_src fa mo rk w 3 p0 1)))), (9, .int (nI (fm_src fa mo rk w 3 p0 1))), (8, .int (nI (L (fm_src fa mo rk w 3 p0 0)))), (7, .int (nI (fm_src fa mo rk w 3 p0 0))), (0, .ref (hF)), (1, .int (nI (p0))), (2, .int (nI (mk))), (3, .int (nI (w))), (4, .int (nI (x))), (5, .int (nI (y)))] d_Fi_sumWith_96 hl (by decide) rfl rfl (fun ls hl => ?_)
          refine mg_aload_n X 99 d_Fi_sumWith_98 (lv_at hl 5 rfl) rfl ?_
          refine mg_get X hK hw 102 0 3 f_Fi_23 rfl rfl d_Fi_sumWith_99 rfl ?_
          refine mg_iload X 104 d_Fi_sumWith_102 (lv_at hl 2 rfl) rfl ?_
          refine mg_iload X 106 d_Fi_sumWith_104 (lv_at hl 1 rfl) rfl ?_
          refine mg_iast X hK hw 107 1 [mg_ob hF 3 [.ref (h), .ref (hM), .ref (qtb), .ref (ql)], mg_ai K ql 6 (va_up (va_up (va_up L (fm_src fa mo rk w 3 p0 0) x) (fm_src fa mo rk w 3 p0 1) y) (fm_src fa mo rk w 3 p0 1) ((va_up L (fm_src fa mo rk w 3 p0 0) x) (fm_src fa mo rk w 3 p0 1))), mg_ob h 1 [.ref (qf), .ref (qm), .ref (qr), .int (nI (nf)), .int (nI (nc))], mg_ai K qf 6 fa, mg_ai K qm 6 mo, mg_ai K qr 6 rk, mg_ob hM 2 [.ref (qw), .ref (qra), .ref (qo), .ref (qt), .int (nI (nm)), .int (nI (sg))], mg_ai K qw 12 wt, mg_ai K qo 24 ol, mg_ai K qt 24 tl] rfl (by omega) (by omega) d_Fi_sumWith_106 rfl rfl (fun H locs hw => ?_)
          refine mg_aload_n X 108 d_Fi_sumWith_107 (lv_at hl 5 rfl) rfl ?_
          refine mg_get X hK hw 111 0 3 f_Fi_23 rfl rfl d_Fi_sumWith_108 rfl ?_
          refine mg_iload X 113 d_Fi_sumWith_111 (lv_at hl 4 rfl) rfl ?_
          refine mg_iload X 115 d_Fi_sumWith_113 (lv_at hl 3 rfl) rfl ?_
          refine mg_iast X hK hw 116 1 [mg_ob hF 3 [.ref (h), .ref (hM), .ref (qtb), .ref (ql)], mg_ai K ql 6 (va_up (va_up (va_up (va_up L (fm_src fa mo rk w 3 p0 0) x) (fm_src fa mo rk w 3 p0 1) y) (fm_src fa mo rk w 3 p0 1) ((va_up L (fm_src fa mo rk w 3 p0 0) x) (fm_src fa mo rk w 3 p0 1))) (fm_src fa mo rk w 3 p0 0) (L (fm_src fa mo rk w 3 p0 0))), mg_ob h 1 [.ref (qf), .ref (qm), .ref (qr), .int (nI (nf)), .int (nI (nc))], mg_ai K qf 6 fa, mg_ai K qm 6 mo, mg_ai K qr 6 rk, mg_ob hM 2 [.ref (qw), .ref (qra), .ref (qo), .ref (qt), .int (nI (nm)), .int (nI (sg))], mg_ai K qw 12 wt, mg_ai K qo 24 ol, mg_ai K qt 24 tl] rfl (by omega) (by omega) d_Fi_sumWith_115 rfl rfl (fun H locs hw => ?_)
          refine mg_iload X 118 d_Fi_sumWith_116 (lv_at hl 0 rfl) rfl ?_
          rw [fi_back2 L (fm_src fa mo rk w 3 p0 0) (fm_src fa mo rk w 3 p0 1) x y] at hw
          exact mg_iret X hr hlk (rfl) (()) (by unfold ft_with; rw [if_pos (show L (fm_src fa mo rk w 3 p0 0) = 0 ∨ L (fm_src fa mo rk w 3 p0 0) = x by omega), if_pos (show va_up L (fm_src fa mo rk w 3 p0 0) x (fm_src fa mo rk w 3 p0 1) = 0 ∨ va_up L (fm_src fa mo rk w 3 p0 0) x (fm_src fa mo rk w 3 p0 1) = y by omega)]) hw d_Fi_sumWith_118

set_option maxRecDepth 100000 in
set_option maxHeartbeats 4000000 in
theorem k_Fi_sumFrom (l : Launch) (D : va_G) (K : Nat → ClassId) (hF : Nat) (qtb : Nat) (ql : Nat) (h : Nat) (qf : Nat) (qm : Nat) (qr : Nat) (nf : Nat) (nc : Nat) (hM : Nat) (qw : Nat) (qra : Nat) (qo : Nat) (qt : Nat) (nm : Nat) (sg : Nat) (fa : Nat → Nat) (mo : Nat → Nat) (rk : Nat → Nat) (wt : Nat → Nat) (ol : Nat → Nat) (tl : Nat → Nat) (L : Nat → Nat) (mk : Nat) (w : Nat) (j : Nat) (p0 : Nat) (fr : Nat) (lo : Nat) (hF0 : fm_ok nf nc fa mo rk) (hm : mk < 4) (hw1 : w < 64) (hol : ∀ k, k < 24 → ol k ≤ 3) (htl : ∀ k, k < 24 → tl k ≤ 3) (hW : ∀ l, 1 ≤ l → l ≤ 3 → ma_wt wt mk l ≤ 8) (hsn : ∀ q, q < 6 → ol (mk * 6 + q) = 0 ∨ 1 ≤ tl (mk * 6 + q)) (hL : ∀ k, k < 6 → L k ≤ 3) (hp : p0 + (j + 1) = nf + nc) (hrec : ∀ (L1 : Nat → Nat), (∀ k, k < 6 → L1 k ≤ 3) → mg_Mi l D K y_Fi_sumFrom b_Fi_sumFrom 7 (.int) ({ frames := fr, cells := 0, slots := 0, locals := lo }) [.ref (hF), .int (nI (p0 + 1)), .int (nI (mk)), .int (nI (w))] [mg_ob hF 3 [.ref (h), .ref (hM), .ref (qtb), .ref (ql)], mg_ai K ql 6 L1, mg_ob h 1 [.ref (qf), .ref (qm), .ref (qr), .int (nI (nf)), .int (nI (nc))], mg_ai K qf 6 fa, mg_ai K qm 6 mo, mg_ai K qr 6 rk, mg_ob hM 2 [.ref (qw), .ref (qra), .ref (qo), .ref (qt), .int (nI (nm)), .int (nI (sg))], mg_ai K qw 12 wt, mg_ai K qo 24 ol, mg_ai K qt 24 tl] (fun (r : Int32) (_ : Unit) => r = nI (ft_from (ma_wt wt mk) (2 * nf) (fun q => ol (mk * 6 + q)) (fun q => tl (mk * 6 + q)) (fun q => fm_src fa mo rk w 3 q 0) (fun q => fm_src fa mo rk w 3 q 1) j (p0 + 1) L1)) (fun (_ : Unit) => [mg_ob hF 3 [.ref (h), .ref (hM), .ref (qtb), .ref (ql)], mg_ai K ql 6 L1, mg_ob h 1 [.ref (qf), .ref (qm), .ref (qr), .int (nI (nf)), .int (nI (nc))], mg_ai K qf 6 fa, mg_ai K qm 6 mo, mg_ai K qr 6 rk, mg_ob hM 2 [.ref (qw), .ref (qra), .ref (qo), .ref (qt), .int (nI (nm)), .int (nI (sg))], mg_ai K qw 12 wt, mg_ai K qo 24 ol, mg_ai K qt 24 tl])) : mg_Mi l D K y_Fi_sumFrom b_Fi_sumFrom 7 (.int) ({ frames := fr + 2, cells := 0, slots := 0, locals := lo + 60 }) [.ref (hF), .int (nI (p0)), .int (nI (mk)), .int (nI (w))] [mg_ob hF 3 [.ref (h), .ref (hM), .ref (qtb), .ref (ql)], mg_ai K ql 6 L, mg_ob h 1 [.ref (qf), .ref (qm), .ref (qr), .int (nI (nf)), .int (nI (nc))], mg_ai K qf 6 fa, mg_ai K qm 6 mo, mg_ai K qr 6 rk, mg_ob hM 2 [.ref (qw), .ref (qra), .ref (qo), .ref (qt), .int (nI (nm)), .int (nI (sg))], mg_ai K qw 12 wt, mg_ai K qo 24 ol, mg_ai K qt 24 tl] (fun (r : Int32) (_ : Unit) => r = nI (ft_from (ma_wt wt mk) (2 * nf) (fun q => ol (mk * 6 + q)) (fun q => tl (mk * 6 + q)) (fun q => fm_src fa mo rk w 3 q 0) (fun q => fm_src fa mo rk w 3 q 1) (j + 1) p0 L)) (fun (_ : Unit) => [mg_ob hF 3 [.ref (h), .ref (hM), .ref (qtb), .ref (ql)], mg_ai K ql 6 L, mg_ob h 1 [.ref (qf), .ref (qm), .ref (qr), .int (nI (nf)), .int (nI (nc))], mg_ai K qf 6 fa, mg_ai K qm 6 mo, mg_ai K qr 6 rk, mg_ob hM 2 [.ref (qw), .ref (qra), .ref (qo), .ref (qt), .int (nI (nm)), .int (nI (sg))], mg_ai K qw 12 wt, mg_ai K qo 24 ol, mg_ai K qt 24 tl]) := by
  intro sz
  refine mg_entry (Qc := fun A => va_Qi (fun (r : Int32) (_ : Unit) => r = nI (ft_from (ma_wt wt mk) (2 * nf) (fun q => ol (mk * 6 + q)) (fun q => tl (mk * 6 + q)) (fun q => fm_src fa mo rk w 3 q 0) (fun q => fm_src fa mo rk w 3 q 1) (j + 1) p0 L)) (mg_B D A (fun (_ : Unit) => [mg_ob hF 3 [.ref (h), .ref (hM), .ref (qtb), .ref (ql)], mg_ai K ql 6 L, mg_ob h 1 [.ref (qf), .ref (qm), .ref (qr), .int (nI (nf)), .int (nI (nc))], mg_ai K qf 6 fa, mg_ai K qm 6 mo, mg_ai K qr 6 rk, mg_ob hM 2 [.ref (qw), .ref (qra), .ref (qo), .ref (qt), .int (nI (nm)), .int (nI (sg))], mg_ai K qw 12 wt, mg_ai K qo 24 ol, mg_ai K qt 24 tl])) A) (by decide) (Nat.le_of_ble_eq_true rfl) ?_
  intro p e s m args below meth c A ls X hr hlk hnm hA hK hw hl
  have hl : lv_has ls 7 [(0, .ref (hF)), (1, .int (nI (p0))), (2, .int (nI (mk))), (3, .int (nI (w)))] := hl
  have hf1 := hF0.1
  have hf2 := hF0.2.1
  have o3 := hol (mk * 6 + p0) (by omega)
  have t3 := htl (mk * 6 + p0) (by omega)
  have st0 := hsn p0 (by omega)
  refine mg_iload_n X 1 d_Fi_sumFrom_0 (lv_at hl 1 rfl) rfl ?_
  refine mg_aload_n X 2 d_Fi_sumFrom_1 (lv_at hl 0 rfl) rfl ?_
  refine mg_get X hK hw 5 0 0 f_Fi_9 rfl rfl d_Fi_sumFrom_2 rfl ?_
  refine mg_callVi X hK hw hA 8 [2] 2 (fun _ => [mg_ob hF 3 [.ref (h), .ref (hM), .ref (qtb), .ref (ql)], mg_ai K ql 6 L, mg_ob h 1 [.ref (qf), .ref (qm), .ref (qr), .int (nI (nf)), .int (nI (nc))], mg_ai K qf 6 fa, mg_ai K qm 6 mo, mg_ai K qr 6 rk, mg_ob hM 2 [.ref (qw), .ref (qra), .ref (qo), .ref (qt), .int (nI (nm)), .int (nI (sg))], mg_ai K qw 12 wt, mg_ai K qo 24 ol, mg_ai K qt 24 tl]) rfl rfl (k_Fa_persons l D K h qf qm qr nf nc ) g_Fi_46 ⟨by dsimp only; omega, by dsimp only; omega⟩ ⟨rfl, rfl⟩ rfl rfl rfl hl.1 (rest := [.int (nI (p0))]) (As := []) rfl (Nat.le_of_ble_eq_true rfl) d_Fi_sumFrom_5 ⟨Nat.zero_le _, Nat.zero_le _⟩ (fun _ => rfl) (fun _ => rfl) rfl ?_
  intro r _ H locs hp2 hw
  subst hp2
  refine mg_icmp_lt X 17 11 (by omega) (by omega) d_Fi_sumFrom_8 (by decide) rfl (fun hlt => ?_) (fun hlt => absurd hlt (by omega))
  refine mg_aload_n X 18 d_Fi_sumFrom_17 (lv_at hl 0 rfl) rfl ?_
  refine mg_get X hK hw 21 0 1 f_Fi_15 rfl rfl d_Fi_sumFrom_18 rfl ?_
  refine mg_iload_n X 22 d_Fi_sumFrom_21 (lv_at hl 1 rfl) rfl ?_
  refine mg_iload_n X 23 d_Fi_sumFrom_22 (lv_at hl 2 rfl) rfl ?_
  refine mg_callVi X hK hw hA 26 [6, 8] 6 (fun _ => [mg_ob hF 3 [.ref (h), .ref (hM), .ref (qtb), .ref (ql)], mg_ai K ql 6 L, mg_ob h 1 [.ref (qf), .ref (qm), .ref (qr), .int (nI (nf)), .int (nI (nc))], mg_ai K qf 6 fa, mg_ai K qm 6 mo, mg_ai K qr 6 rk, mg_ob hM 2 [.ref (qw), .ref (qra), .ref (qo), .ref (qt), .int (nI (nm)), .int (nI (sg))], mg_ai K qw 12 wt, mg_ai K qo 24 ol, mg_ai K qt 24 tl]) rfl rfl (k_Ma_isSeen l D K hM qw qra qo qt nm sg ol p0 mk (by omega) (by omega) (hol)) g_Fi_53 ⟨by dsimp only; omega, by dsimp only; omega⟩ ⟨rfl, rfl⟩ rfl rfl rfl hl.1 (rest := []) (As := [.int (nI (p0)), .int (nI (mk))]) rfl (Nat.le_of_ble_eq_true rfl) d_Fi_sumFrom_23 ⟨Nat.zero_le _, Nat.zero_le _⟩ (fun _ => rfl) (fun _ => rfl) rfl ?_
  intro r _ H locs hp4 hw
  subst hp4
  refine mg_bif_ne X 39 29 d_Fi_sumFrom_26 (by decide) rfl (fun hs => ?_) (fun hs => ?_)
  · -- pc 26 t
    refine mg_aload_n X 40 d_Fi_sumFrom_39 (lv_at hl 0 rfl) rfl ?_
    refine mg_get X hK hw 43 0 1 f_Fi_15 rfl rfl d_Fi_sumFrom_40 rfl ?_
    refine mg_iload_n X 44 d_Fi_sumFrom_43 (lv_at hl 1 rfl) rfl ?_
    refine mg_iload_n X 45 d_Fi_sumFrom_44 (lv_at hl 2 rfl) rfl ?_
    refine mg_callVi X hK hw hA 48 [6, 8] 6 (fun _ => [mg_ob hF 3 [.ref (h), .ref (hM), .ref (qtb), .ref (ql)], mg_ai K ql 6 L, mg_ob h 1 [.ref (qf), .ref (qm), .ref (qr), .int (nI (nf)), .int (nI (nc))], mg_ai K qf 6 fa, mg_ai K qm 6 mo, mg_ai K qr 6 rk, mg_ob hM 2 [.ref (qw), .ref (qra), .ref (qo), .ref (qt), .int (nI (nm)), .int (nI (sg))], mg_ai K qw 12 wt, mg_ai K qo 24 ol, mg_ai K qt 24 tl]) rfl rfl (k_Ma_oneLetter l D K hM qw qra qo qt nm sg ol p0 mk (by omega) (by omega)) g_Fi_57 ⟨by dsimp only; omega, by dsimp only; omega⟩ ⟨rfl, rfl⟩ rfl rfl rfl hl.1 (rest := []) (As := [.int (nI (p0)), .int (nI (mk))]) rfl (Nat.le_of_ble_eq_true rfl) d_Fi_sumFrom_45 ⟨Nat.zero_le _, Nat.zero_le _⟩ (fun _ => rfl) (fun _ => rfl) rfl ?_
    intro r _ H locs hp6 hw
    subst hp6
    refine mg_istore X 50 [(4, .int (nI (ol (mk * 6 + p0)))), (0, .ref (hF)), (1, .int (nI (p0))), (2, .int (nI (mk))), (3, .int (nI (w)))] d_Fi_sumFrom_48 hl (by decide) rfl rfl (fun ls hl => ?_)
    refine mg_aload_n X 51 d_Fi_sumFrom_50 (lv_at hl 1 rfl) rfl ?_
    refine mg_get X hK hw 54 0 1 f_Fi_15 rfl rfl d_Fi_sumFrom_51 rfl ?_
    refine mg_iload_n X 55 d_Fi_sumFrom_54 (lv_at hl 2 rfl) rfl ?_
    refine mg_iload_n X 56 d_Fi_sumFrom_55 (lv_at hl 3 rfl) rfl ?_
    refine mg_callVi X hK hw hA 59 [6, 9] 6 (fun _ => [mg_ob hF 3 [.ref (h), .ref (hM), .ref (qtb), .ref (ql)], mg_ai K ql 6 L, mg_ob h 1 [.ref (qf), .ref (qm), .ref (qr), .int (nI (nf)), .int (nI (nc))], mg_ai K qf 6 fa, mg_ai K qm 6 mo, mg_ai K qr 6 rk, mg_ob hM 2 [.ref (qw), .ref (qra), .ref (qo), .ref (qt), .int (nI (nm)), .int (nI (sg))], mg_ai K qw 12 wt, mg_ai K qo 24 ol, mg_ai K qt 24 tl]) rfl rfl (k_Ma_otherLetter l D K hM qw qra qo qt nm sg tl p0 mk (by omega) (by omega)) g_Fi_61 ⟨by dsimp only; omega, by dsimp only; omega⟩ ⟨rfl, rfl⟩ rfl rfl rfl hl.1 (rest := []) (As := [.int (nI (p0)), .int (nI (mk))]) rfl (Nat.le_of_ble_eq_true rfl) d_Fi_sumFrom_56 ⟨Nat.zero_le _, Nat.zero_le _⟩ (fun _ => rfl) (fun _ => rfl) rfl ?_
    intro r _ H locs hp8 hw
    subst hp8
    refine mg_istore X 61 [(5, .int (nI (tl (mk * 6 + p0)))), (4, .int (nI (ol (mk * 6 + p0)))), (0, .ref (hF)), (1, .int (nI (p0))), (2, .int (nI (mk))), (3, .int (nI (w)))] d_Fi_sumFrom_59 hl (by decide) rfl rfl (fun ls hl => ?_)
    refine mg_aload_n X 62 d_Fi_sumFrom_61 (lv_at hl 2 rfl) rfl ?_
    refine mg_iload_n X 63 d_Fi_sumFrom_62 (lv_at hl 3 rfl) rfl ?_
    refine mg_iload_n X 64 d_Fi_sumFrom_63 (lv_at hl 4 rfl) rfl ?_
    refine mg_iload_n X 65 d_Fi_sumFrom_64 (lv_at hl 5 rfl) rfl ?_
    refine mg_iload X 67 d_Fi_sumFrom_65 (lv_at hl 1 rfl) rfl ?_
    refine mg_iload X 69 d_Fi_sumFrom_67 (lv_at hl 0 rfl) rfl ?_
    refine mg_callVi X hK hw hA 72 [0, 1, 2, 3, 4, 5, 6, 7, 8, 9] 0 (fun _ => [mg_ob hF 3 [.ref (h), .ref (hM), .ref (qtb), .ref (ql)], mg_ai K ql 6 L, mg_ob h 1 [.ref (qf), .ref (qm), .ref (qr), .int (nI (nf)), .int (nI (nc))], mg_ai K qf 6 fa, mg_ai K qm 6 mo, mg_ai K qr 6 rk, mg_ob hM 2 [.ref (qw), .ref (qra), .ref (qo), .ref (qt), .int (nI (nm)), .int (nI (sg))], mg_ai K qw 12 wt, mg_ai K qo 24 ol, mg_ai K qt 24 tl]) rfl rfl (k_Fi_sumWith l D K hF qtb ql h qf qm qr nf nc hM qw qra qo qt nm sg fa mo rk wt ol tl L mk w j p0 fr lo (ol (mk * 6 + p0)) (tl (mk * 6 + p0)) (hF0) (hm) (hw1) (hol) (htl) (hL) (by omega) (⟨by omega, by omega⟩) (⟨by omega, by omega⟩) (hrec)) g_Fi_64 ⟨by dsimp only; omega, by dsimp only; omega⟩ ⟨rfl, rfl⟩ rfl rfl rfl hl.1 (rest := []) (As := [.int (nI (p0)), .int (nI (mk)), .int (nI (w)), .int (nI (ol (mk * 6 + p0))), .int (nI (tl (mk * 6 + p0)))]) rfl (Nat.le_of_ble_eq_true rfl) d_Fi_sumFrom_69 ⟨Nat.zero_le _, Nat.zero_le _⟩ (fun _ => rfl) (fun _ => rfl) rfl ?_
    intro r _ H locs hp10 hw
    subst hp10
    refine mg_istore X 74 [(6, .int (nI (ft_with (fun q => fm_src fa mo rk w 3 q 0) (fun q => fm_src fa mo rk w 3 q 1) (ft_from (ma_wt wt mk) (2 * nf) (fun q => ol (mk * 6 + q)) (fun q => tl (mk * 6 + q)) (fun q => fm_src fa mo rk w 3 q 0) (fun q => fm_src fa mo rk w 3 q 1) j (p0 + 1)) p0 L (ol (mk * 6 + p0)) (tl (mk * 6 + p0))))), (5, .int (nI (tl (mk * 6 + p0)))), (4, .int (nI (ol (mk * 6 + p0)))), (0, .ref (hF)), (1, .int (nI (p0))), (2, .int (nI (mk))), (3, .int (nI (w)))] d_Fi_sumFrom_72 hl (by decide) rfl rfl (fun ls hl => ?_)
    refine mg_iload X 76 d_Fi_sumFrom_74 (lv_at hl 2 rfl) rfl ?_
    refine mg_iload X 78 d_Fi_sumFrom_76 (lv_at hl 1 rfl) rfl ?_
    refine mg_icmp_eq X 97 81 (by omega) (by omega) d_Fi_sumFrom_78 (by decide) rfl (fun he => ?_) (fun he => ?_)
    · -- pc 78 t
      refine mg_iload X 99 d_Fi_sumFrom_97 (lv_at hl 0 rfl) rfl ?_
      exact mg_iret X hr hlk (rfl) (()) (by show nI _ = nI (if ol (mk * 6 + p0) = 0 then _ else _); rw [if_neg hs, if_pos he]; rfl) hw d_Fi_sumFrom_99
    · -- pc 78 f
      refine mg_iload X 83 d_Fi_sumFrom_81 (lv_at hl 0 rfl) rfl ?_
      refine mg_aload_n X 84 d_Fi_sumFrom_83 (lv_at hl 3 rfl) rfl ?_
      refine mg_iload_n X 85 d_Fi_sumFrom_84 (lv_at hl 4 rfl) rfl ?_
      refine mg_iload_n X 86 d_Fi_sumFrom_85 (lv_at hl 5 rfl) rfl ?_
      refine mg_iload_n X 87 d_Fi_sumFrom_86 (lv_at hl 6 rfl) rfl ?_
      refine mg_iload X 89 d_Fi_sumFrom_87 (lv_at hl 1 rfl) rfl ?_
      refine mg_iload X 91 d_Fi_sumFrom_89 (lv_at hl 2 rfl) rfl ?_
      refine mg_callVi X hK hw hA 94 [0, 1, 2, 3, 4, 5, 6, 7, 8, 9] 0 (fun _ => [mg_ob hF 3 [.ref (h), .ref (hM), .ref (qtb), .ref (ql)], mg_ai K ql 6 L, mg_ob h 1 [.ref (qf), .ref (qm), .ref (qr), .int (nI (nf)), .int (nI (nc))], mg_ai K qf 6 fa, mg_ai K qm 6 mo, mg_ai K qr 6 rk, mg_ob hM 2 [.ref (qw), .ref (qra), .ref (qo), .ref (qt), .int (nI (nm)), .int (nI (sg))], mg_ai K qw 12 wt, mg_ai K qo 24 ol, mg_ai K qt 24 tl]) rfl rfl (k_Fi_sumWith l D K hF qtb ql h qf qm qr nf nc hM qw qra qo qt nm sg fa mo rk wt ol tl L mk w j p0 fr lo (tl (mk * 6 + p0)) (ol (mk * 6 + p0)) (hF0) (hm) (hw1) (hol) (htl) (hL) (by omega) (⟨by omega, by omega⟩) (⟨by omega, by omega⟩) (hrec)) g_Fi_64 ⟨by dsimp only; omega, by dsimp only; omega⟩ ⟨rfl, rfl⟩ rfl rfl rfl hl.1 (rest := [.int (nI (ft_with (fun q => fm_src fa mo rk w 3 q 0) (fun q => fm_src fa mo rk w 3 q 1) (ft_from (ma_wt wt mk) (2 * nf) (fun q => ol (mk * 6 + q)) (fun q => tl (mk * 6 + q)) (fun q => fm_src fa mo rk w 3 q 0) (fun q => fm_src fa mo rk w 3 q 1) j (p0 + 1)) p0 L (ol (mk * 6 + p0)) (tl (mk * 6 + p0))))]) (As := [.int (nI (p0)), .int (nI (mk)), .int (nI (w)), .int (nI (tl (mk * 6 + p0))), .int (nI (ol (mk * 6 + p0)))]) rfl (Nat.le_of_ble_eq_true rfl) d_Fi_sumFrom_91 ⟨Nat.zero_le _, Nat.zero_le _⟩ (fun _ => rfl) (fun _ => rfl) rfl ?_
      intro r _ H locs hp12 hw
      subst hp12
      refine mg_iadd X 95 (nI ((ft_with (fun q => fm_src fa mo rk w 3 q 0) (fun q => fm_src fa mo rk w 3 q 1) (ft_from (ma_wt wt mk) (2 * nf) (fun q => ol (mk * 6 + q)) (fun q => tl (mk * 6 + q)) (fun q => fm_src fa mo rk w 3 q 0) (fun q => fm_src fa mo rk w 3 q 1) j (p0 + 1)) p0 L (ol (mk * 6 + p0)) (tl (mk * 6 + p0))) + (ft_with (fun q => fm_src fa mo rk w 3 q 0) (fun q => fm_src fa mo rk w 3 q 1) (ft_from (ma_wt wt mk) (2 * nf) (fun q => ol (mk * 6 + q)) (fun q => tl (mk * 6 + q)) (fun q => fm_src fa mo rk w 3 q 0) (fun q => fm_src fa mo rk w 3 q 1) j (p0 + 1)) p0 L (tl (mk * 6 + p0)) (ol (mk * 6 + p0))))) d_Fi_sumFrom_94 (nI_add _ _) rfl ?_
      refine mg_istore X 97 [(6, .int (nI ((ft_with (fun q => fm_src fa mo rk w 3 q 0) (fun q => fm_src fa mo rk w 3 q 1) (ft_from (ma_wt wt mk) (2 * nf) (fun q => ol (mk * 6 + q)) (fun q => tl (mk * 6 + q)) (fun q => fm_src fa mo rk w 3 q 0) (fun q => fm_src fa mo rk w 3 q 1) j (p0 + 1)) p0 L (ol (mk * 6 + p0)) (tl (mk * 6 + p0))) + (ft_with (fun q => fm_src fa mo rk w 3 q 0) (fun q => fm_src fa mo rk w 3 q 1) (ft_from (ma_wt wt mk) (2 * nf) (fun q => ol (mk * 6 + q)) (fun q => tl (mk * 6 + q)) (fun q => fm_src fa mo rk w 3 q 0) (fun q => fm_src fa mo rk w 3 q 1) j (p0 + 1)) p0 L (tl (mk * 6 + p0)) (ol (mk * 6 + p0)))))), (5, .int (nI (tl (mk * 6 + p0)))), (4, .int (nI (ol (mk * 6 + p0)))), (0, .ref (hF)), (1, .int (nI (p0))), (2, .int (nI (mk))), (3, .int (nI (w)))] d_Fi_sumFrom_95 hl (by decide) rfl rfl (fun ls hl => ?_)
      refine mg_iload X 99 d_Fi_sumFrom_97 (lv_at hl 0 rfl) rfl ?_
      exact mg_iret X hr hlk (rfl) (()) (by show nI _ = nI (if ol (mk * 6 + p0) = 0 then _ else _); rw [if_neg hs, if_neg he]) hw d_Fi_sumFrom_99
  · -- pc 26 f
    refine mg_aload_n X 30 d_Fi_sumFrom_29 (lv_at hl 0 rfl) rfl ?_
    refine mg_iload_n X 31 d_Fi_sumFrom_30 (lv_at hl 1 rfl) rfl ?_
    refine mg_iconst X 32 1 d_Fi_sumFrom_31 mg_ci_1 rfl ?_
    refine mg_iadd X 33 (nI (p0 + 1)) d_Fi_sumFrom_32 (nI_add _ _) rfl ?_
    refine mg_iload_n X 34 d_Fi_sumFrom_33 (lv_at hl 2 rfl) rfl ?_
    refine mg_iload_n X 35 d_Fi_sumFrom_34 (lv_at hl 3 rfl) rfl ?_
    refine mg_callVi X hK hw hA 38 [0, 1, 2, 3, 4, 5, 6, 7, 8, 9] 0 (fun _ => [mg_ob hF 3 [.ref (h), .ref (hM), .ref (qtb), .ref (ql)], mg_ai K ql 6 L, mg_ob h 1 [.ref (qf), .ref (qm), .ref (qr), .int (nI (nf)), .int (nI (nc))], mg_ai K qf 6 fa, mg_ai K qm 6 mo, mg_ai K qr 6 rk, mg_ob hM 2 [.ref (qw), .ref (qra), .ref (qo), .ref (qt), .int (nI (nm)), .int (nI (sg))], mg_ai K qw 12 wt, mg_ai K qo 24 ol, mg_ai K qt 24 tl]) rfl rfl (hrec L (hL)) g_Fi_42 ⟨by dsimp only; omega, by dsimp only; omega⟩ ⟨rfl, rfl⟩ rfl rfl rfl hl.1 (rest := []) (As := [.int (nI (p0 + 1)), .int (nI (mk)), .int (nI (w))]) rfl (Nat.le_of_ble_eq_true rfl) d_Fi_sumFrom_35 ⟨Nat.zero_le _, Nat.zero_le _⟩ (fun _ => rfl) (fun _ => rfl) rfl ?_
    intro r _ H locs hp14 hw
    subst hp14
    exact mg_iret X hr hlk (rfl) (()) (by show nI _ = nI (if ol (mk * 6 + p0) = 0 then _ else _); rw [if_pos (Classical.not_not.mp hs)]) hw d_Fi_sumFrom_38

set_option maxRecDepth 100000 in
set_option maxHeartbeats 4000000 in
theorem k_Fi_sumFrom0 (l : Launch) (D : va_G) (K : Nat → ClassId) (hF : Nat) (qtb : Nat) (ql : Nat) (h : Nat) (qf : Nat) (qm : Nat) (qr : Nat) (nf : Nat) (nc : Nat) (hM : Nat) (qw : Nat) (qra : Nat) (qo : Nat) (qt : Nat) (nm : Nat) (sg : Nat) (fa : Nat → Nat) (mo : Nat → Nat) (rk : Nat → Nat) (wt : Nat → Nat) (ol : Nat → Nat) (tl : Nat → Nat) (L : Nat → Nat) (mk : Nat) (w : Nat) (p0 : Nat) (hF0 : fm_ok nf nc fa mo rk) (hm : mk < 4) (hW : ∀ l, 1 ≤ l → l ≤ 3 → ma_wt wt mk l ≤ 8) (hL : ∀ k, k < 6 → L k ≤ 3) (hp : p0 = nf + nc) : mg_Mi l D K y_Fi_sumFrom b_Fi_sumFrom 7 (.int) ({ frames := 2, cells := 0, slots := 0, locals := 50 }) [.ref (hF), .int (nI (p0)), .int (nI (mk)), .int (nI (w))] [mg_ob hF 3 [.ref (h), .ref (hM), .ref (qtb), .ref (ql)], mg_ai K ql 6 L, mg_ob h 1 [.ref (qf), .ref (qm), .ref (qr), .int (nI (nf)), .int (nI (nc))], mg_ai K qf 6 fa, mg_ai K qm 6 mo, mg_ai K qr 6 rk, mg_ob hM 2 [.ref (qw), .ref (qra), .ref (qo), .ref (qt), .int (nI (nm)), .int (nI (sg))], mg_ai K qw 12 wt, mg_ai K qo 24 ol, mg_ai K qt 24 tl] (fun (r : Int32) (_ : Unit) => r = nI (ft_from (ma_wt wt mk) (2 * nf) (fun q => ol (mk * 6 + q)) (fun q => tl (mk * 6 + q)) (fun q => fm_src fa mo rk w 3 q 0) (fun q => fm_src fa mo rk w 3 q 1) 0 p0 L)) (fun (_ : Unit) => [mg_ob hF 3 [.ref (h), .ref (hM), .ref (qtb), .ref (ql)], mg_ai K ql 6 L, mg_ob h 1 [.ref (qf), .ref (qm), .ref (qr), .int (nI (nf)), .int (nI (nc))], mg_ai K qf 6 fa, mg_ai K qm 6 mo, mg_ai K qr 6 rk, mg_ob hM 2 [.ref (qw), .ref (qra), .ref (qo), .ref (qt), .int (nI (nm)), .int (nI (sg))], mg_ai K qw 12 wt, mg_ai K qo 24 ol, mg_ai K qt 24 tl]) := by
  intro sz
  refine mg_entry (Qc := fun A => va_Qi (fun (r : Int32) (_ : Unit) => r = nI (ft_from (ma_wt wt mk) (2 * nf) (fun q => ol (mk * 6 + q)) (fun q => tl (mk * 6 + q)) (fun q => fm_src fa mo rk w 3 q 0) (fun q => fm_src fa mo rk w 3 q 1) 0 p0 L)) (mg_B D A (fun (_ : Unit) => [mg_ob hF 3 [.ref (h), .ref (hM), .ref (qtb), .ref (ql)], mg_ai K ql 6 L, mg_ob h 1 [.ref (qf), .ref (qm), .ref (qr), .int (nI (nf)), .int (nI (nc))], mg_ai K qf 6 fa, mg_ai K qm 6 mo, mg_ai K qr 6 rk, mg_ob hM 2 [.ref (qw), .ref (qra), .ref (qo), .ref (qt), .int (nI (nm)), .int (nI (sg))], mg_ai K qw 12 wt, mg_ai K qo 24 ol, mg_ai K qt 24 tl])) A) (by decide) (Nat.le_of_ble_eq_true rfl) ?_
  intro p e s m args below meth c A ls X hr hlk hnm hA hK hw hl
  have hl : lv_has ls 7 [(0, .ref (hF)), (1, .int (nI (p0))), (2, .int (nI (mk))), (3, .int (nI (w)))] := hl
  have hf1 := hF0.1
  have hf2 := hF0.2.1
  refine mg_iload_n X 1 d_Fi_sumFrom_0 (lv_at hl 1 rfl) rfl ?_
  refine mg_aload_n X 2 d_Fi_sumFrom_1 (lv_at hl 0 rfl) rfl ?_
  refine mg_get X hK hw 5 0 0 f_Fi_9 rfl rfl d_Fi_sumFrom_2 rfl ?_
  refine mg_callVi X hK hw hA 8 [2] 2 (fun _ => [mg_ob hF 3 [.ref (h), .ref (hM), .ref (qtb), .ref (ql)], mg_ai K ql 6 L, mg_ob h 1 [.ref (qf), .ref (qm), .ref (qr), .int (nI (nf)), .int (nI (nc))], mg_ai K qf 6 fa, mg_ai K qm 6 mo, mg_ai K qr 6 rk, mg_ob hM 2 [.ref (qw), .ref (qra), .ref (qo), .ref (qt), .int (nI (nm)), .int (nI (sg))], mg_ai K qw 12 wt, mg_ai K qo 24 ol, mg_ai K qt 24 tl]) rfl rfl (k_Fa_persons l D K h qf qm qr nf nc ) g_Fi_46 ⟨by decide, by decide⟩ ⟨rfl, rfl⟩ rfl rfl rfl hl.1 (rest := [.int (nI (p0))]) (As := []) rfl (Nat.le_of_ble_eq_true rfl) d_Fi_sumFrom_5 ⟨Nat.zero_le _, Nat.zero_le _⟩ (fun _ => rfl) (fun _ => rfl) rfl ?_
  intro r _ H locs hp2 hw
  subst hp2
  refine mg_icmp_lt X 17 11 (by omega) (by omega) d_Fi_sumFrom_8 (by decide) rfl (fun hlt => absurd hlt (by omega)) (fun hlt => ?_)
  refine mg_aload_n X 12 d_Fi_sumFrom_11 (lv_at hl 0 rfl) rfl ?_
  refine mg_iload_n X 13 d_Fi_sumFrom_12 (lv_at hl 2 rfl) rfl ?_
  refine mg_callVi X hK hw hA 16 [0, 1, 2, 6, 7] 0 (fun _ => [mg_ob hF 3 [.ref (h), .ref (hM), .ref (qtb), .ref (ql)], mg_ai K ql 6 L, mg_ob h 1 [.ref (qf), .ref (qm), .ref (qr), .int (nI (nf)), .int (nI (nc))], mg_ai K qf 6 fa, mg_ai K qm 6 mo, mg_ai K qr 6 rk, mg_ob hM 2 [.ref (qw), .ref (qra), .ref (qo), .ref (qt), .int (nI (nm)), .int (nI (sg))], mg_ai K qw 12 wt, mg_ai K qo 24 ol, mg_ai K qt 24 tl]) rfl rfl (k_Fi_weightOfLetters l D K hF qtb ql h qf qm qr nf nc hM qw qra qo qt nm sg wt L mk (by omega) (by omega) (hW) (hL)) g_Fi_49 ⟨by decide, by decide⟩ ⟨rfl, rfl⟩ rfl rfl rfl hl.1 (rest := []) (As := [.int (nI (mk))]) rfl (Nat.le_of_ble_eq_true rfl) d_Fi_sumFrom_13 ⟨Nat.zero_le _, Nat.zero_le _⟩ (fun _ => rfl) (fun _ => rfl) rfl ?_
  intro r _ H locs hp4 hw
  subst hp4
  exact mg_iret X hr hlk (rfl) (()) (rfl) hw d_Fi_sumFrom_16

set_option maxRecDepth 100000 in
set_option maxHeartbeats 4000000 in
theorem k_Fi_sumFromJ (l : Launch) (D : va_G) (K : Nat → ClassId) (hF : Nat) (qtb : Nat) (ql : Nat) (h : Nat) (qf : Nat) (qm : Nat) (qr : Nat) (nf : Nat) (nc : Nat) (hM : Nat) (qw : Nat) (qra : Nat) (qo : Nat) (qt : Nat) (nm : Nat) (sg : Nat) (fa : Nat → Nat) (mo : Nat → Nat) (rk : Nat → Nat) (wt : Nat → Nat) (ol : Nat → Nat) (tl : Nat → Nat) (mk : Nat) (w : Nat) (hF0 : fm_ok nf nc fa mo rk) (hm : mk < 4) (hw1 : w < 64) (hol : ∀ k, k < 24 → ol k ≤ 3) (htl : ∀ k, k < 24 → tl k ≤ 3) (hW : ∀ l, 1 ≤ l → l ≤ 3 → ma_wt wt mk l ≤ 8) (hsn : ∀ q, q < 6 → ol (mk * 6 + q) = 0 ∨ 1 ≤ tl (mk * 6 + q)) : ∀ (j : Nat), ∀ (L : Nat → Nat) (p0 : Nat), (∀ k, k < 6 → L k ≤ 3) → (p0 + j = nf + nc) → mg_Mi l D K y_Fi_sumFrom b_Fi_sumFrom 7 (.int) ({ frames := 2 * j + 2, cells := 0, slots := 0, locals := 60 * j + 50 }) [.ref (hF), .int (nI (p0)), .int (nI (mk)), .int (nI (w))] [mg_ob hF 3 [.ref (h), .ref (hM), .ref (qtb), .ref (ql)], mg_ai K ql 6 L, mg_ob h 1 [.ref (qf), .ref (qm), .ref (qr), .int (nI (nf)), .int (nI (nc))], mg_ai K qf 6 fa, mg_ai K qm 6 mo, mg_ai K qr 6 rk, mg_ob hM 2 [.ref (qw), .ref (qra), .ref (qo), .ref (qt), .int (nI (nm)), .int (nI (sg))], mg_ai K qw 12 wt, mg_ai K qo 24 ol, mg_ai K qt 24 tl] (fun (r : Int32) (_ : Unit) => r = nI (ft_from (ma_wt wt mk) (2 * nf) (fun q => ol (mk * 6 + q)) (fun q => tl (mk * 6 + q)) (fun q => fm_src fa mo rk w 3 q 0) (fun q => fm_src fa mo rk w 3 q 1) j p0 L)) (fun (_ : Unit) => [mg_ob hF 3 [.ref (h), .ref (hM), .ref (qtb), .ref (ql)], mg_ai K ql 6 L, mg_ob h 1 [.ref (qf), .ref (qm), .ref (qr), .int (nI (nf)), .int (nI (nc))], mg_ai K qf 6 fa, mg_ai K qm 6 mo, mg_ai K qr 6 rk, mg_ob hM 2 [.ref (qw), .ref (qra), .ref (qo), .ref (qt), .int (nI (nm)), .int (nI (sg))], mg_ai K qw 12 wt, mg_ai K qo 24 ol, mg_ai K qt 24 tl]) := by
  intro j
  induction j with
  | zero =>
    intro L p0 hL hp
    exact k_Fi_sumFrom0 l D K hF qtb ql h qf qm qr nf nc hM qw qra qo qt nm sg fa mo rk wt ol tl L mk w p0 hF0 hm hW hL (by omega)
  | succ j ih =>
    intro L p0 hL hp
    have hrec := fun (L1 : Nat → Nat) (hL1 : ∀ k, k < 6 → L1 k ≤ 3) => ih L1 (p0 + 1) hL1 (by omega)
    have h := k_Fi_sumFrom l D K hF qtb ql h qf qm qr nf nc hM qw qra qo qt nm sg fa mo rk wt ol tl L mk w j p0 (2 * j + 2) (60 * j + 50) hF0 hm hw1 hol htl hW hsn hL hp hrec
    rw [show 2 * (j + 1) + 2 = 2 * j + 2 + 2 by omega, show 60 * (j + 1) + 50 = 60 * j + 50 + 60 by omega]
    exact h

set_option maxRecDepth 100000 in
set_option maxHeartbeats 4000000 in
theorem k_Fi_sum (l : Launch) (D : va_G) (K : Nat → ClassId) (hF : Nat) (qtb : Nat) (ql : Nat) (h : Nat) (qf : Nat) (qm : Nat) (qr : Nat) (nf : Nat) (nc : Nat) (hM : Nat) (qw : Nat) (qra : Nat) (qo : Nat) (qt : Nat) (nm : Nat) (sg : Nat) (fa : Nat → Nat) (mo : Nat → Nat) (rk : Nat → Nat) (wt : Nat → Nat) (ol : Nat → Nat) (tl : Nat → Nat) (mk : Nat) (w : Nat) (hF0 : fm_ok nf nc fa mo rk) (hS : sn_ok ol tl) (hm : mk < 4) (hw1 : w < 64) (hW8 : ma_wt wt mk 1 + ma_wt wt mk 2 + ma_wt wt mk 3 = 8) : mg_Mi l D K y_Fi_sumFrom b_Fi_sumFrom 7 (.int) ({ frames := 2 * (nf + nc) + 2, cells := 0, slots := 0, locals := 60 * (nf + nc) + 50 }) [.ref (hF), .int (nI (0)), .int (nI (mk)), .int (nI (w))] [mg_ob hF 3 [.ref (h), .ref (hM), .ref (qtb), .ref (ql)], mg_ai K ql 6 (fun _ => 0), mg_ob h 1 [.ref (qf), .ref (qm), .ref (qr), .int (nI (nf)), .int (nI (nc))], mg_ai K qf 6 fa, mg_ai K qm 6 mo, mg_ai K qr 6 rk, mg_ob hM 2 [.ref (qw), .ref (qra), .ref (qo), .ref (qt), .int (nI (nm)), .int (nI (sg))], mg_ai K qw 12 wt, mg_ai K qo 24 ol, mg_ai K qt 24 tl] (fun (r : Int32) (_ : Unit) => r = nI (fi_fit wt ol tl fa mo rk nf nc mk w)) (fun (_ : Unit) => [mg_ob hF 3 [.ref (h), .ref (hM), .ref (qtb), .ref (ql)], mg_ai K ql 6 (fun _ => 0), mg_ob h 1 [.ref (qf), .ref (qm), .ref (qr), .int (nI (nf)), .int (nI (nc))], mg_ai K qf 6 fa, mg_ai K qm 6 mo, mg_ai K qr 6 rk, mg_ob hM 2 [.ref (qw), .ref (qra), .ref (qo), .ref (qt), .int (nI (nm)), .int (nI (sg))], mg_ai K qw 12 wt, mg_ai K qo 24 ol, mg_ai K qt 24 tl]) := by
  have h := k_Fi_sumFromJ l D K hF qtb ql h qf qm qr nf nc hM qw qra qo qt nm sg fa mo rk wt ol tl mk w hF0 hm hw1 hS.1 hS.2.1 (ma_w8 hW8) (fun q hq => hS.2.2 (mk * 6 + q) (by omega)) (nf + nc) (fun _ => 0) 0 (fun _ _ => Nat.zero_le _) (by omega)
  rw [fi_fit_eq hF0 hS hm hW8] at h
  exact h

set_option maxRecDepth 100000 in
set_option maxHeartbeats 4000000 in
theorem k_Fi_renew (l : Launch) (D : va_G) (K : Nat → ClassId) (hF : Nat) (qtb : Nat) (ql : Nat) (h : Nat) (qf : Nat) (qm : Nat) (qr : Nat) (nf : Nat) (nc : Nat) (hM : Nat) (qw : Nat) (qra : Nat) (qo : Nat) (qt : Nat) (nm : Nat) (sg : Nat) (fa : Nat → Nat) (mo : Nat → Nat) (rk : Nat → Nat) (wt : Nat → Nat) (ol : Nat → Nat) (tl : Nat → Nat) (tb : Nat → Nat) (mk : Nat) (hF0 : fm_ok nf nc fa mo rk) (hS : sn_ok ol tl) (hm : mk < 4) (hW8 : ma_wt wt mk 1 + ma_wt wt mk 2 + ma_wt wt mk 3 = 8) : mg_Mv l D K y_Fi_renew b_Fi_renew 3 ({ frames := 20, cells := 0, slots := 0, locals := 480 }) [.ref (hF), .int (nI (mk))] [mg_ob hF 3 [.ref (h), .ref (hM), .ref (qtb), .ref (ql)], mg_ai K ql 6 (fun _ => 0), mg_ai K qtb 256 tb, mg_ob h 1 [.ref (qf), .ref (qm), .ref (qr), .int (nI (nf)), .int (nI (nc))], mg_ai K qf 6 fa, mg_ai K qm 6 mo, mg_ai K qr 6 rk, mg_ob hM 2 [.ref (qw), .ref (qra), .ref (qo), .ref (qt), .int (nI (nm)), .int (nI (sg))], mg_ai K qw 12 wt, mg_ai K qo 24 ol, mg_ai K qt 24 tl] (fun (_ : Unit) => True) (fun (_ : Unit) => [mg_ob hF 3 [.ref (h), .ref (hM), .ref (qtb), .ref (ql)], mg_ai K ql 6 (fun _ => 0), mg_ai K qtb 256 (fi_tb tb (fi_fit wt ol tl fa mo rk nf nc mk) mk (2 ^ (2 * nc))), mg_ob h 1 [.ref (qf), .ref (qm), .ref (qr), .int (nI (nf)), .int (nI (nc))], mg_ai K qf 6 fa, mg_ai K qm 6 mo, mg_ai K qr 6 rk, mg_ob hM 2 [.ref (qw), .ref (qra), .ref (qo), .ref (qt), .int (nI (nm)), .int (nI (sg))], mg_ai K qw 12 wt, mg_ai K qo 24 ol, mg_ai K qt 24 tl]) := by
  intro sz
  refine mg_entry (Qc := fun A => va_Qv (fun (_ : Unit) => True) (mg_B D A (fun (_ : Unit) => [mg_ob hF 3 [.ref (h), .ref (hM), .ref (qtb), .ref (ql)], mg_ai K ql 6 (fun _ => 0), mg_ai K qtb 256 (fi_tb tb (fi_fit wt ol tl fa mo rk nf nc mk) mk (2 ^ (2 * nc))), mg_ob h 1 [.ref (qf), .ref (qm), .ref (qr), .int (nI (nf)), .int (nI (nc))], mg_ai K qf 6 fa, mg_ai K qm 6 mo, mg_ai K qr 6 rk, mg_ob hM 2 [.ref (qw), .ref (qra), .ref (qo), .ref (qt), .int (nI (nm)), .int (nI (sg))], mg_ai K qw 12 wt, mg_ai K qo 24 ol, mg_ai K qt 24 tl])) A) (by decide) (Nat.le_of_ble_eq_true rfl) ?_
  intro p e s m args below meth c A ls X hr hlk hnm hA hK hw hl
  have hl : lv_has ls 3 [(0, .ref (hF)), (1, .int (nI (mk)))] := hl
  have hf1 := hF0.1
  have hf2 := hF0.2.1
  have hw6 := mg_ways hf2
  rw [← fi_tb0 tb (fi_fit wt ol tl fa mo rk nf nc mk) mk] at hw
  refine mg_iconst X 1 0 d_Fi_renew_0 mg_ci_0 rfl ?_
  refine mg_istore_n X 2 [(2, .int (nI (0))), (0, .ref (hF)), (1, .int (nI (mk)))] d_Fi_renew_1 hl (by decide) rfl rfl (fun ls hl => ?_)
  have L2 : ∀ (n0 : Nat) (w : Nat), n0 = 2 ^ (2 * nc) - w → (w ≤ 2 ^ (2 * nc)) → ∀ (ls : Array Slot) (H : Heap) (locs : List Loc), lv_has ls 3 [(0, .ref (hF)), (1, .int (nI (mk))), (2, .int (nI (w)))] → mg_H D A s.heap H locs [mg_ob hF 3 [.ref (h), .ref (hM), .ref (qtb), .ref (ql)], mg_ai K ql 6 (fun _ => 0), mg_ai K qtb 256 (fi_tb tb (fi_fit wt ol tl fa mo rk nf nc mk) mk w), mg_ob h 1 [.ref (qf), .ref (qm), .ref (qr), .int (nI (nf)), .int (nI (nc))], mg_ai K qf 6 fa, mg_ai K qm 6 mo, mg_ai K qr 6 rk, mg_ob hM 2 [.ref (qw), .ref (qra), .ref (qo), .ref (qt), .int (nI (nm)), .int (nI (sg))], mg_ai K qw 12 wt, mg_ai K qo 24 ol, mg_ai K qt 24 tl] → W p l e ({ frames := 20, cells := 0, slots := 0, locals := 480 }) s m args below meth c H locs 0 0 (MQ below (va_Qv (fun (_ : Unit) => True) (mg_B D A (fun (_ : Unit) => [mg_ob hF 3 [.ref (h), .ref (hM), .ref (qtb), .ref (ql)], mg_ai K ql 6 (fun _ => 0), mg_ai K qtb 256 (fi_tb tb (fi_fit wt ol tl fa mo rk nf nc mk) mk (2 ^ (2 * nc))), mg_ob h 1 [.ref (qf), .ref (qm), .ref (qr), .int (nI (nf)), .int (nI (nc))], mg_ai K qf 6 fa, mg_ai K qm 6 mo, mg_ai K qr 6 rk, mg_ob hM 2 [.ref (qw), .ref (qra), .ref (qo), .ref (qt), .int (nI (nm)), .int (nI (sg))], mg_ai K qw 12 wt, mg_ai K qo 24 ol, mg_ai K qt 24 tl])) A) args s (0) (0) A) (F0 m 2 ls []) := by
    intro n0
    induction n0 using Nat.strongRecOn with
    | ind n0 ih2 =>
    intro w hm2 hk ls H locs hl hw
    refine mg_iload_n X 3 d_Fi_renew_2 (lv_at hl 2 rfl) rfl ?_
    refine mg_aload_n X 4 d_Fi_renew_3 (lv_at hl 0 rfl) rfl ?_
    refine mg_get X hK hw 7 0 0 f_Fi_9 rfl rfl d_Fi_renew_4 rfl ?_
    refine mg_callVi X hK hw hA 10 [3] 3 (fun _ => [mg_ob hF 3 [.ref (h), .ref (hM), .ref (qtb), .ref (ql)], mg_ai K ql 6 (fun _ => 0), mg_ai K qtb 256 (fi_tb tb (fi_fit wt ol tl fa mo rk nf nc mk) mk w), mg_ob h 1 [.ref (qf), .ref (qm), .ref (qr), .int (nI (nf)), .int (nI (nc))], mg_ai K qf 6 fa, mg_ai K qm 6 mo, mg_ai K qr 6 rk, mg_ob hM 2 [.ref (qw), .ref (qra), .ref (qo), .ref (qt), .int (nI (nm)), .int (nI (sg))], mg_ai K qw 12 wt, mg_ai K qo 24 ol, mg_ai K qt 24 tl]) rfl rfl (k_Fa_ways l D K h qf qm qr nf nc (by omega)) g_Fi_36 ⟨by decide, by decide⟩ ⟨rfl, rfl⟩ rfl rfl rfl hl.1 (rest := [.int (nI (w))]) (As := []) rfl (Nat.le_of_ble_eq_true rfl) d_Fi_renew_7 ⟨Nat.zero_le _, Nat.zero_le _⟩ (fun _ => rfl) (fun _ => rfl) rfl ?_
    intro r _ H locs hp2 hw
    subst hp2
    refine mg_icmp_ge X 37 13 (by omega) (by omega) d_Fi_renew_10 (by decide) rfl (fun hb => ?_) (fun hb => ?_)
    · -- pc 10 t
      obtain rfl : w = 2 ^ (2 * nc) := by omega
      exact mg_vret X hr hlk (()) (trivial) hw d_Fi_renew_37
    · -- pc 10 f
      refine mg_aload_n X 14 d_Fi_renew_13 (lv_at hl 0 rfl) rfl ?_
      refine mg_get X hK hw 17 0 2 f_Fi_19 rfl rfl d_Fi_renew_14 rfl ?_
      refine mg_iload_n X 18 d_Fi_renew_17 (lv_at hl 1 rfl) rfl ?_
      refine mg_bipush X 20 64 d_Fi_renew_18 mg_cb_64 rfl ?_
      refine mg_imul X 21 (nI (mk * 64)) d_Fi_renew_20 (pk_mul _ _) rfl ?_
      refine mg_iload_n X 22 d_Fi_renew_21 (lv_at hl 2 rfl) rfl ?_
      refine mg_iadd X 23 (nI ((mk * 64) + w)) d_Fi_renew_22 (nI_add _ _) rfl ?_
      refine mg_aload_n X 24 d_Fi_renew_23 (lv_at hl 0 rfl) rfl ?_
      refine mg_iconst X 25 0 d_Fi_renew_24 mg_ci_0 rfl ?_
      refine mg_iload_n X 26 d_Fi_renew_25 (lv_at hl 1 rfl) rfl ?_
      refine mg_iload_n X 27 d_Fi_renew_26 (lv_at hl 2 rfl) rfl ?_
      refine mg_callVi X hK hw hA 30 [0, 1, 3, 4, 5, 6, 7, 8, 9, 10] 0 (fun _ => [mg_ob hF 3 [.ref (h), .ref (hM), .ref (qtb), .ref (ql)], mg_ai K ql 6 (fun _ => 0), mg_ai K qtb 256 (fi_tb tb (fi_fit wt ol tl fa mo rk nf nc mk) mk w), mg_ob h 1 [.ref (qf), .ref (qm), .ref (qr), .int (nI (nf)), .int (nI (nc))], mg_ai K qf 6 fa, mg_ai K qm 6 mo, mg_ai K qr 6 rk, mg_ob hM 2 [.ref (qw), .ref (qra), .ref (qo), .ref (qt), .int (nI (nm)), .int (nI (sg))], mg_ai K qw 12 wt, mg_ai K qo 24 ol, mg_ai K qt 24 tl]) rfl rfl (k_Fi_sum l D K hF qtb ql h qf qm qr nf nc hM qw qra qo qt nm sg fa mo rk wt ol tl mk w (hF0) (hS) (by omega) (by omega) (hW8)) g_Fi_42 ⟨by dsimp only; omega, by dsimp only; omega⟩ ⟨rfl, rfl⟩ rfl rfl rfl hl.1 (rest := [.int (nI ((mk * 64) + w)), .ref (qtb)]) (As := [.int (nI (0)), .int (nI (mk)), .int (nI (w))]) rfl (Nat.le_of_ble_eq_true rfl) d_Fi_renew_27 ⟨Nat.zero_le _, Nat.zero_le _⟩ (fun _ => rfl) (fun _ => rfl) rfl ?_
      intro r _ H locs hp4 hw
      subst hp4
      refine mg_iast X hK hw 31 2 [mg_ob hF 3 [.ref (h), .ref (hM), .ref (qtb), .ref (ql)], mg_ai K ql 6 (fun _ => 0), mg_ai K qtb 256 (va_up (fi_tb tb (fi_fit wt ol tl fa mo rk nf nc mk) mk w) ((mk * 64) + w) (fi_fit wt ol tl fa mo rk nf nc mk w)), mg_ob h 1 [.ref (qf), .ref (qm), .ref (qr), .int (nI (nf)), .int (nI (nc))], mg_ai K qf 6 fa, mg_ai K qm 6 mo, mg_ai K qr 6 rk, mg_ob hM 2 [.ref (qw), .ref (qra), .ref (qo), .ref (qt), .int (nI (nm)), .int (nI (sg))], mg_ai K qw 12 wt, mg_ai K qo 24 ol, mg_ai K qt 24 tl] rfl (by omega) (by omega) d_Fi_renew_30 rfl rfl (fun H locs hw => ?_)
      refine mg_iinc X 34 [(2, .int (nI (w + 1))), (0, .ref (hF)), (1, .int (nI (mk)))] (w + 1) d_Fi_renew_31 hl (k := 2) rfl (mg_inc1 _) (by decide) rfl rfl (fun ls hl => ?_)
      refine mg_goto X 2 d_Fi_renew_34 (by decide) ?_
      have hl : lv_has ls 3 [(0, .ref (hF)), (1, .int (nI (mk))), (2, .int (nI (w + 1)))] := lv_sub hl [1, 2, 0] rfl
      rw [fi_tbS] at hw
      exact ih2 _ (by omega) (w + 1) rfl (by omega) ls _ _ hl hw
  have hl : lv_has ls 3 [(0, .ref (hF)), (1, .int (nI (mk))), (2, .int (nI (0)))] := lv_sub hl [1, 2, 0] rfl
  exact L2 _ 0 rfl (Nat.zero_le _) ls _ _ hl hw

set_option maxRecDepth 100000 in
set_option maxHeartbeats 4000000 in
theorem k_Fi_renewAll (l : Launch) (D : va_G) (K : Nat → ClassId) (hF : Nat) (qtb : Nat) (ql : Nat) (h : Nat) (qf : Nat) (qm : Nat) (qr : Nat) (nf : Nat) (nc : Nat) (hM : Nat) (qw : Nat) (qra : Nat) (qo : Nat) (qt : Nat) (nm : Nat) (sg : Nat) (fa : Nat → Nat) (mo : Nat → Nat) (rk : Nat → Nat) (wt : Nat → Nat) (ol : Nat → Nat) (tl : Nat → Nat) (tb : Nat → Nat) (hF0 : fm_ok nf nc fa mo rk) (hS : sn_ok ol tl) (hn : nm ≤ 4) (hW8 : ∀ k, k < nm → ma_wt wt k 1 + ma_wt wt k 2 + ma_wt wt k 3 = 8) : mg_Mv l D K y_Fi_renewAll b_Fi_renewAll 2 ({ frames := 21, cells := 0, slots := 0, locals := 502 }) [.ref (hF)] [mg_ob hF 3 [.ref (h), .ref (hM), .ref (qtb), .ref (ql)], mg_ai K ql 6 (fun _ => 0), mg_ai K qtb 256 tb, mg_ob h 1 [.ref (qf), .ref (qm), .ref (qr), .int (nI (nf)), .int (nI (nc))], mg_ai K qf 6 fa, mg_ai K qm 6 mo, mg_ai K qr 6 rk, mg_ob hM 2 [.ref (qw), .ref (qra), .ref (qo), .ref (qt), .int (nI (nm)), .int (nI (sg))], mg_ai K qw 12 wt, mg_ai K qo 24 ol, mg_ai K qt 24 tl] (fun (_ : Unit) => True) (fun (_ : Unit) => [mg_ob hF 3 [.ref (h), .ref (hM), .ref (qtb), .ref (ql)], mg_ai K ql 6 (fun _ => 0), mg_ai K qtb 256 (fi_all tb (fi_fit wt ol tl fa mo rk nf nc) (2 ^ (2 * nc)) nm), mg_ob h 1 [.ref (qf), .ref (qm), .ref (qr), .int (nI (nf)), .int (nI (nc))], mg_ai K qf 6 fa, mg_ai K qm 6 mo, mg_ai K qr 6 rk, mg_ob hM 2 [.ref (qw), .ref (qra), .ref (qo), .ref (qt), .int (nI (nm)), .int (nI (sg))], mg_ai K qw 12 wt, mg_ai K qo 24 ol, mg_ai K qt 24 tl]) := by
  intro sz
  refine mg_entry (Qc := fun A => va_Qv (fun (_ : Unit) => True) (mg_B D A (fun (_ : Unit) => [mg_ob hF 3 [.ref (h), .ref (hM), .ref (qtb), .ref (ql)], mg_ai K ql 6 (fun _ => 0), mg_ai K qtb 256 (fi_all tb (fi_fit wt ol tl fa mo rk nf nc) (2 ^ (2 * nc)) nm), mg_ob h 1 [.ref (qf), .ref (qm), .ref (qr), .int (nI (nf)), .int (nI (nc))], mg_ai K qf 6 fa, mg_ai K qm 6 mo, mg_ai K qr 6 rk, mg_ob hM 2 [.ref (qw), .ref (qra), .ref (qo), .ref (qt), .int (nI (nm)), .int (nI (sg))], mg_ai K qw 12 wt, mg_ai K qo 24 ol, mg_ai K qt 24 tl])) A) (by decide) (Nat.le_of_ble_eq_true rfl) ?_
  intro p e s m args below meth c A ls X hr hlk hnm hA hK hw hl
  have hl : lv_has ls 2 [(0, .ref (hF))] := hl
  have hf1 := hF0.1
  have hf2 := hF0.2.1
  have hw6 := mg_ways hf2
  rw [← fi_all0 tb (fi_fit wt ol tl fa mo rk nf nc) (2 ^ (2 * nc))] at hw
  refine mg_iconst X 1 0 d_Fi_renewAll_0 mg_ci_0 rfl ?_
  refine mg_istore_n X 2 [(1, .int (nI (0))), (0, .ref (hF))] d_Fi_renewAll_1 hl (by decide) rfl rfl (fun ls hl => ?_)
  have L2 : ∀ (n0 : Nat) (k : Nat), n0 = nm - k → (k ≤ nm) → ∀ (ls : Array Slot) (H : Heap) (locs : List Loc), lv_has ls 2 [(0, .ref (hF)), (1, .int (nI (k)))] → mg_H D A s.heap H locs [mg_ob hF 3 [.ref (h), .ref (hM), .ref (qtb), .ref (ql)], mg_ai K ql 6 (fun _ => 0), mg_ai K qtb 256 (fi_all tb (fi_fit wt ol tl fa mo rk nf nc) (2 ^ (2 * nc)) k), mg_ob h 1 [.ref (qf), .ref (qm), .ref (qr), .int (nI (nf)), .int (nI (nc))], mg_ai K qf 6 fa, mg_ai K qm 6 mo, mg_ai K qr 6 rk, mg_ob hM 2 [.ref (qw), .ref (qra), .ref (qo), .ref (qt), .int (nI (nm)), .int (nI (sg))], mg_ai K qw 12 wt, mg_ai K qo 24 ol, mg_ai K qt 24 tl] → W p l e ({ frames := 21, cells := 0, slots := 0, locals := 502 }) s m args below meth c H locs 0 0 (MQ below (va_Qv (fun (_ : Unit) => True) (mg_B D A (fun (_ : Unit) => [mg_ob hF 3 [.ref (h), .ref (hM), .ref (qtb), .ref (ql)], mg_ai K ql 6 (fun _ => 0), mg_ai K qtb 256 (fi_all tb (fi_fit wt ol tl fa mo rk nf nc) (2 ^ (2 * nc)) nm), mg_ob h 1 [.ref (qf), .ref (qm), .ref (qr), .int (nI (nf)), .int (nI (nc))], mg_ai K qf 6 fa, mg_ai K qm 6 mo, mg_ai K qr 6 rk, mg_ob hM 2 [.ref (qw), .ref (qra), .ref (qo), .ref (qt), .int (nI (nm)), .int (nI (sg))], mg_ai K qw 12 wt, mg_ai K qo 24 ol, mg_ai K qt 24 tl])) A) args s (0) (0) A) (F0 m 2 ls []) := by
    intro n0
    induction n0 using Nat.strongRecOn with
    | ind n0 ih2 =>
    intro k hm2 hk ls H locs hl hw
    refine mg_iload_n X 3 d_Fi_renewAll_2 (lv_at hl 1 rfl) rfl ?_
    refine mg_aload_n X 4 d_Fi_renewAll_3 (lv_at hl 0 rfl) rfl ?_
    refine mg_get X hK hw 7 0 1 f_Fi_15 rfl rfl d_Fi_renewAll_4 rfl ?_
    refine mg_get X hK hw 10 7 4 f_Fi_26 rfl rfl d_Fi_renewAll_7 rfl ?_
    refine mg_icmp_ge X 24 13 (by omega) (by omega) d_Fi_renewAll_10 (by decide) rfl (fun hb => ?_) (fun hb => ?_)
    · -- pc 10 t
      obtain rfl : k = nm := by omega
      exact mg_vret X hr hlk (()) (trivial) hw d_Fi_renewAll_24
    · -- pc 10 f
      refine mg_aload_n X 14 d_Fi_renewAll_13 (lv_at hl 0 rfl) rfl ?_
      refine mg_iload_n X 15 d_Fi_renewAll_14 (lv_at hl 1 rfl) rfl ?_
      refine mg_callVv X hK hw hA 18 [0, 1, 2, 3, 4, 5, 6, 7, 8, 9, 10] 0 (fun _ => [mg_ob hF 3 [.ref (h), .ref (hM), .ref (qtb), .ref (ql)], mg_ai K ql 6 (fun _ => 0), mg_ai K qtb 256 (fi_tb (fi_all tb (fi_fit wt ol tl fa mo rk nf nc) (2 ^ (2 * nc)) k) (fi_fit wt ol tl fa mo rk nf nc k) k (2 ^ (2 * nc))), mg_ob h 1 [.ref (qf), .ref (qm), .ref (qr), .int (nI (nf)), .int (nI (nc))], mg_ai K qf 6 fa, mg_ai K qm 6 mo, mg_ai K qr 6 rk, mg_ob hM 2 [.ref (qw), .ref (qra), .ref (qo), .ref (qt), .int (nI (nm)), .int (nI (sg))], mg_ai K qw 12 wt, mg_ai K qo 24 ol, mg_ai K qt 24 tl]) rfl rfl (k_Fi_renew l D K hF qtb ql h qf qm qr nf nc hM qw qra qo qt nm sg fa mo rk wt ol tl (fi_all tb (fi_fit wt ol tl fa mo rk nf nc) (2 ^ (2 * nc)) k) k (hF0) (hS) (by omega) (hW8 k hb)) g_Fi_32 ⟨by decide, by decide⟩ ⟨rfl, rfl⟩ rfl rfl rfl hl.1 (rest := []) (As := [.int (nI (k))]) rfl (Nat.le_of_ble_eq_true rfl) d_Fi_renewAll_15 ⟨Nat.zero_le _, Nat.zero_le _⟩ (fun _ => rfl) (fun _ => rfl) rfl ?_
      intro _ H locs hp2 hw
      refine mg_iinc X 21 [(1, .int (nI (k + 1))), (0, .ref (hF))] (k + 1) d_Fi_renewAll_18 hl (k := 1) rfl (mg_inc1 _) (by decide) rfl rfl (fun ls hl => ?_)
      refine mg_goto X 2 d_Fi_renewAll_21 (by decide) ?_
      have hl : lv_has ls 2 [(0, .ref (hF)), (1, .int (nI (k + 1)))] := lv_sub hl [1, 0] rfl
      rw [fi_allS _ _ hw6] at hw
      exact ih2 _ (by omega) (k + 1) rfl (by omega) ls _ _ hl hw
  have hl : lv_has ls 2 [(0, .ref (hF)), (1, .int (nI (0)))] := lv_sub hl [1, 0] rfl
  exact L2 _ 0 rfl (Nat.zero_le _) ls _ _ hl hw
