set_option maxRecDepth 100000 in
set_option maxHeartbeats 4000000 in
theorem k_Su_quotient (l : Launch) (D : va_G) (K : Nat → ClassId) (aS : Nat) (h : Nat) (hM : Nat) (hF : Nat) (qsr : Nat) (aB : Nat) (aE : Nat) (aQ : Nat) (aT : Nat) (qT : Nat) (x : Nat) (n1 : Nat) (y : Nat) (dT : Nat → Nat) (VT : Nat → Nat) (hRT : am_R 4 dT VT) (hx : x < 3) (hy : y < 3) (hxy : x ≠ y) (hn1 : n1 ≤ 1000) (hy1 : VT y ≤ 2 ^ 150) (hx1 : VT x * n1 < 1000000000 ^ 6) (hq1 : 0 < VT y → VT x * n1 < 2 ^ 28 * VT y) : mg_Mi l D K y_Su_quotient b_Su_quotient 7 (.int) ({ frames := 1, cells := 0, slots := 0, locals := 40 }) [.ref (aS), .int (nI (x)), .int (nI (n1)), .int (nI (y))] [mg_ob aS 4 [.ref (h), .ref (hM), .ref (hF), .ref (qsr), .ref (aB), .ref (aE), .ref (aQ), .ref (aT)], mg_ob aT 0 [.ref (qT)], mg_al K qT (4 * 6) dT] (fun (r : Int32) (uu : (Nat → Nat) × (Nat → Nat)) => r = nI (su_quot (VT x) n1 (VT y)) ∧ am_R 4 uu.1 uu.2) (fun (uu : (Nat → Nat) × (Nat → Nat)) => [mg_ob aS 4 [.ref (h), .ref (hM), .ref (hF), .ref (qsr), .ref (aB), .ref (aE), .ref (aQ), .ref (aT)], mg_ob aT 0 [.ref (qT)], mg_al K qT (4 * 6) uu.1]) := by
  intro sz
  refine mg_entry (Qc := fun A => va_Qi (fun (r : Int32) (uu : (Nat → Nat) × (Nat → Nat)) => r = nI (su_quot (VT x) n1 (VT y)) ∧ am_R 4 uu.1 uu.2) (mg_B D A (fun (uu : (Nat → Nat) × (Nat → Nat)) => [mg_ob aS 4 [.ref (h), .ref (hM), .ref (hF), .ref (qsr), .ref (aB), .ref (aE), .ref (aQ), .ref (aT)], mg_ob aT 0 [.ref (qT)], mg_al K qT (4 * 6) uu.1])) A) (by decide) (Nat.le_of_ble_eq_true rfl) ?_
  intro p e s m args below meth c A ls X hr hlk hnm hA hK hw hl
  have hl : lv_has ls 7 [(0, .ref (aS)), (1, .int (nI (x))), (2, .int (nI (n1))), (3, .int (nI (y)))] := hl
  refine mg_aload_n X 1 d_Su_quotient_0 (lv_at hl 0 rfl) rfl ?_
  refine mg_get X hK hw 4 0 7 f_Su_42 rfl rfl d_Su_quotient_1 rfl ?_
  refine mg_iload_n X 5 d_Su_quotient_4 (lv_at hl 3 rfl) rfl ?_
  refine mg_callVi X hK hw hA 8 [1, 2] 1 (fun _ => [mg_ob aS 4 [.ref (h), .ref (hM), .ref (hF), .ref (qsr), .ref (aB), .ref (aE), .ref (aQ), .ref (aT)], mg_ob aT 0 [.ref (qT)], mg_al K qT (4 * 6) dT]) rfl rfl (k_Am_isZero l D K aT qT 4 y dT VT (by omega) (hRT) (by omega)) g_Su_108 ⟨by decide, by decide⟩ ⟨rfl, rfl⟩ rfl rfl rfl hl.1 (rest := []) (As := [.int (nI (y))]) rfl (Nat.le_of_ble_eq_true rfl) d_Su_quotient_5 ⟨Nat.zero_le _, Nat.zero_le _⟩ (fun _ => rfl) (fun _ => rfl) rfl ?_
  intro r _ H locs hz0 hw
  subst hz0
  refine mg_bif_eq X 13 11 d_Su_quotient_8 (by decide) rfl (fun hz1 => ?_) (fun hz1 => ?_)
  · -- pc 8 t
    have hz : 0 < VT y := Nat.pos_of_ne_zero hz1
    refine mg_aload_n X 14 d_Su_quotient_13 (lv_at hl 0 rfl) rfl ?_
    refine mg_get X hK hw 17 0 7 f_Su_42 rfl rfl d_Su_quotient_14 rfl ?_
    refine mg_iload_n X 18 d_Su_quotient_17 (lv_at hl 1 rfl) rfl ?_
    refine mg_iload_n X 19 d_Su_quotient_18 (lv_at hl 2 rfl) rfl ?_
    refine mg_callVv X hK hw hA 22 [1, 2] 1 (fun u2 => [mg_ob aS 4 [.ref (h), .ref (hM), .ref (hF), .ref (qsr), .ref (aB), .ref (aE), .ref (aQ), .ref (aT)], mg_ob aT 0 [.ref (qT)], mg_al K qT (4 * 6) u2]) rfl rfl (k_Am_multiply l D K aT qT 4 x n1 dT VT (by omega) (hRT) (by omega) (by omega) (hx1)) g_Su_112 ⟨by decide, by decide⟩ ⟨rfl, rfl⟩ rfl rfl rfl hl.1 (rest := []) (As := [.int (nI (x)), .int (nI (n1))]) rfl (Nat.le_of_ble_eq_true rfl) d_Su_quotient_19 ⟨Nat.zero_le _, Nat.zero_le _⟩ (fun _ => rfl) (fun _ => rfl) rfl ?_
    intro u2 H locs hp3 hw
    refine mg_iconst X 23 0 d_Su_quotient_22 mg_ci_0 rfl ?_
    refine mg_istore X 25 [(4, .int (nI (0))), (0, .ref (aS)), (1, .int (nI (x))), (2, .int (nI (n1))), (3, .int (nI (y)))] d_Su_quotient_23 hl (by decide) rfl rfl (fun ls hl => ?_)
    refine mg_bipush X 27 27 d_Su_quotient_25 mg_cb_27 rfl ?_
    refine mg_istore X 29 [(5, .int (nI (27))), (4, .int (nI (0))), (0, .ref (aS)), (1, .int (nI (x))), (2, .int (nI (n1))), (3, .int (nI (y)))] d_Su_quotient_27 hl (by decide) rfl rfl (fun ls hl => ?_)
    have L29 : ∀ (n0 : Nat) (k1 : Nat) (q0 : Nat) (u : Nat → Nat) (V : Nat → Nat), n0 = k1 → (am_R 4 u V) → (k1 ≤ 28) → (V x = VT x * n1) → (V y = VT y) → (su_q (VT x * n1 / VT y) k1 q0) → (q0 + 2 ^ k1 ≤ 2 ^ 28) → ∀ (ls : Array Slot) (H : Heap) (locs : List Loc), lv_has ls 7 [(0, .ref (aS)), (1, .int (nI (x))), (2, .int (nI (n1))), (3, .int (nI (y))), (4, .int (nI (q0))), (5, .int (mg_dn k1))] → mg_H D A s.heap H locs [mg_ob aS 4 [.ref (h), .ref (hM), .ref (hF), .ref (qsr), .ref (aB), .ref (aE), .ref (aQ), .ref (aT)], mg_ob aT 0 [.ref (qT)], mg_al K qT (4 * 6) u] → W p l e ({ frames := 1, cells := 0, slots := 0, locals := 40 }) s m args below meth c H locs 0 0 (MQ below (va_Qi (fun (r : Int32) (uu : (Nat → Nat) × (Nat → Nat)) => r = nI (su_quot (VT x) n1 (VT y)) ∧ am_R 4 uu.1 uu.2) (mg_B D A (fun (uu : (Nat → Nat) × (Nat → Nat)) => [mg_ob aS 4 [.ref (h), .ref (hM), .ref (hF), .ref (qsr), .ref (aB), .ref (aE), .ref (aQ), .ref (aT)], mg_ob aT 0 [.ref (qT)], mg_al K qT (4 * 6) uu.1])) A) args s (0) (0) A) (F0 m 29 ls []) := by
      intro n0
      induction n0 using Nat.strongRecOn with
      | ind n0 ih29 =>
      intro k1 q0 u V hm29 hI hk hVx hVy hq hq2 ls H locs hl hw
      cases k1 with
      | zero =>
        have hl : lv_has ls 7 [(0, .ref (aS)), (1, .int (nI (x))), (2, .int (nI (n1))), (3, .int (nI (y))), (4, .int (nI (q0))), (5, .int (nI (4294967295)))] := hl
        refine mg_iload X 31 d_Su_quotient_29 (lv_at hl 5 rfl) rfl ?_
        refine mg_iflt_y X 84 d_Su_quotient_31 (by decide) ?_
        refine mg_iload X 86 d_Su_quotient_84 (lv_at hl 4 rfl) rfl ?_
        exact mg_iret X hr hlk (rfl) ((u, V)) (⟨by rw [show su_quot (VT x) n1 (VT y) = VT x * n1 / VT y from if_neg (by omega), su_q0 hq], hI⟩) hw d_Su_quotient_86
      | succ k =>
        have hl : lv_has ls 7 [(0, .ref (aS)), (1, .int (nI (x))), (2, .int (nI (n1))), (3, .int (nI (y))), (4, .int (nI (q0))), (5, .int (nI (k)))] := hl
        refine mg_iload X 31 d_Su_quotient_29 (lv_at hl 5 rfl) rfl ?_
        refine mg_iflt_n X 34 (by omega) (tgt := 84) d_Su_quotient_31 (by decide) rfl ?_
        refine mg_iload X 36 d_Su_quotient_34 (lv_at hl 4 rfl) rfl ?_
        refine mg_iconst X 37 1 d_Su_quotient_36 mg_ci_1 rfl ?_
        refine mg_iload X 39 d_Su_quotient_37 (lv_at hl 5 rfl) rfl ?_
        refine mg_ishl X 40 ((nI (2 ^ k))) d_Su_quotient_39 (mg_shl (by omega)) rfl ?_
        refine mg_iadd X 41 (nI (q0 + (2 ^ k))) d_Su_quotient_40 (nI_add _ _) rfl ?_
        refine mg_istore X 43 [(6, .int (nI (q0 + (2 ^ k)))), (0, .ref (aS)), (1, .int (nI (x))), (2, .int (nI (n1))), (3, .int (nI (y))), (4, .int (nI (q0))), (5, .int (nI (k)))] d_Su_quotient_41 hl (by decide) rfl rfl (fun ls hl => ?_)
        refine mg_aload_n X 44 d_Su_quotient_43 (lv_at hl 1 rfl) rfl ?_
        refine mg_get X hK hw 47 0 7 f_Su_42 rfl rfl d_Su_quotient_44 rfl ?_
        refine mg_iconst X 48 3 d_Su_quotient_47 mg_ci_3 rfl ?_
        refine mg_iload_n X 49 d_Su_quotient_48 (lv_at hl 4 rfl) rfl ?_
        refine mg_callVv X hK hw hA 52 [1, 2] 1 (fun u6 => [mg_ob aS 4 [.ref (h), .ref (hM), .ref (hF), .ref (qsr), .ref (aB), .ref (aE), .ref (aQ), .ref (aT)], mg_ob aT 0 [.ref (qT)], mg_al K qT (4 * 6) u6]) rfl rfl (k_Am_copy l D K aT qT 4 3 y u V (by omega) (hI) (by omega) (by omega)) g_Su_90 ⟨by decide, by decide⟩ ⟨rfl, rfl⟩ rfl rfl rfl hl.1 (rest := []) (As := [.int (nI (3)), .int (nI (y))]) rfl (Nat.le_of_ble_eq_true rfl) d_Su_quotient_49 ⟨Nat.zero_le _, Nat.zero_le _⟩ (fun _ => rfl) (fun _ => rfl) rfl ?_
        intro u6 H locs hp7 hw
        refine mg_aload_n X 53 d_Su_quotient_52 (lv_at hl 1 rfl) rfl ?_
        refine mg_get X hK hw 56 0 7 f_Su_42 rfl rfl d_Su_quotient_53 rfl ?_
        refine mg_iconst X 57 3 d_Su_quotient_56 mg_ci_3 rfl ?_
        refine mg_iload X 59 d_Su_quotient_57 (lv_at hl 0 rfl) rfl ?_
        have hp2 : 2 ^ (k + 1) = 2 ^ k * 2 := Nat.pow_succ 2 k
        refine mg_callVv X hK hw hA 62 [1, 2] 1 (fun u8 => [mg_ob aS 4 [.ref (h), .ref (hM), .ref (hF), .ref (qsr), .ref (aB), .ref (aE), .ref (aQ), .ref (aT)], mg_ob aT 0 [.ref (qT)], mg_al K qT (4 * 6) u8]) rfl rfl (k_Am_multiply l D K aT qT 4 3 (q0 + (2 ^ k)) u6 (va_up V 3 (V y)) (by omega) (hp7) (by omega) (by omega) (by rw [va_up_self, hVy]; exact su_lt (su_mul hy1 (show q0 + 2 ^ k ≤ 2 ^ 28 by omega)) (by omega))) g_Su_112 ⟨by decide, by decide⟩ ⟨rfl, rfl⟩ rfl rfl rfl hl.1 (rest := []) (As := [.int (nI (3)), .int (nI (q0 + (2 ^ k)))]) rfl (Nat.le_of_ble_eq_true rfl) d_Su_quotient_59 ⟨Nat.zero_le _, Nat.zero_le _⟩ (fun _ => rfl) (fun _ => rfl) rfl ?_
        intro u8 H locs hp9 hw
        refine mg_aload_n X 63 d_Su_quotient_62 (lv_at hl 1 rfl) rfl ?_
        refine mg_get X hK hw 66 0 7 f_Su_42 rfl rfl d_Su_quotient_63 rfl ?_
        refine mg_iconst X 67 3 d_Su_quotient_66 mg_ci_3 rfl ?_
        refine mg_iload_n X 68 d_Su_quotient_67 (lv_at hl 2 rfl) rfl ?_
        refine mg_callVi X hK hw hA 71 [1, 2] 1 (fun _ => [mg_ob aS 4 [.ref (h), .ref (hM), .ref (hF), .ref (qsr), .ref (aB), .ref (aE), .ref (aQ), .ref (aT)], mg_ob aT 0 [.ref (qT)], mg_al K qT (4 * 6) u8]) rfl rfl (k_Am_compare l D K aT qT 4 3 x u8 (va_up (va_up V 3 (V y)) 3 ((va_up V 3 (V y)) 3 * (q0 + (2 ^ k)))) (by omega) (hp9) (by omega) (by omega)) g_Su_86 ⟨by decide, by decide⟩ ⟨rfl, rfl⟩ rfl rfl rfl hl.1 (rest := []) (As := [.int (nI (3)), .int (nI (x))]) rfl (Nat.le_of_ble_eq_true rfl) d_Su_quotient_68 ⟨Nat.zero_le _, Nat.zero_le _⟩ (fun _ => rfl) (fun _ => rfl) rfl ?_
        intro r _ H locs hp11 hw
        subst hp11
        refine mg_cif_gt X 78 74 d_Su_quotient_71 (by decide) rfl (fun hc => ?_) (fun hc => ?_)
        · -- pc 71 t
          have hc9 : ¬ VT y * (q0 + 2 ^ k) ≤ VT x * n1 := by rw [va_up_self, va_up_self, va_up_ne _ _ (by omega), va_up_ne _ _ (by omega), hVx, hVy] at hc; omega
          refine mg_iincD X 81 [(5, .int (mg_dn k)), (6, .int (nI (q0 + (2 ^ k)))), (0, .ref (aS)), (1, .int (nI (x))), (2, .int (nI (n1))), (3, .int (nI (y))), (4, .int (nI (q0)))] d_Su_quotient_78 hl (k := 6) rfl (by decide) rfl rfl (fun ls hl => ?_)
          refine mg_goto X 29 d_Su_quotient_81 (by decide) ?_
          have hl : lv_has ls 7 [(0, .ref (aS)), (1, .int (nI (x))), (2, .int (nI (n1))), (3, .int (nI (y))), (4, .int (nI (q0))), (5, .int (mg_dn k))] := lv_sub hl [2, 3, 4, 5, 6, 0] rfl
          exact ih29 _ (by omega) k q0 u8 (va_up (va_up V 3 (V y)) 3 ((va_up V 3 (V y)) 3 * (q0 + (2 ^ k)))) rfl (hp9) (by omega) (by rw [va_up_ne _ _ (by omega), va_up_ne _ _ (by omega)]; exact hVx) (by rw [va_up_ne _ _ (by omega), va_up_ne _ _ (by omega)]; exact hVy) (su_qn hq (Nat.lt_of_not_le (fun q9 => hc9 ((su_tr hz).mp q9)))) (by rw [Nat.pow_succ] at hq2; omega) ls _ _ hl hw
        · -- pc 71 f
          have hc9 : VT y * (q0 + 2 ^ k) ≤ VT x * n1 := by rw [va_up_self, va_up_self, va_up_ne _ _ (by omega), va_up_ne _ _ (by omega), hVx, hVy] at hc; exact hc
          refine mg_iload X 76 d_Su_quotient_74 (lv_at hl 0 rfl) rfl ?_
          refine mg_istore X 78 [(4, .int (nI (q0 + (2 ^ k)))), (6, .int (nI (q0 + (2 ^ k)))), (0, .ref (aS)), (1, .int (nI (x))), (2, .int (nI (n1))), (3, .int (nI (y))), (5, .int (nI (k)))] d_Su_quotient_76 hl (by decide) rfl rfl (fun ls hl => ?_)
          refine mg_iincD X 81 [(5, .int (mg_dn k)), (4, .int (nI (q0 + (2 ^ k)))), (6, .int (nI (q0 + (2 ^ k)))), (0, .ref (aS)), (1, .int (nI (x))), (2, .int (nI (n1))), (3, .int (nI (y)))] d_Su_quotient_78 hl (k := 6) rfl (by decide) rfl rfl (fun ls hl => ?_)
          refine mg_goto X 29 d_Su_quotient_81 (by decide) ?_
          have hl : lv_has ls 7 [(0, .ref (aS)), (1, .int (nI (x))), (2, .int (nI (n1))), (3, .int (nI (y))), (4, .int (nI (q0 + (2 ^ k)))), (5, .int (mg_dn k))] := lv_sub hl [3, 4, 5, 6, 1, 0] rfl
          exact ih29 _ (by omega) k (q0 + (2 ^ k)) u8 (va_up (va_up V 3 (V y)) 3 ((va_up V 3 (V y)) 3 * (q0 + (2 ^ k)))) rfl (hp9) (by omega) (by rw [va_up_ne _ _ (by omega), va_up_ne _ _ (by omega)]; exact hVx) (by rw [va_up_ne _ _ (by omega), va_up_ne _ _ (by omega)]; exact hVy) (su_qy hq ((su_tr hz).mpr hc9)) (by rw [Nat.pow_succ] at hq2; omega) ls _ _ hl hw
    have hl : lv_has ls 7 [(0, .ref (aS)), (1, .int (nI (x))), (2, .int (nI (n1))), (3, .int (nI (y))), (4, .int (nI (0))), (5, .int (nI (27)))] := lv_sub hl [2, 3, 4, 5, 1, 0] rfl
    exact L29 _ (27 + 1) 0 u2 (va_up VT x (VT x * n1)) rfl (hp3) (by omega) (by rw [va_up_self]) (by rw [va_up_ne _ _ (Ne.symm hxy)]) (⟨Nat.zero_le _, by rw [Nat.zero_add]; exact su_lt28 hz (hq1 hz)⟩) (by omega) ls _ _ hl hw
  · -- pc 8 f
    refine mg_iconst X 12 4294967295 d_Su_quotient_11 mg_ci_m1 rfl ?_
    exact mg_iret X hr hlk (rfl) ((dT, VT)) (⟨by rw [show su_quot (VT x) n1 (VT y) = 4294967295 from if_pos hz1], hRT⟩) hw d_Su_quotient_12

set_option maxRecDepth 100000 in
set_option maxHeartbeats 4000000 in
theorem k_Su_thousandthsTurned (l : Launch) (D : va_G) (K : Nat → ClassId) (aS : Nat) (h : Nat) (hM : Nat) (hF : Nat) (qsr : Nat) (aB : Nat) (aE : Nat) (aQ : Nat) (aT : Nat) (qf : Nat) (qm : Nat) (qr : Nat) (nf : Nat) (nc : Nat) (qQ : Nat) (qT : Nat) (bi : Nat) (dQ : Nat → Nat) (VQ : Nat → Nat) (dT : Nat → Nat) (VT : Nat → Nat) (hnc : nc ≤ 3) (hRQ : am_R 64 dQ VQ) (hRT : am_R 4 dT VT) (hz : zs_sum (2 ^ (2 * nc)) VQ = VT 0) (hz1 : VT 0 ≤ 2 ^ 150) (hbi : bi < 6) : mg_Mi l D K y_Su_thousandthsTurned b_Su_thousandthsTurned 3 (.int) ({ frames := 2, cells := 0, slots := 0, locals := 70 }) [.ref (aS), .int (nI (bi))] [mg_ob aS 4 [.ref (h), .ref (hM), .ref (hF), .ref (qsr), .ref (aB), .ref (aE), .ref (aQ), .ref (aT)], mg_ob h 1 [.ref (qf), .ref (qm), .ref (qr), .int (nI (nf)), .int (nI (nc))], mg_ob aQ 0 [.ref (qQ)], mg_al K qQ (64 * 6) dQ, mg_ob aT 0 [.ref (qT)], mg_al K qT (4 * 6) dT] (fun (r : Int32) (uu : (Nat → Nat) × (Nat → Nat)) => r = nI (su_quot (su_pick (fun w => w / 2 ^ bi % 2 = 1) VQ (2 ^ (2 * nc))) 1000 (VT 0)) ∧ am_R 4 uu.1 uu.2) (fun (uu : (Nat → Nat) × (Nat → Nat)) => [mg_ob aS 4 [.ref (h), .ref (hM), .ref (hF), .ref (qsr), .ref (aB), .ref (aE), .ref (aQ), .ref (aT)], mg_ob h 1 [.ref (qf), .ref (qm), .ref (qr), .int (nI (nf)), .int (nI (nc))], mg_ob aQ 0 [.ref (qQ)], mg_al K qQ (64 * 6) dQ, mg_ob aT 0 [.ref (qT)], mg_al K qT (4 * 6) uu.1]) := by
  intro sz
  refine mg_entry (Qc := fun A => va_Qi (fun (r : Int32) (uu : (Nat → Nat) × (Nat → Nat)) => r = nI (su_quot (su_pick (fun w => w / 2 ^ bi % 2 = 1) VQ (2 ^ (2 * nc))) 1000 (VT 0)) ∧ am_R 4 uu.1 uu.2) (mg_B D A (fun (uu : (Nat → Nat) × (Nat → Nat)) => [mg_ob aS 4 [.ref (h), .ref (hM), .ref (hF), .ref (qsr), .ref (aB), .ref (aE), .ref (aQ), .ref (aT)], mg_ob h 1 [.ref (qf), .ref (qm), .ref (qr), .int (nI (nf)), .int (nI (nc))], mg_ob aQ 0 [.ref (qQ)], mg_al K qQ (64 * 6) dQ, mg_ob aT 0 [.ref (qT)], mg_al K qT (4 * 6) uu.1])) A) (by decide) (Nat.le_of_ble_eq_true rfl) ?_
  intro p e s m args below meth c A ls X hr hlk hnm hA hK hw hl
  have hl : lv_has ls 3 [(0, .ref (aS)), (1, .int (nI (bi)))] := hl
  have hw6 := mg_ways hnc
  refine mg_aload_n X 1 d_Su_thousandthsTurned_0 (lv_at hl 0 rfl) rfl ?_
  refine mg_get X hK hw 4 0 7 f_Su_42 rfl rfl d_Su_thousandthsTurned_1 rfl ?_
  refine mg_iconst X 5 1 d_Su_thousandthsTurned_4 mg_ci_1 rfl ?_
  refine mg_iconst X 6 0 d_Su_thousandthsTurned_5 mg_ci_0 rfl ?_
  refine mg_callVv X hK hw hA 9 [4, 5] 4 (fun u1 => [mg_ob aS 4 [.ref (h), .ref (hM), .ref (hF), .ref (qsr), .ref (aB), .ref (aE), .ref (aQ), .ref (aT)], mg_ob h 1 [.ref (qf), .ref (qm), .ref (qr), .int (nI (nf)), .int (nI (nc))], mg_ob aQ 0 [.ref (qQ)], mg_al K qQ (64 * 6) dQ, mg_ob aT 0 [.ref (qT)], mg_al K qT (4 * 6) u1]) rfl rfl (k_Am_set l D K aT qT 4 1 0 dT VT (by omega) (hRT) (by omega) (by omega)) g_Su_93 ⟨by decide, by decide⟩ ⟨rfl, rfl⟩ rfl rfl rfl hl.1 (rest := []) (As := [.int (nI (1)), .int (nI (0))]) rfl (Nat.le_of_ble_eq_true rfl) d_Su_thousandthsTurned_6 ⟨Nat.zero_le _, Nat.zero_le _⟩ (fun _ => rfl) (fun _ => rfl) rfl ?_
  intro u1 H locs hp2 hw
  refine mg_iconst X 10 0 d_Su_thousandthsTurned_9 mg_ci_0 rfl ?_
  refine mg_istore_n X 11 [(2, .int (nI (0))), (0, .ref (aS)), (1, .int (nI (bi)))] d_Su_thousandthsTurned_10 hl (by decide) rfl rfl (fun ls hl => ?_)
  have L11 : ∀ (n0 : Nat) (k : Nat) (u : Nat → Nat), n0 = 2 ^ (2 * nc) - k → (am_R 4 u (va_up VT 1 (su_pick (fun w => w / 2 ^ bi % 2 = 1) VQ k))) → (k ≤ 2 ^ (2 * nc)) → ∀ (ls : Array Slot) (H : Heap) (locs : List Loc), lv_has ls 3 [(0, .ref (aS)), (1, .int (nI (bi))), (2, .int (nI (k)))] → mg_H D A s.heap H locs [mg_ob aS 4 [.ref (h), .ref (hM), .ref (hF), .ref (qsr), .ref (aB), .ref (aE), .ref (aQ), .ref (aT)], mg_ob h 1 [.ref (qf), .ref (qm), .ref (qr), .int (nI (nf)), .int (nI (nc))], mg_ob aQ 0 [.ref (qQ)], mg_al K qQ (64 * 6) dQ, mg_ob aT 0 [.ref (qT)], mg_al K qT (4 * 6) u] → W p l e ({ frames := 2, cells := 0, slots := 0, locals := 70 }) s m args below meth c H locs 0 0 (MQ below (va_Qi (fun (r : Int32) (uu : (Nat → Nat) × (Nat → Nat)) => r = nI (su_quot (su_pick (fun w => w / 2 ^ bi % 2 = 1) VQ (2 ^ (2 * nc))) 1000 (VT 0)) ∧ am_R 4 uu.1 uu.2) (mg_B D A (fun (uu : (Nat → Nat) × (Nat → Nat)) => [mg_ob aS 4 [.ref (h), .ref (hM), .ref (hF), .ref (qsr), .ref (aB), .ref (aE), .ref (aQ), .ref (aT)], mg_ob h 1 [.ref (qf), .ref (qm), .ref (qr), .int (nI (nf)), .int (nI (nc))], mg_ob aQ 0 [.ref (qQ)], mg_al K qQ (64 * 6) dQ, mg_ob aT 0 [.ref (qT)], mg_al K qT (4 * 6) uu.1])) A) args s (0) (0) A) (F0 m 11 ls []) := by
    intro n0
    induction n0 using Nat.strongRecOn with
    | ind n0 ih11 =>
    intro k u hm11 hI hk ls H locs hl hw
    refine mg_iload_n X 12 d_Su_thousandthsTurned_11 (lv_at hl 2 rfl) rfl ?_
    refine mg_aload_n X 13 d_Su_thousandthsTurned_12 (lv_at hl 0 rfl) rfl ?_
    refine mg_get X hK hw 16 0 0 f_Su_9 rfl rfl d_Su_thousandthsTurned_13 rfl ?_
    refine mg_callVi X hK hw hA 19 [1] 1 (fun _ => [mg_ob aS 4 [.ref (h), .ref (hM), .ref (hF), .ref (qsr), .ref (aB), .ref (aE), .ref (aQ), .ref (aT)], mg_ob h 1 [.ref (qf), .ref (qm), .ref (qr), .int (nI (nf)), .int (nI (nc))], mg_ob aQ 0 [.ref (qQ)], mg_al K qQ (64 * 6) dQ, mg_ob aT 0 [.ref (qT)], mg_al K qT (4 * 6) u]) rfl rfl (k_Fa_ways l D K h qf qm qr nf nc (by omega)) g_Su_70 ⟨by decide, by decide⟩ ⟨rfl, rfl⟩ rfl rfl rfl hl.1 (rest := [.int (nI (k))]) (As := []) rfl (Nat.le_of_ble_eq_true rfl) d_Su_thousandthsTurned_16 ⟨Nat.zero_le _, Nat.zero_le _⟩ (fun _ => rfl) (fun _ => rfl) rfl ?_
    intro r _ H locs hp4 hw
    subst hp4
    refine mg_icmp_ge X 50 22 (by omega) (by omega) d_Su_thousandthsTurned_19 (by decide) rfl (fun hb => ?_) (fun hb => ?_)
    · -- pc 19 t
      refine mg_aload_n X 51 d_Su_thousandthsTurned_50 (lv_at hl 0 rfl) rfl ?_
      refine mg_iconst X 52 1 d_Su_thousandthsTurned_51 mg_ci_1 rfl ?_
      refine mg_sipush X 55 1000 d_Su_thousandthsTurned_52 mg_cs_1000 rfl ?_
      refine mg_iconst X 56 0 d_Su_thousandthsTurned_55 mg_ci_0 rfl ?_
      have hk9 : k = 2 ^ (2 * nc) := by omega
      have hpl : su_pick (fun w => w / 2 ^ bi % 2 = 1) VQ k ≤ VT 0 := by rw [← hz]; exact Nat.le_trans (su_pick_le _ _ _) (zs_mono hk)
      have hpk := Nat.le_trans hpl hz1
      refine mg_callVi X hK hw hA 59 [0, 4, 5] 0 (fun uu => [mg_ob aS 4 [.ref (h), .ref (hM), .ref (hF), .ref (qsr), .ref (aB), .ref (aE), .ref (aQ), .ref (aT)], mg_ob h 1 [.ref (qf), .ref (qm), .ref (qr), .int (nI (nf)), .int (nI (nc))], mg_ob aQ 0 [.ref (qQ)], mg_al K qQ (64 * 6) dQ, mg_ob aT 0 [.ref (qT)], mg_al K qT (4 * 6) uu.1]) rfl rfl (k_Su_quotient l D K aS h hM hF qsr aB aE aQ aT qT 1 1000 0 u (va_up VT 1 (su_pick (fun w => w / 2 ^ bi % 2 = 1) VQ k)) (hI) (by omega) (by omega) (by omega) (by omega) (by rw [va_up_ne _ _ (by omega)]; exact hz1) (by rw [va_up_self]; exact su_lt (su_mul (b := 10) hpk (by decide)) (by omega)) (fun h9 => by rw [va_up_self, va_up_ne _ _ (by omega)] at *; exact su_th hpl h9)) g_Su_100 ⟨by decide, by decide⟩ ⟨rfl, rfl⟩ rfl rfl rfl hl.1 (rest := []) (As := [.int (nI (1)), .int (nI (1000)), .int (nI (0))]) rfl (Nat.le_of_ble_eq_true rfl) d_Su_thousandthsTurned_56 ⟨Nat.zero_le _, Nat.zero_le _⟩ (fun _ => rfl) (fun _ => rfl) rfl ?_
      intro r u H locs hp6 hw
      obtain ⟨u5, V15⟩ := u
      dsimp only at hp6 hw
      obtain ⟨rfl, hp6⟩ := hp6
      exact mg_iret X hr hlk (rfl) ((u5, V15)) (⟨by rw [va_up_self, va_up_ne _ _ (by omega), hk9], hp6⟩) hw d_Su_thousandthsTurned_59
    · -- pc 19 f
      refine mg_iload_n X 23 d_Su_thousandthsTurned_22 (lv_at hl 2 rfl) rfl ?_
      refine mg_iload_n X 24 d_Su_thousandthsTurned_23 (lv_at hl 1 rfl) rfl ?_
      refine mg_ishr X 25 ((nI (k / 2 ^ bi))) d_Su_thousandthsTurned_24 (mg_shr (by omega) (by omega)) rfl ?_
      refine mg_iconst X 26 1 d_Su_thousandthsTurned_25 mg_ci_1 rfl ?_
      refine mg_iand X 27 ((nI ((k / 2 ^ bi) % 2))) d_Su_thousandthsTurned_26 (mg_and1 (Nat.lt_of_le_of_lt (Nat.div_le_self _ _) (by omega))) rfl ?_
      refine mg_iconst X 28 1 d_Su_thousandthsTurned_27 mg_ci_1 rfl ?_
      refine mg_icmp_ne X 44 31 (by omega) (by omega) d_Su_thousandthsTurned_28 (by decide) rfl (fun hP => ?_) (fun hP => ?_)
      · -- pc 28 t
        refine mg_iinc X 47 [(2, .int (nI (k + 1))), (0, .ref (aS)), (1, .int (nI (bi)))] (k + 1) d_Su_thousandthsTurned_44 hl (k := 2) rfl (mg_inc1 _) (by decide) rfl rfl (fun ls hl => ?_)
        refine mg_goto X 11 d_Su_thousandthsTurned_47 (by decide) ?_
        have hl : lv_has ls 3 [(0, .ref (aS)), (1, .int (nI (bi))), (2, .int (nI (k + 1)))] := lv_sub hl [1, 2, 0] rfl
        exact ih11 _ (by omega) (k + 1) u rfl (by rw [su_pickn (P := fun w => w / 2 ^ bi % 2 = 1) (n := k) (V := VQ) hP]; exact hI) (by omega) ls _ _ hl hw
      · -- pc 28 f
        refine mg_aload_n X 32 d_Su_thousandthsTurned_31 (lv_at hl 0 rfl) rfl ?_
        refine mg_get X hK hw 35 0 7 f_Su_42 rfl rfl d_Su_thousandthsTurned_32 rfl ?_
        refine mg_iconst X 36 1 d_Su_thousandthsTurned_35 mg_ci_1 rfl ?_
        refine mg_aload_n X 37 d_Su_thousandthsTurned_36 (lv_at hl 0 rfl) rfl ?_
        refine mg_get X hK hw 40 0 6 f_Su_39 rfl rfl d_Su_thousandthsTurned_37 rfl ?_
        refine mg_iload_n X 41 d_Su_thousandthsTurned_40 (lv_at hl 2 rfl) rfl ?_
        refine mg_callVv X hK hw hA 44 [4, 5, 2, 3] 4 (fun u7 => [mg_ob aS 4 [.ref (h), .ref (hM), .ref (hF), .ref (qsr), .ref (aB), .ref (aE), .ref (aQ), .ref (aT)], mg_ob h 1 [.ref (qf), .ref (qm), .ref (qr), .int (nI (nf)), .int (nI (nc))], mg_ob aQ 0 [.ref (qQ)], mg_al K qQ (64 * 6) dQ, mg_ob aT 0 [.ref (qT)], mg_al K qT (4 * 6) u7]) rfl rfl (k_Am_add l D K aT qT 4 aQ qQ 64 1 k u (va_up VT 1 (su_pick (fun w => w / 2 ^ bi % 2 = 1) VQ k)) dQ VQ (by omega) (hI) (by omega) (hRQ) (by omega) (by omega) (by rw [va_up_self]; exact Nat.lt_of_le_of_lt (Nat.le_trans (Nat.le_of_eq (su_picky (P := fun w => w / 2 ^ bi % 2 = 1) (n := k) (V := VQ) hP).symm) (Nat.le_trans (su_pick_le _ _ _) (zs_mono (show k + 1 ≤ 2 ^ (2 * nc) by omega)))) (by rw [hz]; exact su_lt hz1 (by omega)))) g_Su_96 ⟨by decide, by decide⟩ ⟨rfl, rfl⟩ rfl rfl rfl hl.1 (rest := []) (As := [.int (nI (1)), .ref (aQ), .int (nI (k))]) rfl (Nat.le_of_ble_eq_true rfl) d_Su_thousandthsTurned_41 ⟨Nat.zero_le _, Nat.zero_le _⟩ (fun _ => rfl) (fun _ => rfl) rfl ?_
        intro u7 H locs hp8 hw
        refine mg_iinc X 47 [(2, .int (nI (k + 1))), (0, .ref (aS)), (1, .int (nI (bi)))] (k + 1) d_Su_thousandthsTurned_44 hl (k := 2) rfl (mg_inc1 _) (by decide) rfl rfl (fun ls hl => ?_)
        refine mg_goto X 11 d_Su_thousandthsTurned_47 (by decide) ?_
        have hl : lv_has ls 3 [(0, .ref (aS)), (1, .int (nI (bi))), (2, .int (nI (k + 1)))] := lv_sub hl [1, 2, 0] rfl
        exact ih11 _ (by omega) (k + 1) u7 rfl (by have h9 := hp8; rw [va_up_self, bx_uu, ← su_picky (P := fun w => w / 2 ^ bi % 2 = 1) (n := k) (V := VQ) hP] at h9; exact h9) (by omega) ls _ _ hl hw
  have hl : lv_has ls 3 [(0, .ref (aS)), (1, .int (nI (bi))), (2, .int (nI (0)))] := lv_sub hl [1, 2, 0] rfl
  exact L11 _ 0 u1 rfl (hp2) (Nat.zero_le _) ls _ _ hl hw

set_option maxRecDepth 100000 in
set_option maxHeartbeats 4000000 in
theorem k_Su_thousandthsShared (l : Launch) (D : va_G) (K : Nat → ClassId) (aS : Nat) (h : Nat) (hM : Nat) (hF : Nat) (qsr : Nat) (aB : Nat) (aE : Nat) (aQ : Nat) (aT : Nat) (qf : Nat) (qm : Nat) (qr : Nat) (nf : Nat) (nc : Nat) (fa : Nat → Nat) (mo : Nat → Nat) (rk : Nat → Nat) (qQ : Nat) (qT : Nat) (a1 : Nat) (a2 : Nat) (dQ : Nat → Nat) (VQ : Nat → Nat) (dT : Nat → Nat) (VT : Nat → Nat) (hnc : nc ≤ 3) (hRQ : am_R 64 dQ VQ) (hRT : am_R 4 dT VT) (hz : zs_sum (2 ^ (2 * nc)) VQ = VT 0) (hz1 : VT 0 ≤ 2 ^ 150) (hF0 : fm_ok nf nc fa mo rk) (hp1 : a1 < nf + nc) (hp2 : a2 < nf + nc) : mg_Mi l D K y_Su_thousandthsShared b_Su_thousandthsShared 4 (.int) ({ frames := 2, cells := 0, slots := 0, locals := 70 }) [.ref (aS), .int (nI (a1)), .int (nI (a2))] [mg_ob aS 4 [.ref (h), .ref (hM), .ref (hF), .ref (qsr), .ref (aB), .ref (aE), .ref (aQ), .ref (aT)], mg_ob h 1 [.ref (qf), .ref (qm), .ref (qr), .int (nI (nf)), .int (nI (nc))], mg_ai K qf 6 fa, mg_ai K qm 6 mo, mg_ai K qr 6 rk, mg_ob aQ 0 [.ref (qQ)], mg_al K qQ (64 * 6) dQ, mg_ob aT 0 [.ref (qT)], mg_al K qT (4 * 6) dT] (fun (r : Int32) (uu : (Nat → Nat) × (Nat → Nat)) => r = nI (su_quot (su_pick (fun w => fm_shr fa mo rk a1 a2 w) VQ (2 ^ (2 * nc))) 1000 (VT 0)) ∧ am_R 4 uu.1 uu.2) (fun (uu : (Nat → Nat) × (Nat → Nat)) => [mg_ob aS 4 [.ref (h), .ref (hM), .ref (hF), .ref (qsr), .ref (aB), .ref (aE), .ref (aQ), .ref (aT)], mg_ob h 1 [.ref (qf), .ref (qm), .ref (qr), .int (nI (nf)), .int (nI (nc))], mg_ai K qf 6 fa, mg_ai K qm 6 mo, mg_ai K qr 6 rk, mg_ob aQ 0 [.ref (qQ)], mg_al K qQ (64 * 6) dQ, mg_ob aT 0 [.ref (qT)], mg_al K qT (4 * 6) uu.1]) := by
  intro sz
  refine mg_entry (Qc := fun A => va_Qi (fun (r : Int32) (uu : (Nat → Nat) × (Nat → Nat)) => r = nI (su_quot (su_pick (fun w => fm_shr fa mo rk a1 a2 w) VQ (2 ^ (2 * nc))) 1000 (VT 0)) ∧ am_R 4 uu.1 uu.2) (mg_B D A (fun (uu : (Nat → Nat) × (Nat → Nat)) => [mg_ob aS 4 [.ref (h), .ref (hM), .ref (hF), .ref (qsr), .ref (aB), .ref (aE), .ref (aQ), .ref (aT)], mg_ob h 1 [.ref (qf), .ref (qm), .ref (qr), .int (nI (nf)), .int (nI (nc))], mg_ai K qf 6 fa, mg_ai K qm 6 mo, mg_ai K qr 6 rk, mg_ob aQ 0 [.ref (qQ)], mg_al K qQ (64 * 6) dQ, mg_ob aT 0 [.ref (qT)], mg_al K qT (4 * 6) uu.1])) A) (by decide) (Nat.le_of_ble_eq_true rfl) ?_
  intro p e s m args below meth c A ls X hr hlk hnm hA hK hw hl
  have hl : lv_has ls 4 [(0, .ref (aS)), (1, .int (nI (a1))), (2, .int (nI (a2)))] := hl
  have hw6 := mg_ways hnc
  refine mg_aload_n X 1 d_Su_thousandthsShared_0 (lv_at hl 0 rfl) rfl ?_
  refine mg_get X hK hw 4 0 7 f_Su_42 rfl rfl d_Su_thousandthsShared_1 rfl ?_
  refine mg_iconst X 5 1 d_Su_thousandthsShared_4 mg_ci_1 rfl ?_
  refine mg_iconst X 6 0 d_Su_thousandthsShared_5 mg_ci_0 rfl ?_
  refine mg_callVv X hK hw hA 9 [7, 8] 7 (fun u1 => [mg_ob aS 4 [.ref (h), .ref (hM), .ref (hF), .ref (qsr), .ref (aB), .ref (aE), .ref (aQ), .ref (aT)], mg_ob h 1 [.ref (qf), .ref (qm), .ref (qr), .int (nI (nf)), .int (nI (nc))], mg_ai K qf 6 fa, mg_ai K qm 6 mo, mg_ai K qr 6 rk, mg_ob aQ 0 [.ref (qQ)], mg_al K qQ (64 * 6) dQ, mg_ob aT 0 [.ref (qT)], mg_al K qT (4 * 6) u1]) rfl rfl (k_Am_set l D K aT qT 4 1 0 dT VT (by omega) (hRT) (by omega) (by omega)) g_Su_93 ⟨by decide, by decide⟩ ⟨rfl, rfl⟩ rfl rfl rfl hl.1 (rest := []) (As := [.int (nI (1)), .int (nI (0))]) rfl (Nat.le_of_ble_eq_true rfl) d_Su_thousandthsShared_6 ⟨Nat.zero_le _, Nat.zero_le _⟩ (fun _ => rfl) (fun _ => rfl) rfl ?_
  intro u1 H locs hp2 hw
  refine mg_iconst X 10 0 d_Su_thousandthsShared_9 mg_ci_0 rfl ?_
  refine mg_istore_n X 11 [(3, .int (nI (0))), (0, .ref (aS)), (1, .int (nI (a1))), (2, .int (nI (a2)))] d_Su_thousandthsShared_10 hl (by decide) rfl rfl (fun ls hl => ?_)
  have L11 : ∀ (n0 : Nat) (k : Nat) (u : Nat → Nat), n0 = 2 ^ (2 * nc) - k → (am_R 4 u (va_up VT 1 (su_pick (fun w => fm_shr fa mo rk a1 a2 w) VQ k))) → (k ≤ 2 ^ (2 * nc)) → ∀ (ls : Array Slot) (H : Heap) (locs : List Loc), lv_has ls 4 [(0, .ref (aS)), (1, .int (nI (a1))), (2, .int (nI (a2))), (3, .int (nI (k)))] → mg_H D A s.heap H locs [mg_ob aS 4 [.ref (h), .ref (hM), .ref (hF), .ref (qsr), .ref (aB), .ref (aE), .ref (aQ), .ref (aT)], mg_ob h 1 [.ref (qf), .ref (qm), .ref (qr), .int (nI (nf)), .int (nI (nc))], mg_ai K qf 6 fa, mg_ai K qm 6 mo, mg_ai K qr 6 rk, mg_ob aQ 0 [.ref (qQ)], mg_al K qQ (64 * 6) dQ, mg_ob aT 0 [.ref (qT)], mg_al K qT (4 * 6) u] → W p l e ({ frames := 2, cells := 0, slots := 0, locals := 70 }) s m args below meth c H locs 0 0 (MQ below (va_Qi (fun (r : Int32) (uu : (Nat → Nat) × (Nat → Nat)) => r = nI (su_quot (su_pick (fun w => fm_shr fa mo rk a1 a2 w) VQ (2 ^ (2 * nc))) 1000 (VT 0)) ∧ am_R 4 uu.1 uu.2) (mg_B D A (fun (uu : (Nat → Nat) × (Nat → Nat)) => [mg_ob aS 4 [.ref (h), .ref (hM), .ref (hF), .ref (qsr), .ref (aB), .ref (aE), .ref (aQ), .ref (aT)], mg_ob h 1 [.ref (qf), .ref (qm), .ref (qr), .int (nI (nf)), .int (nI (nc))], mg_ai K qf 6 fa, mg_ai K qm 6 mo, mg_ai K qr 6 rk, mg_ob aQ 0 [.ref (qQ)], mg_al K qQ (64 * 6) dQ, mg_ob aT 0 [.ref (qT)], mg_al K qT (4 * 6) uu.1])) A) args s (0) (0) A) (F0 m 11 ls []) := by
    intro n0
    induction n0 using Nat.strongRecOn with
    | ind n0 ih11 =>
    intro k u hm11 hI hk ls H locs hl hw
    refine mg_iload_n X 12 d_Su_thousandthsShared_11 (lv_at hl 3 rfl) rfl ?_
    refine mg_aload_n X 13 d_Su_thousandthsShared_12 (lv_at hl 0 rfl) rfl ?_
    refine mg_get X hK hw 16 0 0 f_Su_9 rfl rfl d_Su_thousandthsShared_13 rfl ?_
    refine mg_callVi X hK hw hA 19 [1] 1 (fun _ => [mg_ob aS 4 [.ref (h), .ref (hM), .ref (hF), .ref (qsr), .ref (aB), .ref (aE), .ref (aQ), .ref (aT)], mg_ob h 1 [.ref (qf), .ref (qm), .ref (qr), .int (nI (nf)), .int (nI (nc))], mg_ai K qf 6 fa, mg_ai K qm 6 mo, mg_ai K qr 6 rk, mg_ob aQ 0 [.ref (qQ)], mg_al K qQ (64 * 6) dQ, mg_ob aT 0 [.ref (qT)], mg_al K qT (4 * 6) u]) rfl rfl (k_Fa_ways l D K h qf qm qr nf nc (by omega)) g_Su_70 ⟨by decide, by decide⟩ ⟨rfl, rfl⟩ rfl rfl rfl hl.1 (rest := [.int (nI (k))]) (As := []) rfl (Nat.le_of_ble_eq_true rfl) d_Su_thousandthsShared_16 ⟨Nat.zero_le _, Nat.zero_le _⟩ (fun _ => rfl) (fun _ => rfl) rfl ?_
    intro r _ H locs hp4 hw
    subst hp4
    refine mg_icmp_ge X 54 22 (by omega) (by omega) d_Su_thousandthsShared_19 (by decide) rfl (fun hb => ?_) (fun hb => ?_)
    · -- pc 19 t
      refine mg_aload_n X 55 d_Su_thousandthsShared_54 (lv_at hl 0 rfl) rfl ?_
      refine mg_iconst X 56 1 d_Su_thousandthsShared_55 mg_ci_1 rfl ?_
      refine mg_sipush X 59 1000 d_Su_thousandthsShared_56 mg_cs_1000 rfl ?_
      refine mg_iconst X 60 0 d_Su_thousandthsShared_59 mg_ci_0 rfl ?_
      have hk9 : k = 2 ^ (2 * nc) := by omega
      have hpl : su_pick (fun w => fm_shr fa mo rk a1 a2 w) VQ k ≤ VT 0 := by rw [← hz]; exact Nat.le_trans (su_pick_le _ _ _) (zs_mono hk)
      have hpk := Nat.le_trans hpl hz1
      refine mg_callVi X hK hw hA 63 [0, 7, 8] 0 (fun uu => [mg_ob aS 4 [.ref (h), .ref (hM), .ref (hF), .ref (qsr), .ref (aB), .ref (aE), .ref (aQ), .ref (aT)], mg_ob h 1 [.ref (qf), .ref (qm), .ref (qr), .int (nI (nf)), .int (nI (nc))], mg_ai K qf 6 fa, mg_ai K qm 6 mo, mg_ai K qr 6 rk, mg_ob aQ 0 [.ref (qQ)], mg_al K qQ (64 * 6) dQ, mg_ob aT 0 [.ref (qT)], mg_al K qT (4 * 6) uu.1]) rfl rfl (k_Su_quotient l D K aS h hM hF qsr aB aE aQ aT qT 1 1000 0 u (va_up VT 1 (su_pick (fun w => fm_shr fa mo rk a1 a2 w) VQ k)) (hI) (by omega) (by omega) (by omega) (by omega) (by rw [va_up_ne _ _ (by omega)]; exact hz1) (by rw [va_up_self]; exact su_lt (su_mul (b := 10) hpk (by decide)) (by omega)) (fun h9 => by rw [va_up_self, va_up_ne _ _ (by omega)] at *; exact su_th hpl h9)) g_Su_100 ⟨by decide, by decide⟩ ⟨rfl, rfl⟩ rfl rfl rfl hl.1 (rest := []) (As := [.int (nI (1)), .int (nI (1000)), .int (nI (0))]) rfl (Nat.le_of_ble_eq_true rfl) d_Su_thousandthsShared_60 ⟨Nat.zero_le _, Nat.zero_le _⟩ (fun _ => rfl) (fun _ => rfl) rfl ?_
      intro r u H locs hp6 hw
      obtain ⟨u5, V15⟩ := u
      dsimp only at hp6 hw
      obtain ⟨rfl, hp6⟩ := hp6
      exact mg_iret X hr hlk (rfl) ((u5, V15)) (⟨by rw [va_up_self, va_up_ne _ _ (by omega), hk9], hp6⟩) hw d_Su_thousandthsShared_63
    · -- pc 19 f
      refine mg_aload_n X 23 d_Su_thousandthsShared_22 (lv_at hl 0 rfl) rfl ?_
      refine mg_get X hK hw 26 0 0 f_Su_9 rfl rfl d_Su_thousandthsShared_23 rfl ?_
      refine mg_iload_n X 27 d_Su_thousandthsShared_26 (lv_at hl 1 rfl) rfl ?_
      refine mg_iload_n X 28 d_Su_thousandthsShared_27 (lv_at hl 2 rfl) rfl ?_
      refine mg_iload_n X 29 d_Su_thousandthsShared_28 (lv_at hl 3 rfl) rfl ?_
      refine mg_callVi X hK hw hA 32 [1, 2, 3, 4] 1 (fun _ => [mg_ob aS 4 [.ref (h), .ref (hM), .ref (hF), .ref (qsr), .ref (aB), .ref (aE), .ref (aQ), .ref (aT)], mg_ob h 1 [.ref (qf), .ref (qm), .ref (qr), .int (nI (nf)), .int (nI (nc))], mg_ai K qf 6 fa, mg_ai K qm 6 mo, mg_ai K qr 6 rk, mg_ob aQ 0 [.ref (qQ)], mg_al K qQ (64 * 6) dQ, mg_ob aT 0 [.ref (qT)], mg_al K qT (4 * 6) u]) rfl rfl (k_Fa_shareCopy l D K h qf qm qr nf nc fa mo rk a1 a2 k (hF0) (by omega) (by omega) (by omega)) g_Su_104 ⟨by decide, by decide⟩ ⟨rfl, rfl⟩ rfl rfl rfl hl.1 (rest := []) (As := [.int (nI (a1)), .int (nI (a2)), .int (nI (k))]) rfl (Nat.le_of_ble_eq_true rfl) d_Su_thousandthsShared_29 ⟨Nat.zero_le _, Nat.zero_le _⟩ (fun _ => rfl) (fun _ => rfl) rfl ?_
      intro r _ H locs hp8 hw
      subst hp8
      refine mg_bif_eq X 48 35 d_Su_thousandthsShared_32 (by decide) rfl (fun hP => ?_) (fun hP => ?_)
      · -- pc 32 t
        refine mg_iinc X 51 [(3, .int (nI (k + 1))), (0, .ref (aS)), (1, .int (nI (a1))), (2, .int (nI (a2)))] (k + 1) d_Su_thousandthsShared_48 hl (k := 3) rfl (mg_inc1 _) (by decide) rfl rfl (fun ls hl => ?_)
        refine mg_goto X 11 d_Su_thousandthsShared_51 (by decide) ?_
        have hl : lv_has ls 4 [(0, .ref (aS)), (1, .int (nI (a1))), (2, .int (nI (a2))), (3, .int (nI (k + 1)))] := lv_sub hl [1, 2, 3, 0] rfl
        exact ih11 _ (by omega) (k + 1) u rfl (by rw [su_pickn (P := fun w => fm_shr fa mo rk a1 a2 w) (n := k) (V := VQ) hP]; exact hI) (by omega) ls _ _ hl hw
      · -- pc 32 f
        refine mg_aload_n X 36 d_Su_thousandthsShared_35 (lv_at hl 0 rfl) rfl ?_
        refine mg_get X hK hw 39 0 7 f_Su_42 rfl rfl d_Su_thousandthsShared_36 rfl ?_
        refine mg_iconst X 40 1 d_Su_thousandthsShared_39 mg_ci_1 rfl ?_
        refine mg_aload_n X 41 d_Su_thousandthsShared_40 (lv_at hl 0 rfl) rfl ?_
        refine mg_get X hK hw 44 0 6 f_Su_39 rfl rfl d_Su_thousandthsShared_41 rfl ?_
        refine mg_iload_n X 45 d_Su_thousandthsShared_44 (lv_at hl 3 rfl) rfl ?_
        refine mg_callVv X hK hw hA 48 [7, 8, 5, 6] 7 (fun u9 => [mg_ob aS 4 [.ref (h), .ref (hM), .ref (hF), .ref (qsr), .ref (aB), .ref (aE), .ref (aQ), .ref (aT)], mg_ob h 1 [.ref (qf), .ref (qm), .ref (qr), .int (nI (nf)), .int (nI (nc))], mg_ai K qf 6 fa, mg_ai K qm 6 mo, mg_ai K qr 6 rk, mg_ob aQ 0 [.ref (qQ)], mg_al K qQ (64 * 6) dQ, mg_ob aT 0 [.ref (qT)], mg_al K qT (4 * 6) u9]) rfl rfl (k_Am_add l D K aT qT 4 aQ qQ 64 1 k u (va_up VT 1 (su_pick (fun w => fm_shr fa mo rk a1 a2 w) VQ k)) dQ VQ (by omega) (hI) (by omega) (hRQ) (by omega) (by omega) (by rw [va_up_self]; exact Nat.lt_of_le_of_lt (Nat.le_trans (Nat.le_of_eq (su_picky (P := fun w => fm_shr fa mo rk a1 a2 w) (n := k) (V := VQ) hP).symm) (Nat.le_trans (su_pick_le _ _ _) (zs_mono (show k + 1 ≤ 2 ^ (2 * nc) by omega)))) (by rw [hz]; exact su_lt hz1 (by omega)))) g_Su_96 ⟨by decide, by decide⟩ ⟨rfl, rfl⟩ rfl rfl rfl hl.1 (rest := []) (As := [.int (nI (1)), .ref (aQ), .int (nI (k))]) rfl (Nat.le_of_ble_eq_true rfl) d_Su_thousandthsShared_45 ⟨Nat.zero_le _, Nat.zero_le _⟩ (fun _ => rfl) (fun _ => rfl) rfl ?_
        intro u9 H locs hp10 hw
        refine mg_iinc X 51 [(3, .int (nI (k + 1))), (0, .ref (aS)), (1, .int (nI (a1))), (2, .int (nI (a2)))] (k + 1) d_Su_thousandthsShared_48 hl (k := 3) rfl (mg_inc1 _) (by decide) rfl rfl (fun ls hl => ?_)
        refine mg_goto X 11 d_Su_thousandthsShared_51 (by decide) ?_
        have hl : lv_has ls 4 [(0, .ref (aS)), (1, .int (nI (a1))), (2, .int (nI (a2))), (3, .int (nI (k + 1)))] := lv_sub hl [1, 2, 3, 0] rfl
        exact ih11 _ (by omega) (k + 1) u9 rfl (by have h9 := hp10; rw [va_up_self, bx_uu, ← su_picky (P := fun w => fm_shr fa mo rk a1 a2 w) (n := k) (V := VQ) hP] at h9; exact h9) (by omega) ls _ _ hl hw
  have hl : lv_has ls 4 [(0, .ref (aS)), (1, .int (nI (a1))), (2, .int (nI (a2))), (3, .int (nI (0)))] := lv_sub hl [1, 2, 3, 0] rfl
  exact L11 _ 0 u1 rfl (hp2) (Nat.zero_le _) ls _ _ hl hw

set_option maxRecDepth 100000 in
set_option maxHeartbeats 4000000 in
theorem k_Su_wayOfGreatest (l : Launch) (D : va_G) (K : Nat → ClassId) (aS : Nat) (h : Nat) (hM : Nat) (hF : Nat) (qsr : Nat) (aB : Nat) (aE : Nat) (aQ : Nat) (aT : Nat) (qf : Nat) (qm : Nat) (qr : Nat) (nf : Nat) (nc : Nat) (qQ : Nat) (qT : Nat) (dQ : Nat → Nat) (VQ : Nat → Nat) (dT : Nat → Nat) (VT : Nat → Nat) (hnc : nc ≤ 3) (hRQ : am_R 64 dQ VQ) (hRT : am_R 4 dT VT) : mg_Mi l D K y_Su_wayOfGreatest b_Su_wayOfGreatest 3 (.int) ({ frames := 2, cells := 0, slots := 0, locals := 40 }) [.ref (aS)] [mg_ob aS 4 [.ref (h), .ref (hM), .ref (hF), .ref (qsr), .ref (aB), .ref (aE), .ref (aQ), .ref (aT)], mg_ob h 1 [.ref (qf), .ref (qm), .ref (qr), .int (nI (nf)), .int (nI (nc))], mg_ob aQ 0 [.ref (qQ)], mg_al K qQ (64 * 6) dQ, mg_ob aT 0 [.ref (qT)], mg_al K qT (4 * 6) dT] (fun (r : Int32) (_ : Unit) => r = nI (if VT 0 = 0 then 4294967295 else su_am VQ (2 ^ (2 * nc)))) (fun (_ : Unit) => [mg_ob aS 4 [.ref (h), .ref (hM), .ref (hF), .ref (qsr), .ref (aB), .ref (aE), .ref (aQ), .ref (aT)], mg_ob h 1 [.ref (qf), .ref (qm), .ref (qr), .int (nI (nf)), .int (nI (nc))], mg_ob aQ 0 [.ref (qQ)], mg_al K qQ (64 * 6) dQ, mg_ob aT 0 [.ref (qT)], mg_al K qT (4 * 6) dT]) := by
  intro sz
  refine mg_entry (Qc := fun A => va_Qi (fun (r : Int32) (_ : Unit) => r = nI (if VT 0 = 0 then 4294967295 else su_am VQ (2 ^ (2 * nc)))) (mg_B D A (fun (_ : Unit) => [mg_ob aS 4 [.ref (h), .ref (hM), .ref (hF), .ref (qsr), .ref (aB), .ref (aE), .ref (aQ), .ref (aT)], mg_ob h 1 [.ref (qf), .ref (qm), .ref (qr), .int (nI (nf)), .int (nI (nc))], mg_ob aQ 0 [.ref (qQ)], mg_al K qQ (64 * 6) dQ, mg_ob aT 0 [.ref (qT)], mg_al K qT (4 * 6) dT])) A) (by decide) (Nat.le_of_ble_eq_true rfl) ?_
  intro p e s m args below meth c A ls X hr hlk hnm hA hK hw hl
  have hl : lv_has ls 3 [(0, .ref (aS))] := hl
  have hw6 := mg_ways hnc
  have hw1 : 1 ≤ 2 ^ (2 * nc) := Nat.pow_pos (by decide)
  refine mg_aload_n X 1 d_Su_wayOfGreatest_0 (lv_at hl 0 rfl) rfl ?_
  refine mg_get X hK hw 4 0 7 f_Su_42 rfl rfl d_Su_wayOfGreatest_1 rfl ?_
  refine mg_iconst X 5 0 d_Su_wayOfGreatest_4 mg_ci_0 rfl ?_
  refine mg_callVi X hK hw hA 8 [4, 5] 4 (fun _ => [mg_ob aS 4 [.ref (h), .ref (hM), .ref (hF), .ref (qsr), .ref (aB), .ref (aE), .ref (aQ), .ref (aT)], mg_ob h 1 [.ref (qf), .ref (qm), .ref (qr), .int (nI (nf)), .int (nI (nc))], mg_ob aQ 0 [.ref (qQ)], mg_al K qQ (64 * 6) dQ, mg_ob aT 0 [.ref (qT)], mg_al K qT (4 * 6) dT]) rfl rfl (k_Am_isZero l D K aT qT 4 0 dT VT (by omega) (hRT) (by omega)) g_Su_108 ⟨by decide, by decide⟩ ⟨rfl, rfl⟩ rfl rfl rfl hl.1 (rest := []) (As := [.int (nI (0))]) rfl (Nat.le_of_ble_eq_true rfl) d_Su_wayOfGreatest_5 ⟨Nat.zero_le _, Nat.zero_le _⟩ (fun _ => rfl) (fun _ => rfl) rfl ?_
  intro r _ H locs hp2 hw
  subst hp2
  refine mg_bif_eq X 13 11 d_Su_wayOfGreatest_8 (by decide) rfl (fun hz => ?_) (fun hz => ?_)
  · -- pc 8 t
    refine mg_iconst X 14 0 d_Su_wayOfGreatest_13 mg_ci_0 rfl ?_
    refine mg_istore_n X 15 [(1, .int (nI (0))), (0, .ref (aS))] d_Su_wayOfGreatest_14 hl (by decide) rfl rfl (fun ls hl => ?_)
    refine mg_iconst X 16 1 d_Su_wayOfGreatest_15 mg_ci_1 rfl ?_
    refine mg_istore_n X 17 [(2, .int (nI (1))), (1, .int (nI (0))), (0, .ref (aS))] d_Su_wayOfGreatest_16 hl (by decide) rfl rfl (fun ls hl => ?_)
    have L17 : ∀ (n0 : Nat) (k : Nat) (q0 : Nat), n0 = 2 ^ (2 * nc) - k → (q0 = su_am VQ k) → (k ≤ 2 ^ (2 * nc)) → (1 ≤ k) → ∀ (ls : Array Slot) (H : Heap) (locs : List Loc), lv_has ls 3 [(0, .ref (aS)), (1, .int (nI (q0))), (2, .int (nI (k)))] → mg_H D A s.heap H locs [mg_ob aS 4 [.ref (h), .ref (hM), .ref (hF), .ref (qsr), .ref (aB), .ref (aE), .ref (aQ), .ref (aT)], mg_ob h 1 [.ref (qf), .ref (qm), .ref (qr), .int (nI (nf)), .int (nI (nc))], mg_ob aQ 0 [.ref (qQ)], mg_al K qQ (64 * 6) dQ, mg_ob aT 0 [.ref (qT)], mg_al K qT (4 * 6) dT] → W p l e ({ frames := 2, cells := 0, slots := 0, locals := 40 }) s m args below meth c H locs 0 0 (MQ below (va_Qi (fun (r : Int32) (_ : Unit) => r = nI (if VT 0 = 0 then 4294967295 else su_am VQ (2 ^ (2 * nc)))) (mg_B D A (fun (_ : Unit) => [mg_ob aS 4 [.ref (h), .ref (hM), .ref (hF), .ref (qsr), .ref (aB), .ref (aE), .ref (aQ), .ref (aT)], mg_ob h 1 [.ref (qf), .ref (qm), .ref (qr), .int (nI (nf)), .int (nI (nc))], mg_ob aQ 0 [.ref (qQ)], mg_al K qQ (64 * 6) dQ, mg_ob aT 0 [.ref (qT)], mg_al K qT (4 * 6) dT])) A) args s (0) (0) A) (F0 m 17 ls []) := by
      intro n0
      induction n0 using Nat.strongRecOn with
      | ind n0 ih17 =>
      intro k q0 hm17 hI hk hk1 ls H locs hl hw
      have hql : q0 < k := by rw [hI]; exact su_am_lt (by omega)
      refine mg_iload_n X 18 d_Su_wayOfGreatest_17 (lv_at hl 2 rfl) rfl ?_
      refine mg_aload_n X 19 d_Su_wayOfGreatest_18 (lv_at hl 0 rfl) rfl ?_
      refine mg_get X hK hw 22 0 0 f_Su_9 rfl rfl d_Su_wayOfGreatest_19 rfl ?_
      refine mg_callVi X hK hw hA 25 [1] 1 (fun _ => [mg_ob aS 4 [.ref (h), .ref (hM), .ref (hF), .ref (qsr), .ref (aB), .ref (aE), .ref (aQ), .ref (aT)], mg_ob h 1 [.ref (qf), .ref (qm), .ref (qr), .int (nI (nf)), .int (nI (nc))], mg_ob aQ 0 [.ref (qQ)], mg_al K qQ (64 * 6) dQ, mg_ob aT 0 [.ref (qT)], mg_al K qT (4 * 6) dT]) rfl rfl (k_Fa_ways l D K h qf qm qr nf nc (by omega)) g_Su_70 ⟨by decide, by decide⟩ ⟨rfl, rfl⟩ rfl rfl rfl hl.1 (rest := [.int (nI (k))]) (As := []) rfl (Nat.le_of_ble_eq_true rfl) d_Su_wayOfGreatest_22 ⟨Nat.zero_le _, Nat.zero_le _⟩ (fun _ => rfl) (fun _ => rfl) rfl ?_
      intro r _ H locs hp4 hw
      subst hp4
      refine mg_icmp_ge X 48 28 (by omega) (by omega) d_Su_wayOfGreatest_25 (by decide) rfl (fun hb => ?_) (fun hb => ?_)
      · -- pc 25 t
        refine mg_iload_n X 49 d_Su_wayOfGreatest_48 (lv_at hl 1 rfl) rfl ?_
        exact mg_iret X hr hlk (rfl) (()) (by rw [if_neg hz, hI, show k = 2 ^ (2 * nc) by omega]) hw d_Su_wayOfGreatest_49
      · -- pc 25 f
        refine mg_aload_n X 29 d_Su_wayOfGreatest_28 (lv_at hl 0 rfl) rfl ?_
        refine mg_get X hK hw 32 0 6 f_Su_39 rfl rfl d_Su_wayOfGreatest_29 rfl ?_
        refine mg_iload_n X 33 d_Su_wayOfGreatest_32 (lv_at hl 2 rfl) rfl ?_
        refine mg_iload_n X 34 d_Su_wayOfGreatest_33 (lv_at hl 1 rfl) rfl ?_
        refine mg_callVi X hK hw hA 37 [2, 3] 2 (fun _ => [mg_ob aS 4 [.ref (h), .ref (hM), .ref (hF), .ref (qsr), .ref (aB), .ref (aE), .ref (aQ), .ref (aT)], mg_ob h 1 [.ref (qf), .ref (qm), .ref (qr), .int (nI (nf)), .int (nI (nc))], mg_ob aQ 0 [.ref (qQ)], mg_al K qQ (64 * 6) dQ, mg_ob aT 0 [.ref (qT)], mg_al K qT (4 * 6) dT]) rfl rfl (k_Am_compare l D K aQ qQ 64 k q0 dQ VQ (by omega) (hRQ) (by omega) (by omega)) g_Su_86 ⟨by decide, by decide⟩ ⟨rfl, rfl⟩ rfl rfl rfl hl.1 (rest := []) (As := [.int (nI (k)), .int (nI (q0))]) rfl (Nat.le_of_ble_eq_true rfl) d_Su_wayOfGreatest_34 ⟨Nat.zero_le _, Nat.zero_le _⟩ (fun _ => rfl) (fun _ => rfl) rfl ?_
        intro r _ H locs hp6 hw
        subst hp6
        refine mg_cif_le X 42 40 d_Su_wayOfGreatest_37 (by decide) rfl (fun hc => ?_) (fun hc => ?_)
        · -- pc 37 t
          refine mg_iinc X 45 [(2, .int (nI (k + 1))), (0, .ref (aS)), (1, .int (nI (q0)))] (k + 1) d_Su_wayOfGreatest_42 hl (k := 2) rfl (mg_inc1 _) (by decide) rfl rfl (fun ls hl => ?_)
          refine mg_goto X 17 d_Su_wayOfGreatest_45 (by decide) ?_
          have hl : lv_has ls 3 [(0, .ref (aS)), (1, .int (nI (q0))), (2, .int (nI (k + 1)))] := lv_sub hl [1, 2, 0] rfl
          exact ih17 _ (by omega) (k + 1) q0 rfl (by rw [hI]; exact (su_amn (by rw [← hI]; exact hc)).symm) (by omega) (by omega) ls _ _ hl hw
        · -- pc 37 f
          refine mg_iload_n X 41 d_Su_wayOfGreatest_40 (lv_at hl 2 rfl) rfl ?_
          refine mg_istore_n X 42 [(1, .int (nI (k))), (0, .ref (aS)), (2, .int (nI (k)))] d_Su_wayOfGreatest_41 hl (by decide) rfl rfl (fun ls hl => ?_)
          refine mg_iinc X 45 [(2, .int (nI (k + 1))), (1, .int (nI (k))), (0, .ref (aS))] (k + 1) d_Su_wayOfGreatest_42 hl (k := 2) rfl (mg_inc1 _) (by decide) rfl rfl (fun ls hl => ?_)
          refine mg_goto X 17 d_Su_wayOfGreatest_45 (by decide) ?_
          have hl : lv_has ls 3 [(0, .ref (aS)), (1, .int (nI (k))), (2, .int (nI (k + 1)))] := lv_sub hl [2, 1, 0] rfl
          exact ih17 _ (by omega) (k + 1) k rfl ((su_amy (by rw [← hI]; exact hc)).symm) (by omega) (by omega) ls _ _ hl hw
    have hl : lv_has ls 3 [(0, .ref (aS)), (1, .int (nI (0))), (2, .int (nI (1)))] := lv_sub hl [2, 1, 0] rfl
    exact L17 _ 1 0 rfl ((su_am1 VQ).symm) (hw1) (by omega) ls _ _ hl hw
  · -- pc 8 f
    refine mg_iconst X 12 4294967295 d_Su_wayOfGreatest_11 mg_ci_m1 rfl ?_
    exact mg_iret X hr hlk (rfl) (()) (by rw [if_pos hz]) hw d_Su_wayOfGreatest_12

set_option maxRecDepth 100000 in
set_option maxHeartbeats 4000000 in
theorem k_Su_rateOfGreatest (l : Launch) (D : va_G) (K : Nat → ClassId) (aS : Nat) (h : Nat) (hM : Nat) (hF : Nat) (qsr : Nat) (aB : Nat) (aE : Nat) (aQ : Nat) (aT : Nat) (qf : Nat) (qm : Nat) (qr : Nat) (nf : Nat) (nc : Nat) (qtb : Nat) (ql : Nat) (qw : Nat) (qra : Nat) (qo : Nat) (qt : Nat) (nm : Nat) (sg : Nat) (qB : Nat) (qT : Nat) (g : Nat) (tb : Nat → Nat) (sr : Nat → Nat) (dB : Nat → Nat) (VB : Nat → Nat) (dT : Nat → Nat) (VT : Nat → Nat) (hnc : nc ≤ 3) (hm4 : nm ≤ 4) (hsr : ∀ i, i + 1 < nm → sr i ≤ 16) (hTb : ∀ i w, i < nm → w < 2 ^ (2 * nc) → su_F tb i w ≤ 2 ^ 18) (hRB : am_R 64 dB VB) (hRT : am_R 4 dT VT) (hg : g + 1 < nm) : mg_Mi l D K y_Su_rateOfGreatest b_Su_rateOfGreatest 4 (.int) ({ frames := 6, cells := 0, slots := 0, locals := 150 }) [.ref (aS), .int (nI (g))] [mg_ob aS 4 [.ref (h), .ref (hM), .ref (hF), .ref (qsr), .ref (aB), .ref (aE), .ref (aQ), .ref (aT)], mg_ob h 1 [.ref (qf), .ref (qm), .ref (qr), .int (nI (nf)), .int (nI (nc))], mg_ob hM 2 [.ref (qw), .ref (qra), .ref (qo), .ref (qt), .int (nI (nm)), .int (nI (sg))], mg_ob hF 3 [.ref (h), .ref (hM), .ref (qtb), .ref (ql)], mg_ai K qtb 256 tb, mg_ai K qsr 3 sr, mg_ob aB 0 [.ref (qB)], mg_al K qB (64 * 6) dB, mg_ob aT 0 [.ref (qT)], mg_al K qT (4 * 6) dT] (fun (r : Int32) (uu : (Nat → Nat) × (Nat → Nat) × (Nat → Nat) × (Nat → Nat)) => r = nI (su_am (su_Jk (2 * nc) sr (su_F tb) (nm - 1) g) 9) ∧ am_R 64 uu.1 uu.2.1 ∧ am_R 4 uu.2.2.1 uu.2.2.2) (fun (uu : (Nat → Nat) × (Nat → Nat) × (Nat → Nat) × (Nat → Nat)) => [mg_ob aS 4 [.ref (h), .ref (hM), .ref (hF), .ref (qsr), .ref (aB), .ref (aE), .ref (aQ), .ref (aT)], mg_ob h 1 [.ref (qf), .ref (qm), .ref (qr), .int (nI (nf)), .int (nI (nc))], mg_ob hM 2 [.ref (qw), .ref (qra), .ref (qo), .ref (qt), .int (nI (nm)), .int (nI (sg))], mg_ob hF 3 [.ref (h), .ref (hM), .ref (qtb), .ref (ql)], mg_ai K qtb 256 tb, mg_ai K qsr 3 (va_up sr g 8), mg_ob aB 0 [.ref (qB)], mg_al K qB (64 * 6) uu.1, mg_ob aT 0 [.ref (qT)], mg_al K qT (4 * 6) uu.2.2.1]) := by
  intro sz
  refine mg_entry (Qc := fun A => va_Qi (fun (r : Int32) (uu : (Nat → Nat) × (Nat → Nat) × (Nat → Nat) × (Nat → Nat)) => r = nI (su_am (su_Jk (2 * nc) sr (su_F tb) (nm - 1) g) 9) ∧ am_R 64 uu.1 uu.2.1 ∧ am_R 4 uu.2.2.1 uu.2.2.2) (mg_B D A (fun (uu : (Nat → Nat) × (Nat → Nat) × (Nat → Nat) × (Nat → Nat)) => [mg_ob aS 4 [.ref (h), .ref (hM), .ref (hF), .ref (qsr), .ref (aB), .ref (aE), .ref (aQ), .ref (aT)], mg_ob h 1 [.ref (qf), .ref (qm), .ref (qr), .int (nI (nf)), .int (nI (nc))], mg_ob hM 2 [.ref (qw), .ref (qra), .ref (qo), .ref (qt), .int (nI (nm)), .int (nI (sg))], mg_ob hF 3 [.ref (h), .ref (hM), .ref (qtb), .ref (ql)], mg_ai K qtb 256 tb, mg_ai K qsr 3 (va_up sr g 8), mg_ob aB 0 [.ref (qB)], mg_al K qB (64 * 6) uu.1, mg_ob aT 0 [.ref (qT)], mg_al K qT (4 * 6) uu.2.2.1])) A) (by decide) (Nat.le_of_ble_eq_true rfl) ?_
  intro p e s m args below meth c A ls X hr hlk hnm hA hK hw hl
  have hl : lv_has ls 4 [(0, .ref (aS)), (1, .int (nI (g)))] := hl
  have hw6 := mg_ways hnc
  refine mg_iconst X 1 0 d_Su_rateOfGreatest_0 mg_ci_0 rfl ?_
  refine mg_istore_n X 2 [(2, .int (nI (0))), (0, .ref (aS)), (1, .int (nI (g)))] d_Su_rateOfGreatest_1 hl (by decide) rfl rfl (fun ls hl => ?_)
  refine mg_aload_n X 3 d_Su_rateOfGreatest_2 (lv_at hl 1 rfl) rfl ?_
  refine mg_iload_n X 4 d_Su_rateOfGreatest_3 (lv_at hl 2 rfl) rfl ?_
  refine mg_iconst X 5 0 d_Su_rateOfGreatest_4 mg_ci_0 rfl ?_
  refine mg_callVv X hK hw hA 8 [0, 5] 0 (fun _ => [mg_ob aS 4 [.ref (h), .ref (hM), .ref (hF), .ref (qsr), .ref (aB), .ref (aE), .ref (aQ), .ref (aT)], mg_ob h 1 [.ref (qf), .ref (qm), .ref (qr), .int (nI (nf)), .int (nI (nc))], mg_ob hM 2 [.ref (qw), .ref (qra), .ref (qo), .ref (qt), .int (nI (nm)), .int (nI (sg))], mg_ob hF 3 [.ref (h), .ref (hM), .ref (qtb), .ref (ql)], mg_ai K qtb 256 tb, mg_ai K qsr 3 (va_up sr g 0), mg_ob aB 0 [.ref (qB)], mg_al K qB (64 * 6) dB, mg_ob aT 0 [.ref (qT)], mg_al K qT (4 * 6) dT]) rfl rfl (k_Su_changeRate l D K aS h hM hF qsr aB aE aQ aT g 0 sr (by omega)) g_Su_79 ⟨by decide, by decide⟩ ⟨rfl, rfl⟩ rfl rfl rfl hl.1 (rest := []) (As := [.int (nI (g)), .int (nI (0))]) rfl (Nat.le_of_ble_eq_true rfl) d_Su_rateOfGreatest_5 ⟨Nat.zero_le _, Nat.zero_le _⟩ (fun _ => rfl) (fun _ => rfl) rfl ?_
  intro _ H locs hp2 hw
  refine mg_aload_n X 9 d_Su_rateOfGreatest_8 (lv_at hl 1 rfl) rfl ?_
  refine mg_iconst X 10 2 d_Su_rateOfGreatest_9 mg_ci_2 rfl ?_
  refine mg_callVv X hK hw hA 13 [0, 1, 2, 3, 4, 5, 6, 7, 8, 9] 0 (fun uu => [mg_ob aS 4 [.ref (h), .ref (hM), .ref (hF), .ref (qsr), .ref (aB), .ref (aE), .ref (aQ), .ref (aT)], mg_ob h 1 [.ref (qf), .ref (qm), .ref (qr), .int (nI (nf)), .int (nI (nc))], mg_ob hM 2 [.ref (qw), .ref (qra), .ref (qo), .ref (qt), .int (nI (nm)), .int (nI (sg))], mg_ob hF 3 [.ref (h), .ref (hM), .ref (qtb), .ref (ql)], mg_ai K qtb 256 tb, mg_ai K qsr 3 (va_up sr g 0), mg_ob aB 0 [.ref (qB)], mg_al K qB (64 * 6) uu.1, mg_ob aT 0 [.ref (qT)], mg_al K qT (4 * 6) uu.2.2]) rfl rfl (k_Su_sumTo l D K aS h hM hF qsr aB aE aQ aT qf qm qr nf nc qtb ql qw qra qo qt nm sg qB qT 2 tb (va_up sr g 0) dB VB dT VT (by omega) (by omega) (su_up16 hsr (by omega)) (by omega) (hRB) (hRT) (by omega) (by omega)) g_Su_83 ⟨by decide, by decide⟩ ⟨rfl, rfl⟩ rfl rfl rfl hl.1 (rest := []) (As := [.int (nI (2))]) rfl (Nat.le_of_ble_eq_true rfl) d_Su_rateOfGreatest_10 ⟨Nat.zero_le _, Nat.zero_le _⟩ (fun _ => rfl) (fun _ => rfl) rfl ?_
  intro u H locs hp4 hw
  obtain ⟨u3, V13, uT3⟩ := u
  dsimp only at hp4 hw
  refine mg_iconst X 14 1 d_Su_rateOfGreatest_13 mg_ci_1 rfl ?_
  refine mg_istore_n X 15 [(3, .int (nI (1))), (2, .int (nI (0))), (0, .ref (aS)), (1, .int (nI (g)))] d_Su_rateOfGreatest_14 hl (by decide) rfl rfl (fun ls hl => ?_)
  have L15 : ∀ (n0 : Nat) (k : Nat) (q0 : Nat) (u : Nat → Nat) (V : Nat → Nat) (uT : Nat → Nat) (VU : Nat → Nat), n0 = 9 - k → (am_R 64 u V) → (am_R 4 uT VU) → (1 ≤ k) → (k ≤ 9) → (q0 = su_am (su_Jk (2 * nc) sr (su_F tb) (nm - 1) g) k) → (VU 2 = su_Jk (2 * nc) sr (su_F tb) (nm - 1) g q0) → ∀ (ls : Array Slot) (H : Heap) (locs : List Loc), lv_has ls 4 [(0, .ref (aS)), (1, .int (nI (g))), (2, .int (nI (q0))), (3, .int (nI (k)))] → mg_H D A s.heap H locs [mg_ob aS 4 [.ref (h), .ref (hM), .ref (hF), .ref (qsr), .ref (aB), .ref (aE), .ref (aQ), .ref (aT)], mg_ob h 1 [.ref (qf), .ref (qm), .ref (qr), .int (nI (nf)), .int (nI (nc))], mg_ob hM 2 [.ref (qw), .ref (qra), .ref (qo), .ref (qt), .int (nI (nm)), .int (nI (sg))], mg_ob hF 3 [.ref (h), .ref (hM), .ref (qtb), .ref (ql)], mg_ai K qtb 256 tb, mg_ai K qsr 3 (va_up sr g (k - 1)), mg_ob aB 0 [.ref (qB)], mg_al K qB (64 * 6) u, mg_ob aT 0 [.ref (qT)], mg_al K qT (4 * 6) uT] → W p l e ({ frames := 6, cells := 0, slots := 0, locals := 150 }) s m args below meth c H locs 0 0 (MQ below (va_Qi (fun (r : Int32) (uu : (Nat → Nat) × (Nat → Nat) × (Nat → Nat) × (Nat → Nat)) => r = nI (su_am (su_Jk (2 * nc) sr (su_F tb) (nm - 1) g) 9) ∧ am_R 64 uu.1 uu.2.1 ∧ am_R 4 uu.2.2.1 uu.2.2.2) (mg_B D A (fun (uu : (Nat → Nat) × (Nat → Nat) × (Nat → Nat) × (Nat → Nat)) => [mg_ob aS 4 [.ref (h), .ref (hM), .ref (hF), .ref (qsr), .ref (aB), .ref (aE), .ref (aQ), .ref (aT)], mg_ob h 1 [.ref (qf), .ref (qm), .ref (qr), .int (nI (nf)), .int (nI (nc))], mg_ob hM 2 [.ref (qw), .ref (qra), .ref (qo), .ref (qt), .int (nI (nm)), .int (nI (sg))], mg_ob hF 3 [.ref (h), .ref (hM), .ref (qtb), .ref (ql)], mg_ai K qtb 256 tb, mg_ai K qsr 3 (va_up sr g 8), mg_ob aB 0 [.ref (qB)], mg_al K qB (64 * 6) uu.1, mg_ob aT 0 [.ref (qT)], mg_al K qT (4 * 6) uu.2.2.1])) A) args s (0) (0) A) (F0 m 15 ls []) := by
    intro n0
    induction n0 using Nat.strongRecOn with
    | ind n0 ih15 =>
    intro k q0 u V uT VU hm15 hI hIT hk1 hk9 hq0 hV2 ls H locs hl hw
    refine mg_iload_n X 16 d_Su_rateOfGreatest_15 (lv_at hl 3 rfl) rfl ?_
    refine mg_bipush X 18 8 d_Su_rateOfGreatest_16 mg_cb_8 rfl ?_
    refine mg_icmp_gt X 61 21 (by omega) (by omega) d_Su_rateOfGreatest_18 (by decide) rfl (fun hb => ?_) (fun hb => ?_)
    · -- pc 18 t
      refine mg_iload_n X 62 d_Su_rateOfGreatest_61 (lv_at hl 2 rfl) rfl ?_
      obtain rfl : k = 9 := by omega
      exact mg_iret X hr hlk (rfl) ((u, V, uT, VU)) (⟨by rw [hq0], hI, hIT⟩) hw d_Su_rateOfGreatest_62
    · -- pc 18 f
      refine mg_aload_n X 22 d_Su_rateOfGreatest_21 (lv_at hl 0 rfl) rfl ?_
      refine mg_iload_n X 23 d_Su_rateOfGreatest_22 (lv_at hl 1 rfl) rfl ?_
      refine mg_iload_n X 24 d_Su_rateOfGreatest_23 (lv_at hl 3 rfl) rfl ?_
      refine mg_callVv X hK hw hA 27 [0, 5] 0 (fun _ => [mg_ob aS 4 [.ref (h), .ref (hM), .ref (hF), .ref (qsr), .ref (aB), .ref (aE), .ref (aQ), .ref (aT)], mg_ob h 1 [.ref (qf), .ref (qm), .ref (qr), .int (nI (nf)), .int (nI (nc))], mg_ob hM 2 [.ref (qw), .ref (qra), .ref (qo), .ref (qt), .int (nI (nm)), .int (nI (sg))], mg_ob hF 3 [.ref (h), .ref (hM), .ref (qtb), .ref (ql)], mg_ai K qtb 256 tb, mg_ai K qsr 3 (va_up (va_up sr g (k - 1)) g k), mg_ob aB 0 [.ref (qB)], mg_al K qB (64 * 6) u, mg_ob aT 0 [.ref (qT)], mg_al K qT (4 * 6) uT]) rfl rfl (k_Su_changeRate l D K aS h hM hF qsr aB aE aQ aT g k (va_up sr g (k - 1)) (by omega)) g_Su_79 ⟨by decide, by decide⟩ ⟨rfl, rfl⟩ rfl rfl rfl hl.1 (rest := []) (As := [.int (nI (g)), .int (nI (k))]) rfl (Nat.le_of_ble_eq_true rfl) d_Su_rateOfGreatest_24 ⟨Nat.zero_le _, Nat.zero_le _⟩ (fun _ => rfl) (fun _ => rfl) rfl ?_
      intro _ H locs hp6 hw
      rw [bx_uu] at hw
      refine mg_aload_n X 28 d_Su_rateOfGreatest_27 (lv_at hl 0 rfl) rfl ?_
      refine mg_iconst X 29 1 d_Su_rateOfGreatest_28 mg_ci_1 rfl ?_
      refine mg_callVv X hK hw hA 32 [0, 1, 2, 3, 4, 5, 6, 7, 8, 9] 0 (fun uu => [mg_ob aS 4 [.ref (h), .ref (hM), .ref (hF), .ref (qsr), .ref (aB), .ref (aE), .ref (aQ), .ref (aT)], mg_ob h 1 [.ref (qf), .ref (qm), .ref (qr), .int (nI (nf)), .int (nI (nc))], mg_ob hM 2 [.ref (qw), .ref (qra), .ref (qo), .ref (qt), .int (nI (nm)), .int (nI (sg))], mg_ob hF 3 [.ref (h), .ref (hM), .ref (qtb), .ref (ql)], mg_ai K qtb 256 tb, mg_ai K qsr 3 (va_up sr g k), mg_ob aB 0 [.ref (qB)], mg_al K qB (64 * 6) uu.1, mg_ob aT 0 [.ref (qT)], mg_al K qT (4 * 6) uu.2.2]) rfl rfl (k_Su_sumTo l D K aS h hM hF qsr aB aE aQ aT qf qm qr nf nc qtb ql qw qra qo qt nm sg qB qT 1 tb (va_up sr g k) u V uT VU (by omega) (by omega) (su_up16 hsr (by omega)) (by omega) (hI) (hIT) (by omega) (by omega)) g_Su_83 ⟨by decide, by decide⟩ ⟨rfl, rfl⟩ rfl rfl rfl hl.1 (rest := []) (As := [.int (nI (1))]) rfl (Nat.le_of_ble_eq_true rfl) d_Su_rateOfGreatest_29 ⟨Nat.zero_le _, Nat.zero_le _⟩ (fun _ => rfl) (fun _ => rfl) rfl ?_
      intro u H locs hp8 hw
      obtain ⟨u7, V17, uT7⟩ := u
      dsimp only at hp8 hw
      refine mg_aload_n X 33 d_Su_rateOfGreatest_32 (lv_at hl 0 rfl) rfl ?_
      refine mg_get X hK hw 36 0 7 f_Su_42 rfl rfl d_Su_rateOfGreatest_33 rfl ?_
      refine mg_iconst X 37 1 d_Su_rateOfGreatest_36 mg_ci_1 rfl ?_
      refine mg_iconst X 38 2 d_Su_rateOfGreatest_37 mg_ci_2 rfl ?_
      refine mg_callVi X hK hw hA 41 [8, 9] 8 (fun _ => [mg_ob aS 4 [.ref (h), .ref (hM), .ref (hF), .ref (qsr), .ref (aB), .ref (aE), .ref (aQ), .ref (aT)], mg_ob h 1 [.ref (qf), .ref (qm), .ref (qr), .int (nI (nf)), .int (nI (nc))], mg_ob hM 2 [.ref (qw), .ref (qra), .ref (qo), .ref (qt), .int (nI (nm)), .int (nI (sg))], mg_ob hF 3 [.ref (h), .ref (hM), .ref (qtb), .ref (ql)], mg_ai K qtb 256 tb, mg_ai K qsr 3 (va_up sr g k), mg_ob aB 0 [.ref (qB)], mg_al K qB (64 * 6) u7, mg_ob aT 0 [.ref (qT)], mg_al K qT (4 * 6) uT7]) rfl rfl (k_Am_compare l D K aT qT 4 1 2 uT7 (va_up VU 1 (jn_J (2 * nc) (va_up sr g k) (su_F tb) (nm - 1))) (by omega) (hp8.2) (by omega) (by omega)) g_Su_86 ⟨by decide, by decide⟩ ⟨rfl, rfl⟩ rfl rfl rfl hl.1 (rest := []) (As := [.int (nI (1)), .int (nI (2))]) rfl (Nat.le_of_ble_eq_true rfl) d_Su_rateOfGreatest_38 ⟨Nat.zero_le _, Nat.zero_le _⟩ (fun _ => rfl) (fun _ => rfl) rfl ?_
      intro r _ H locs hp10 hw
      subst hp10
      refine mg_cif_le X 55 44 d_Su_rateOfGreatest_41 (by decide) rfl (fun hc => ?_) (fun hc => ?_)
      · -- pc 41 t
        have hc9 : su_Jk (2 * nc) sr (su_F tb) (nm - 1) g k ≤ su_Jk (2 * nc) sr (su_F tb) (nm - 1) g q0 := by rw [va_up_self, va_up_ne _ _ (by omega), hV2] at hc; exact hc
        refine mg_iinc X 58 [(3, .int (nI (k + 1))), (0, .ref (aS)), (1, .int (nI (g))), (2, .int (nI (q0)))] (k + 1) d_Su_rateOfGreatest_55 hl (k := 3) rfl (mg_inc1 _) (by decide) rfl rfl (fun ls hl => ?_)
        refine mg_goto X 15 d_Su_rateOfGreatest_58 (by decide) ?_
        have hl : lv_has ls 4 [(0, .ref (aS)), (1, .int (nI (g))), (2, .int (nI (q0))), (3, .int (nI (k + 1)))] := lv_sub hl [1, 2, 3, 0] rfl
        exact ih15 _ (by omega) (k + 1) q0 u7 V17 uT7 (va_up VU 1 (jn_J (2 * nc) (va_up sr g k) (su_F tb) (nm - 1))) rfl (hp8.1) (hp8.2) (by omega) (by omega) (by rw [hq0]; exact (su_amn (by rw [← hq0]; exact hc9)).symm) (by rw [va_up_ne _ _ (by omega)]; exact hV2) ls _ _ hl hw
      · -- pc 41 f
        have hc9 : su_Jk (2 * nc) sr (su_F tb) (nm - 1) g q0 < su_Jk (2 * nc) sr (su_F tb) (nm - 1) g k := by rw [va_up_self, va_up_ne _ _ (by omega), hV2] at hc; exact hc
        refine mg_aload_n X 45 d_Su_rateOfGreatest_44 (lv_at hl 0 rfl) rfl ?_
        refine mg_get X hK hw 48 0 7 f_Su_42 rfl rfl d_Su_rateOfGreatest_45 rfl ?_
        refine mg_iconst X 49 2 d_Su_rateOfGreatest_48 mg_ci_2 rfl ?_
        refine mg_iconst X 50 1 d_Su_rateOfGreatest_49 mg_ci_1 rfl ?_
        refine mg_callVv X hK hw hA 53 [8, 9] 8 (fun u11 => [mg_ob aS 4 [.ref (h), .ref (hM), .ref (hF), .ref (qsr), .ref (aB), .ref (aE), .ref (aQ), .ref (aT)], mg_ob h 1 [.ref (qf), .ref (qm), .ref (qr), .int (nI (nf)), .int (nI (nc))], mg_ob hM 2 [.ref (qw), .ref (qra), .ref (qo), .ref (qt), .int (nI (nm)), .int (nI (sg))], mg_ob hF 3 [.ref (h), .ref (hM), .ref (qtb), .ref (ql)], mg_ai K qtb 256 tb, mg_ai K qsr 3 (va_up sr g k), mg_ob aB 0 [.ref (qB)], mg_al K qB (64 * 6) u7, mg_ob aT 0 [.ref (qT)], mg_al K qT (4 * 6) u11]) rfl rfl (k_Am_copy l D K aT qT 4 2 1 uT7 (va_up VU 1 (jn_J (2 * nc) (va_up sr g k) (su_F tb) (nm - 1))) (by omega) (hp8.2) (by omega) (by omega)) g_Su_90 ⟨by decide, by decide⟩ ⟨rfl, rfl⟩ rfl rfl rfl hl.1 (rest := []) (As := [.int (nI (2)), .int (nI (1))]) rfl (Nat.le_of_ble_eq_true rfl) d_Su_rateOfGreatest_50 ⟨Nat.zero_le _, Nat.zero_le _⟩ (fun _ => rfl) (fun _ => rfl) rfl ?_
        intro u11 H locs hp12 hw
        refine mg_iload_n X 54 d_Su_rateOfGreatest_53 (lv_at hl 3 rfl) rfl ?_
        refine mg_istore_n X 55 [(2, .int (nI (k))), (0, .ref (aS)), (1, .int (nI (g))), (3, .int (nI (k)))] d_Su_rateOfGreatest_54 hl (by decide) rfl rfl (fun ls hl => ?_)
        refine mg_iinc X 58 [(3, .int (nI (k + 1))), (2, .int (nI (k))), (0, .ref (aS)), (1, .int (nI (g)))] (k + 1) d_Su_rateOfGreatest_55 hl (k := 3) rfl (mg_inc1 _) (by decide) rfl rfl (fun ls hl => ?_)
        refine mg_goto X 15 d_Su_rateOfGreatest_58 (by decide) ?_
        have hl : lv_has ls 4 [(0, .ref (aS)), (1, .int (nI (g))), (2, .int (nI (k))), (3, .int (nI (k + 1)))] := lv_sub hl [2, 3, 1, 0] rfl
        exact ih15 _ (by omega) (k + 1) k u7 V17 u11 (va_up (va_up VU 1 (jn_J (2 * nc) (va_up sr g k) (su_F tb) (nm - 1))) 2 ((va_up VU 1 (jn_J (2 * nc) (va_up sr g k) (su_F tb) (nm - 1))) 1)) rfl (hp8.1) (hp12) (by omega) (by omega) ((su_amy (by rw [← hq0]; exact hc9)).symm) (by rw [va_up_self, va_up_self]; rfl) ls _ _ hl hw
  have hl : lv_has ls 4 [(0, .ref (aS)), (1, .int (nI (g))), (2, .int (nI (0))), (3, .int (nI (1)))] := lv_sub hl [2, 3, 1, 0] rfl
  exact L15 _ 1 0 u3 V13 uT3 (va_up VT 2 (jn_J (2 * nc) (va_up sr g 0) (su_F tb) (nm - 1))) rfl (hp4.1) (hp4.2) (by omega) (by omega) ((su_am1 _).symm) (by rw [va_up_self]; rfl) ls _ _ hl hw
