set_option maxRecDepth 100000 in
set_option maxHeartbeats 4000000 in
theorem k_Su_takeRates (l : Launch) (D : va_G) (K : Nat → ClassId) (aS : Nat) (h : Nat) (hM : Nat) (hF : Nat) (qsr : Nat) (aB : Nat) (aE : Nat) (aQ : Nat) (aT : Nat) (qw : Nat) (qra : Nat) (qo : Nat) (qt : Nat) (nm : Nat) (sg : Nat) (sr : Nat → Nat) (rt : Nat → Nat) (hm4 : nm ≤ 4) : mg_Mv l D K y_Su_takeRates b_Su_takeRates 2 ({ frames := 1, cells := 0, slots := 0, locals := 20 }) [.ref (aS)] [mg_ob aS 4 [.ref (h), .ref (hM), .ref (hF), .ref (qsr), .ref (aB), .ref (aE), .ref (aQ), .ref (aT)], mg_ai K qsr 3 sr, mg_ob hM 2 [.ref (qw), .ref (qra), .ref (qo), .ref (qt), .int (nI (nm)), .int (nI (sg))], mg_ai K qra 3 rt] (fun (_ : Unit) => True) (fun (_ : Unit) => [mg_ob aS 4 [.ref (h), .ref (hM), .ref (hF), .ref (qsr), .ref (aB), .ref (aE), .ref (aQ), .ref (aT)], mg_ai K qsr 3 (su_pt rt sr (nm - 1)), mg_ob hM 2 [.ref (qw), .ref (qra), .ref (qo), .ref (qt), .int (nI (nm)), .int (nI (sg))], mg_ai K qra 3 rt]) := by
  intro sz
  refine mg_entry (Qc := fun A => va_Qv (fun (_ : Unit) => True) (mg_B D A (fun (_ : Unit) => [mg_ob aS 4 [.ref (h), .ref (hM), .ref (hF), .ref (qsr), .ref (aB), .ref (aE), .ref (aQ), .ref (aT)], mg_ai K qsr 3 (su_pt rt sr (nm - 1)), mg_ob hM 2 [.ref (qw), .ref (qra), .ref (qo), .ref (qt), .int (nI (nm)), .int (nI (sg))], mg_ai K qra 3 rt])) A) (by decide) (Nat.le_of_ble_eq_true rfl) ?_
  intro p e s m args below meth c A ls X hr hlk hnm hA hK hw hl
  have hl : lv_has ls 2 [(0, .ref (aS))] := hl
  rw [← su_pt0 rt sr] at hw
  refine mg_iconst X 1 0 d_Su_takeRates_0 mg_ci_0 rfl ?_
  refine mg_istore_n X 2 [(1, .int (nI (0))), (0, .ref (aS))] d_Su_takeRates_1 hl (by decide) rfl rfl (fun ls hl => ?_)
  have L2 : ∀ (n0 : Nat) (k : Nat), n0 = nm - 1 - k → (k ≤ nm - 1) → ∀ (ls : Array Slot) (H : Heap) (locs : List Loc), lv_has ls 2 [(0, .ref (aS)), (1, .int (nI (k)))] → mg_H D A s.heap H locs [mg_ob aS 4 [.ref (h), .ref (hM), .ref (hF), .ref (qsr), .ref (aB), .ref (aE), .ref (aQ), .ref (aT)], mg_ai K qsr 3 (su_pt rt sr k), mg_ob hM 2 [.ref (qw), .ref (qra), .ref (qo), .ref (qt), .int (nI (nm)), .int (nI (sg))], mg_ai K qra 3 rt] → W p l e ({ frames := 1, cells := 0, slots := 0, locals := 20 }) s m args below meth c H locs 0 0 (MQ below (va_Qv (fun (_ : Unit) => True) (mg_B D A (fun (_ : Unit) => [mg_ob aS 4 [.ref (h), .ref (hM), .ref (hF), .ref (qsr), .ref (aB), .ref (aE), .ref (aQ), .ref (aT)], mg_ai K qsr 3 (su_pt rt sr (nm - 1)), mg_ob hM 2 [.ref (qw), .ref (qra), .ref (qo), .ref (qt), .int (nI (nm)), .int (nI (sg))], mg_ai K qra 3 rt])) A) args s (0) (0) A) (F0 m 2 ls []) := by
    intro n0
    induction n0 using Nat.strongRecOn with
    | ind n0 ih2 =>
    intro k hm2 hk ls H locs hl hw
    refine mg_iload_n X 3 d_Su_takeRates_2 (lv_at hl 1 rfl) rfl ?_
    refine mg_aload_n X 4 d_Su_takeRates_3 (lv_at hl 0 rfl) rfl ?_
    refine mg_get X hK hw 7 0 1 f_Su_15 rfl rfl d_Su_takeRates_4 rfl ?_
    refine mg_callVi X hK hw hA 10 [2] 2 (fun _ => [mg_ob aS 4 [.ref (h), .ref (hM), .ref (hF), .ref (qsr), .ref (aB), .ref (aE), .ref (aQ), .ref (aT)], mg_ai K qsr 3 (su_pt rt sr k), mg_ob hM 2 [.ref (qw), .ref (qra), .ref (qo), .ref (qt), .int (nI (nm)), .int (nI (sg))], mg_ai K qra 3 rt]) rfl rfl (k_Ma_gaps l D K hM qw qra qo qt nm sg (by omega)) g_Su_45 ⟨by decide, by decide⟩ ⟨rfl, rfl⟩ rfl rfl rfl hl.1 (rest := [.int (nI (k))]) (As := []) rfl (Nat.le_of_ble_eq_true rfl) d_Su_takeRates_7 ⟨Nat.zero_le _, Nat.zero_le _⟩ (fun _ => rfl) (fun _ => rfl) rfl ?_
    intro r _ H locs hp2 hw
    subst hp2
    refine mg_icmp_ge X 34 13 (by omega) (by omega) d_Su_takeRates_10 (by decide) rfl (fun hb => ?_) (fun hb => ?_)
    · -- pc 10 t
      obtain rfl : k = nm - 1 := by omega
      exact mg_vret X hr hlk (()) (trivial) hw d_Su_takeRates_34
    · -- pc 10 f
      refine mg_aload_n X 14 d_Su_takeRates_13 (lv_at hl 0 rfl) rfl ?_
      refine mg_get X hK hw 17 0 3 f_Su_23 rfl rfl d_Su_takeRates_14 rfl ?_
      refine mg_iload_n X 18 d_Su_takeRates_17 (lv_at hl 1 rfl) rfl ?_
      refine mg_aload_n X 19 d_Su_takeRates_18 (lv_at hl 0 rfl) rfl ?_
      refine mg_get X hK hw 22 0 1 f_Su_15 rfl rfl d_Su_takeRates_19 rfl ?_
      refine mg_get X hK hw 25 2 1 f_Su_51 rfl rfl d_Su_takeRates_22 rfl ?_
      refine mg_iload_n X 26 d_Su_takeRates_25 (lv_at hl 1 rfl) rfl ?_
      refine mg_iald X hK hw 27 3 rfl (by omega) (by omega) d_Su_takeRates_26 rfl ?_
      refine mg_iast X hK hw 28 1 [mg_ob aS 4 [.ref (h), .ref (hM), .ref (hF), .ref (qsr), .ref (aB), .ref (aE), .ref (aQ), .ref (aT)], mg_ai K qsr 3 (va_up (su_pt rt sr k) k (rt k)), mg_ob hM 2 [.ref (qw), .ref (qra), .ref (qo), .ref (qt), .int (nI (nm)), .int (nI (sg))], mg_ai K qra 3 rt] rfl (by omega) (by omega) d_Su_takeRates_27 rfl rfl (fun H locs hw => ?_)
      refine mg_iinc X 31 [(1, .int (nI (k + 1))), (0, .ref (aS))] (k + 1) d_Su_takeRates_28 hl (k := 1) rfl (mg_inc1 _) (by decide) rfl rfl (fun ls hl => ?_)
      refine mg_goto X 2 d_Su_takeRates_31 (by decide) ?_
      have hl : lv_has ls 2 [(0, .ref (aS)), (1, .int (nI (k + 1)))] := lv_sub hl [1, 0] rfl
      rw [su_ptS] at hw
      exact ih2 _ (by omega) (k + 1) rfl (by omega) ls _ _ hl hw
  have hl : lv_has ls 2 [(0, .ref (aS)), (1, .int (nI (0)))] := lv_sub hl [1, 0] rfl
  exact L2 _ 0 rfl (Nat.zero_le _) ls _ _ hl hw

set_option maxRecDepth 100000 in
set_option maxHeartbeats 4000000 in
theorem k_Su_freeRates (l : Launch) (D : va_G) (K : Nat → ClassId) (aS : Nat) (h : Nat) (hM : Nat) (hF : Nat) (qsr : Nat) (aB : Nat) (aE : Nat) (aQ : Nat) (aT : Nat) (qw : Nat) (qra : Nat) (qo : Nat) (qt : Nat) (nm : Nat) (sg : Nat) (sr : Nat → Nat) (hm4 : nm ≤ 4) : mg_Mv l D K y_Su_freeRates b_Su_freeRates 2 ({ frames := 1, cells := 0, slots := 0, locals := 20 }) [.ref (aS)] [mg_ob aS 4 [.ref (h), .ref (hM), .ref (hF), .ref (qsr), .ref (aB), .ref (aE), .ref (aQ), .ref (aT)], mg_ai K qsr 3 sr, mg_ob hM 2 [.ref (qw), .ref (qra), .ref (qo), .ref (qt), .int (nI (nm)), .int (nI (sg))]] (fun (_ : Unit) => True) (fun (_ : Unit) => [mg_ob aS 4 [.ref (h), .ref (hM), .ref (hF), .ref (qsr), .ref (aB), .ref (aE), .ref (aQ), .ref (aT)], mg_ai K qsr 3 (su_pt (fun _ => 8) sr (nm - 1)), mg_ob hM 2 [.ref (qw), .ref (qra), .ref (qo), .ref (qt), .int (nI (nm)), .int (nI (sg))]]) := by
  intro sz
  refine mg_entry (Qc := fun A => va_Qv (fun (_ : Unit) => True) (mg_B D A (fun (_ : Unit) => [mg_ob aS 4 [.ref (h), .ref (hM), .ref (hF), .ref (qsr), .ref (aB), .ref (aE), .ref (aQ), .ref (aT)], mg_ai K qsr 3 (su_pt (fun _ => 8) sr (nm - 1)), mg_ob hM 2 [.ref (qw), .ref (qra), .ref (qo), .ref (qt), .int (nI (nm)), .int (nI (sg))]])) A) (by decide) (Nat.le_of_ble_eq_true rfl) ?_
  intro p e s m args below meth c A ls X hr hlk hnm hA hK hw hl
  have hl : lv_has ls 2 [(0, .ref (aS))] := hl
  rw [← su_pt0 (fun _ => 8) sr] at hw
  refine mg_iconst X 1 0 d_Su_freeRates_0 mg_ci_0 rfl ?_
  refine mg_istore_n X 2 [(1, .int (nI (0))), (0, .ref (aS))] d_Su_freeRates_1 hl (by decide) rfl rfl (fun ls hl => ?_)
  have L2 : ∀ (n0 : Nat) (k : Nat), n0 = nm - 1 - k → (k ≤ nm - 1) → ∀ (ls : Array Slot) (H : Heap) (locs : List Loc), lv_has ls 2 [(0, .ref (aS)), (1, .int (nI (k)))] → mg_H D A s.heap H locs [mg_ob aS 4 [.ref (h), .ref (hM), .ref (hF), .ref (qsr), .ref (aB), .ref (aE), .ref (aQ), .ref (aT)], mg_ai K qsr 3 (su_pt (fun _ => 8) sr k), mg_ob hM 2 [.ref (qw), .ref (qra), .ref (qo), .ref (qt), .int (nI (nm)), .int (nI (sg))]] → W p l e ({ frames := 1, cells := 0, slots := 0, locals := 20 }) s m args below meth c H locs 0 0 (MQ below (va_Qv (fun (_ : Unit) => True) (mg_B D A (fun (_ : Unit) => [mg_ob aS 4 [.ref (h), .ref (hM), .ref (hF), .ref (qsr), .ref (aB), .ref (aE), .ref (aQ), .ref (aT)], mg_ai K qsr 3 (su_pt (fun _ => 8) sr (nm - 1)), mg_ob hM 2 [.ref (qw), .ref (qra), .ref (qo), .ref (qt), .int (nI (nm)), .int (nI (sg))]])) A) args s (0) (0) A) (F0 m 2 ls []) := by
    intro n0
    induction n0 using Nat.strongRecOn with
    | ind n0 ih2 =>
    intro k hm2 hk ls H locs hl hw
    refine mg_iload_n X 3 d_Su_freeRates_2 (lv_at hl 1 rfl) rfl ?_
    refine mg_aload_n X 4 d_Su_freeRates_3 (lv_at hl 0 rfl) rfl ?_
    refine mg_get X hK hw 7 0 1 f_Su_15 rfl rfl d_Su_freeRates_4 rfl ?_
    refine mg_callVi X hK hw hA 10 [2] 2 (fun _ => [mg_ob aS 4 [.ref (h), .ref (hM), .ref (hF), .ref (qsr), .ref (aB), .ref (aE), .ref (aQ), .ref (aT)], mg_ai K qsr 3 (su_pt (fun _ => 8) sr k), mg_ob hM 2 [.ref (qw), .ref (qra), .ref (qo), .ref (qt), .int (nI (nm)), .int (nI (sg))]]) rfl rfl (k_Ma_gaps l D K hM qw qra qo qt nm sg (by omega)) g_Su_45 ⟨by decide, by decide⟩ ⟨rfl, rfl⟩ rfl rfl rfl hl.1 (rest := [.int (nI (k))]) (As := []) rfl (Nat.le_of_ble_eq_true rfl) d_Su_freeRates_7 ⟨Nat.zero_le _, Nat.zero_le _⟩ (fun _ => rfl) (fun _ => rfl) rfl ?_
    intro r _ H locs hp2 hw
    subst hp2
    refine mg_icmp_ge X 27 13 (by omega) (by omega) d_Su_freeRates_10 (by decide) rfl (fun hb => ?_) (fun hb => ?_)
    · -- pc 10 t
      obtain rfl : k = nm - 1 := by omega
      exact mg_vret X hr hlk (()) (trivial) hw d_Su_freeRates_27
    · -- pc 10 f
      refine mg_aload_n X 14 d_Su_freeRates_13 (lv_at hl 0 rfl) rfl ?_
      refine mg_get X hK hw 17 0 3 f_Su_23 rfl rfl d_Su_freeRates_14 rfl ?_
      refine mg_iload_n X 18 d_Su_freeRates_17 (lv_at hl 1 rfl) rfl ?_
      refine mg_bipush X 20 8 d_Su_freeRates_18 mg_cb_8 rfl ?_
      refine mg_iast X hK hw 21 1 [mg_ob aS 4 [.ref (h), .ref (hM), .ref (hF), .ref (qsr), .ref (aB), .ref (aE), .ref (aQ), .ref (aT)], mg_ai K qsr 3 (va_up (su_pt (fun _ => 8) sr k) k 8), mg_ob hM 2 [.ref (qw), .ref (qra), .ref (qo), .ref (qt), .int (nI (nm)), .int (nI (sg))]] rfl (by omega) (by omega) d_Su_freeRates_20 rfl rfl (fun H locs hw => ?_)
      refine mg_iinc X 24 [(1, .int (nI (k + 1))), (0, .ref (aS))] (k + 1) d_Su_freeRates_21 hl (k := 1) rfl (mg_inc1 _) (by decide) rfl rfl (fun ls hl => ?_)
      refine mg_goto X 2 d_Su_freeRates_24 (by decide) ?_
      have hl : lv_has ls 2 [(0, .ref (aS)), (1, .int (nI (k + 1)))] := lv_sub hl [1, 0] rfl
      rw [su_ptS (fun _ => 8)] at hw
      exact ih2 _ (by omega) (k + 1) rfl (by omega) ls _ _ hl hw
  have hl : lv_has ls 2 [(0, .ref (aS)), (1, .int (nI (0)))] := lv_sub hl [1, 0] rfl
  exact L2 _ 0 rfl (Nat.zero_le _) ls _ _ hl hw

set_option maxRecDepth 100000 in
set_option maxHeartbeats 4000000 in
theorem k_Su_changeRate (l : Launch) (D : va_G) (K : Nat → ClassId) (aS : Nat) (h : Nat) (hM : Nat) (hF : Nat) (qsr : Nat) (aB : Nat) (aE : Nat) (aQ : Nat) (aT : Nat) (g : Nat) (x : Nat) (sr : Nat → Nat) (hg : g < 3) : mg_Mv l D K y_Su_changeRate b_Su_changeRate 3 ({ frames := 0, cells := 0, slots := 0, locals := 0 }) [.ref (aS), .int (nI (g)), .int (nI (x))] [mg_ob aS 4 [.ref (h), .ref (hM), .ref (hF), .ref (qsr), .ref (aB), .ref (aE), .ref (aQ), .ref (aT)], mg_ai K qsr 3 sr] (fun (_ : Unit) => True) (fun (_ : Unit) => [mg_ob aS 4 [.ref (h), .ref (hM), .ref (hF), .ref (qsr), .ref (aB), .ref (aE), .ref (aQ), .ref (aT)], mg_ai K qsr 3 (va_up sr g x)]) := by
  intro sz
  refine mg_entry (Qc := fun A => va_Qv (fun (_ : Unit) => True) (mg_B D A (fun (_ : Unit) => [mg_ob aS 4 [.ref (h), .ref (hM), .ref (hF), .ref (qsr), .ref (aB), .ref (aE), .ref (aQ), .ref (aT)], mg_ai K qsr 3 (va_up sr g x)])) A) (by decide) (Nat.le_of_ble_eq_true rfl) ?_
  intro p e s m args below meth c A ls X hr hlk hnm hA hK hw hl
  have hl : lv_has ls 3 [(0, .ref (aS)), (1, .int (nI (g))), (2, .int (nI (x)))] := hl
  refine mg_aload_n X 1 d_Su_changeRate_0 (lv_at hl 0 rfl) rfl ?_
  refine mg_get X hK hw 4 0 3 f_Su_23 rfl rfl d_Su_changeRate_1 rfl ?_
  refine mg_iload_n X 5 d_Su_changeRate_4 (lv_at hl 1 rfl) rfl ?_
  refine mg_iload_n X 6 d_Su_changeRate_5 (lv_at hl 2 rfl) rfl ?_
  refine mg_iast X hK hw 7 1 [mg_ob aS 4 [.ref (h), .ref (hM), .ref (hF), .ref (qsr), .ref (aB), .ref (aE), .ref (aQ), .ref (aT)], mg_ai K qsr 3 (va_up sr g x)] rfl (by omega) (by omega) d_Su_changeRate_6 rfl rfl (fun H locs hw => ?_)
  exact mg_vret X hr hlk (()) (trivial) hw d_Su_changeRate_7

set_option maxRecDepth 100000 in
set_option maxHeartbeats 4000000 in
theorem k_Su_comeFromBefore (l : Launch) (D : va_G) (K : Nat → ClassId) (aS : Nat) (h : Nat) (hM : Nat) (hF : Nat) (qsr : Nat) (aB : Nat) (aE : Nat) (aQ : Nat) (aT : Nat) (qf : Nat) (qm : Nat) (qr : Nat) (nf : Nat) (nc : Nat) (qtb : Nat) (ql : Nat) (qB : Nat) (nm : Nat) (mk : Nat) (tb : Nat → Nat) (sr : Nat → Nat) (dB : Nat → Nat) (VB : Nat → Nat) (hnc : nc ≤ 3) (hm4 : nm ≤ 4) (hsr : ∀ i, i + 1 < nm → sr i ≤ 16) (hTb : ∀ i w, i < nm → w < 2 ^ (2 * nc) → su_F tb i w ≤ 2 ^ 18) (hRB : am_R 64 dB VB) (hm : mk < nm) : mg_Mv l D K y_Su_comeFromBefore b_Su_comeFromBefore 3 ({ frames := 4, cells := 0, slots := 0, locals := 90 }) [.ref (aS), .int (nI (mk))] [mg_ob aS 4 [.ref (h), .ref (hM), .ref (hF), .ref (qsr), .ref (aB), .ref (aE), .ref (aQ), .ref (aT)], mg_ob h 1 [.ref (qf), .ref (qm), .ref (qr), .int (nI (nf)), .int (nI (nc))], mg_ob hF 3 [.ref (h), .ref (hM), .ref (qtb), .ref (ql)], mg_ai K qtb 256 tb, mg_ai K qsr 3 sr, mg_ob aB 0 [.ref (qB)], mg_al K qB (64 * 6) dB] (fun (uu : (Nat → Nat) × (Nat → Nat)) => am_R 64 uu.1 uu.2 ∧ ∀ j, j < 2 ^ (2 * nc) → uu.2 j = jn_al (2 * nc) sr (su_F tb) mk j) (fun (uu : (Nat → Nat) × (Nat → Nat)) => [mg_ob aS 4 [.ref (h), .ref (hM), .ref (hF), .ref (qsr), .ref (aB), .ref (aE), .ref (aQ), .ref (aT)], mg_ob h 1 [.ref (qf), .ref (qm), .ref (qr), .int (nI (nf)), .int (nI (nc))], mg_ob hF 3 [.ref (h), .ref (hM), .ref (qtb), .ref (ql)], mg_ai K qtb 256 tb, mg_ai K qsr 3 sr, mg_ob aB 0 [.ref (qB)], mg_al K qB (64 * 6) uu.1]) := by
  intro sz
  refine mg_entry (Qc := fun A => va_Qv (fun (uu : (Nat → Nat) × (Nat → Nat)) => am_R 64 uu.1 uu.2 ∧ ∀ j, j < 2 ^ (2 * nc) → uu.2 j = jn_al (2 * nc) sr (su_F tb) mk j) (mg_B D A (fun (uu : (Nat → Nat) × (Nat → Nat)) => [mg_ob aS 4 [.ref (h), .ref (hM), .ref (hF), .ref (qsr), .ref (aB), .ref (aE), .ref (aQ), .ref (aT)], mg_ob h 1 [.ref (qf), .ref (qm), .ref (qr), .int (nI (nf)), .int (nI (nc))], mg_ob hF 3 [.ref (h), .ref (hM), .ref (qtb), .ref (ql)], mg_ai K qtb 256 tb, mg_ai K qsr 3 sr, mg_ob aB 0 [.ref (qB)], mg_al K qB (64 * 6) uu.1])) A) (by decide) (Nat.le_of_ble_eq_true rfl) ?_
  intro p e s m args below meth c A ls X hr hlk hnm hA hK hw hl
  have hl : lv_has ls 3 [(0, .ref (aS)), (1, .int (nI (mk)))] := hl
  have hw6 := mg_ways hnc
  refine mg_aload_n X 1 d_Su_comeFromBefore_0 (lv_at hl 0 rfl) rfl ?_
  refine mg_aload_n X 2 d_Su_comeFromBefore_1 (lv_at hl 0 rfl) rfl ?_
  refine mg_get X hK hw 5 0 4 f_Su_32 rfl rfl d_Su_comeFromBefore_2 rfl ?_
  refine mg_callVv X hK hw hA 8 [0, 1, 5, 6] 0 (fun u1 => [mg_ob aS 4 [.ref (h), .ref (hM), .ref (hF), .ref (qsr), .ref (aB), .ref (aE), .ref (aQ), .ref (aT)], mg_ob h 1 [.ref (qf), .ref (qm), .ref (qr), .int (nI (nf)), .int (nI (nc))], mg_ob hF 3 [.ref (h), .ref (hM), .ref (qtb), .ref (ql)], mg_ai K qtb 256 tb, mg_ai K qsr 3 sr, mg_ob aB 0 [.ref (qB)], mg_al K qB (64 * 6) u1]) rfl rfl (k_Su_fill l D K aS h hM hF qsr aB aE aQ aT qf qm qr nf nc aB qB dB VB (by omega) (hRB)) g_Su_115 ⟨by decide, by decide⟩ ⟨rfl, rfl⟩ rfl rfl rfl hl.1 (rest := []) (As := [.ref (aB)]) rfl (Nat.le_of_ble_eq_true rfl) d_Su_comeFromBefore_5 ⟨Nat.zero_le _, Nat.zero_le _⟩ (fun _ => rfl) (fun _ => rfl) rfl ?_
  intro u1 H locs hp2 hw
  refine mg_iconst X 9 0 d_Su_comeFromBefore_8 mg_ci_0 rfl ?_
  refine mg_istore_n X 10 [(2, .int (nI (0))), (0, .ref (aS)), (1, .int (nI (mk)))] d_Su_comeFromBefore_9 hl (by decide) rfl rfl (fun ls hl => ?_)
  have L10 : ∀ (n0 : Nat) (k : Nat) (u : Nat → Nat) (V : Nat → Nat), n0 = mk - k → (am_R 64 u V) → (k ≤ mk) → (∀ j, j < 2 ^ (2 * nc) → V j = jn_al (2 * nc) sr (su_F tb) k j) → ∀ (ls : Array Slot) (H : Heap) (locs : List Loc), lv_has ls 3 [(0, .ref (aS)), (1, .int (nI (mk))), (2, .int (nI (k)))] → mg_H D A s.heap H locs [mg_ob aS 4 [.ref (h), .ref (hM), .ref (hF), .ref (qsr), .ref (aB), .ref (aE), .ref (aQ), .ref (aT)], mg_ob h 1 [.ref (qf), .ref (qm), .ref (qr), .int (nI (nf)), .int (nI (nc))], mg_ob hF 3 [.ref (h), .ref (hM), .ref (qtb), .ref (ql)], mg_ai K qtb 256 tb, mg_ai K qsr 3 sr, mg_ob aB 0 [.ref (qB)], mg_al K qB (64 * 6) u] → W p l e ({ frames := 4, cells := 0, slots := 0, locals := 90 }) s m args below meth c H locs 0 0 (MQ below (va_Qv (fun (uu : (Nat → Nat) × (Nat → Nat)) => am_R 64 uu.1 uu.2 ∧ ∀ j, j < 2 ^ (2 * nc) → uu.2 j = jn_al (2 * nc) sr (su_F tb) mk j) (mg_B D A (fun (uu : (Nat → Nat) × (Nat → Nat)) => [mg_ob aS 4 [.ref (h), .ref (hM), .ref (hF), .ref (qsr), .ref (aB), .ref (aE), .ref (aQ), .ref (aT)], mg_ob h 1 [.ref (qf), .ref (qm), .ref (qr), .int (nI (nf)), .int (nI (nc))], mg_ob hF 3 [.ref (h), .ref (hM), .ref (qtb), .ref (ql)], mg_ai K qtb 256 tb, mg_ai K qsr 3 sr, mg_ob aB 0 [.ref (qB)], mg_al K qB (64 * 6) uu.1])) A) args s (0) (0) A) (F0 m 10 ls []) := by
    intro n0
    induction n0 using Nat.strongRecOn with
    | ind n0 ih10 =>
    intro k u V hm10 hI hk hJ ls H locs hl hw
    refine mg_iload_n X 11 d_Su_comeFromBefore_10 (lv_at hl 2 rfl) rfl ?_
    refine mg_iload_n X 12 d_Su_comeFromBefore_11 (lv_at hl 1 rfl) rfl ?_
    refine mg_icmp_ge X 39 15 (by omega) (by omega) d_Su_comeFromBefore_12 (by decide) rfl (fun hb => ?_) (fun hb => ?_)
    · -- pc 12 t
      exact mg_vret X hr hlk ((u, V)) (⟨hI, by obtain rfl : k = mk := (by omega); exact hJ⟩) hw d_Su_comeFromBefore_39
    · -- pc 12 f
      refine mg_aload_n X 16 d_Su_comeFromBefore_15 (lv_at hl 0 rfl) rfl ?_
      refine mg_aload_n X 17 d_Su_comeFromBefore_16 (lv_at hl 0 rfl) rfl ?_
      refine mg_get X hK hw 20 0 4 f_Su_32 rfl rfl d_Su_comeFromBefore_17 rfl ?_
      refine mg_iload_n X 21 d_Su_comeFromBefore_20 (lv_at hl 2 rfl) rfl ?_
      refine mg_callVv X hK hw hA 24 [0, 1, 2, 3, 5, 6] 0 (fun u3 => [mg_ob aS 4 [.ref (h), .ref (hM), .ref (hF), .ref (qsr), .ref (aB), .ref (aE), .ref (aQ), .ref (aT)], mg_ob h 1 [.ref (qf), .ref (qm), .ref (qr), .int (nI (nf)), .int (nI (nc))], mg_ob hF 3 [.ref (h), .ref (hM), .ref (qtb), .ref (ql)], mg_ai K qtb 256 tb, mg_ai K qsr 3 sr, mg_ob aB 0 [.ref (qB)], mg_al K qB (64 * 6) u3]) rfl rfl (k_Su_multiplyByFits l D K aS h hM hF qsr aB aE aQ aT qf qm qr nf nc qtb ql aB qB k u V tb (by omega) (hI) (by omega) (fun j hj => hTb (k) j (by omega) hj) (fun j hj => su_lt (su_mul (by rw [hJ j hj]; exact su_al_le (by omega) hm4 hsr hTb k (by omega) j hj) (hTb (k) j (by omega) hj)) (by omega))) g_Su_59 ⟨by decide, by decide⟩ ⟨rfl, rfl⟩ rfl rfl rfl hl.1 (rest := []) (As := [.ref (aB), .int (nI (k))]) rfl (Nat.le_of_ble_eq_true rfl) d_Su_comeFromBefore_21 ⟨Nat.zero_le _, Nat.zero_le _⟩ (fun _ => rfl) (fun _ => rfl) rfl ?_
      intro u3 H locs hp4 hw
      refine mg_aload_n X 25 d_Su_comeFromBefore_24 (lv_at hl 0 rfl) rfl ?_
      refine mg_aload_n X 26 d_Su_comeFromBefore_25 (lv_at hl 0 rfl) rfl ?_
      refine mg_get X hK hw 29 0 4 f_Su_32 rfl rfl d_Su_comeFromBefore_26 rfl ?_
      refine mg_iload_n X 30 d_Su_comeFromBefore_29 (lv_at hl 2 rfl) rfl ?_
      refine mg_callVv X hK hw hA 33 [0, 1, 4, 5, 6] 0 (fun uu => [mg_ob aS 4 [.ref (h), .ref (hM), .ref (hF), .ref (qsr), .ref (aB), .ref (aE), .ref (aQ), .ref (aT)], mg_ob h 1 [.ref (qf), .ref (qm), .ref (qr), .int (nI (nf)), .int (nI (nc))], mg_ob hF 3 [.ref (h), .ref (hM), .ref (qtb), .ref (ql)], mg_ai K qtb 256 tb, mg_ai K qsr 3 sr, mg_ob aB 0 [.ref (qB)], mg_al K qB (64 * 6) uu.1]) rfl rfl (k_Su_crossGap l D K aS h hM hF qsr aB aE aQ aT qf qm qr nf nc aB qB k (2 ^ (42 * k + 18)) u3 (su_pt (fun j => V j * tb (k * 64 + j)) V (2 ^ (2 * nc))) sr (fun j => jn_al (2 * nc) sr (su_F tb) k j * su_F tb k j) (by omega) (hp4) (by omega) (hsr k (by omega)) (fun j hj => by rw [su_ptl _ _ hj, hJ j hj]; rfl) (fun j hj => su_mul (su_al_le (by omega) hm4 hsr hTb k (by omega) j hj) (hTb k j (by omega) hj)) (su_lt (su_mul (Nat.le_refl _) (su_16 (by omega))) (by omega))) g_Su_119 ⟨by decide, by decide⟩ ⟨rfl, rfl⟩ rfl rfl rfl hl.1 (rest := []) (As := [.ref (aB), .int (nI (k))]) rfl (Nat.le_of_ble_eq_true rfl) d_Su_comeFromBefore_30 ⟨Nat.zero_le _, Nat.zero_le _⟩ (fun _ => rfl) (fun _ => rfl) rfl ?_
      intro u H locs hp6 hw
      obtain ⟨u5, V15⟩ := u
      dsimp only at hp6 hw
      refine mg_iinc X 36 [(2, .int (nI (k + 1))), (0, .ref (aS)), (1, .int (nI (mk)))] (k + 1) d_Su_comeFromBefore_33 hl (k := 2) rfl (mg_inc1 _) (by decide) rfl rfl (fun ls hl => ?_)
      refine mg_goto X 10 d_Su_comeFromBefore_36 (by decide) ?_
      have hl : lv_has ls 3 [(0, .ref (aS)), (1, .int (nI (mk))), (2, .int (nI (k + 1)))] := lv_sub hl [1, 2, 0] rfl
      exact ih10 _ (by omega) (k + 1) u5 V15 rfl (hp6.1) (by omega) (hp6.2) ls _ _ hl hw
  have hl : lv_has ls 3 [(0, .ref (aS)), (1, .int (nI (mk))), (2, .int (nI (0)))] := lv_sub hl [1, 2, 0] rfl
  exact L10 _ 0 u1 (su_pt (fun _ => 1) VB (2 ^ (2 * nc))) rfl (hp2) (Nat.zero_le _) (fun j hj => su_ptl _ _ hj) ls _ _ hl hw

set_option maxRecDepth 100000 in
set_option maxHeartbeats 4000000 in
theorem k_Su_comeFromBehind (l : Launch) (D : va_G) (K : Nat → ClassId) (aS : Nat) (h : Nat) (hM : Nat) (hF : Nat) (qsr : Nat) (aB : Nat) (aE : Nat) (aQ : Nat) (aT : Nat) (qf : Nat) (qm : Nat) (qr : Nat) (nf : Nat) (nc : Nat) (qtb : Nat) (ql : Nat) (qw : Nat) (qra : Nat) (qo : Nat) (qt : Nat) (nm : Nat) (sg : Nat) (qE : Nat) (mk : Nat) (tb : Nat → Nat) (sr : Nat → Nat) (dE : Nat → Nat) (VE : Nat → Nat) (hnc : nc ≤ 3) (hm4 : nm ≤ 4) (hsr : ∀ i, i + 1 < nm → sr i ≤ 16) (hTb : ∀ i w, i < nm → w < 2 ^ (2 * nc) → su_F tb i w ≤ 2 ^ 18) (hRE : am_R 64 dE VE) (hm : mk < nm) : mg_Mv l D K y_Su_comeFromBehind b_Su_comeFromBehind 3 ({ frames := 4, cells := 0, slots := 0, locals := 90 }) [.ref (aS), .int (nI (mk))] [mg_ob aS 4 [.ref (h), .ref (hM), .ref (hF), .ref (qsr), .ref (aB), .ref (aE), .ref (aQ), .ref (aT)], mg_ob h 1 [.ref (qf), .ref (qm), .ref (qr), .int (nI (nf)), .int (nI (nc))], mg_ob hM 2 [.ref (qw), .ref (qra), .ref (qo), .ref (qt), .int (nI (nm)), .int (nI (sg))], mg_ob hF 3 [.ref (h), .ref (hM), .ref (qtb), .ref (ql)], mg_ai K qtb 256 tb, mg_ai K qsr 3 sr, mg_ob aE 0 [.ref (qE)], mg_al K qE (64 * 6) dE] (fun (uu : (Nat → Nat) × (Nat → Nat)) => am_R 64 uu.1 uu.2 ∧ ∀ j, j < 2 ^ (2 * nc) → uu.2 j = jn_be (2 * nc) sr (su_F tb) (nm - 1) (nm - 1 - mk) j) (fun (uu : (Nat → Nat) × (Nat → Nat)) => [mg_ob aS 4 [.ref (h), .ref (hM), .ref (hF), .ref (qsr), .ref (aB), .ref (aE), .ref (aQ), .ref (aT)], mg_ob h 1 [.ref (qf), .ref (qm), .ref (qr), .int (nI (nf)), .int (nI (nc))], mg_ob hM 2 [.ref (qw), .ref (qra), .ref (qo), .ref (qt), .int (nI (nm)), .int (nI (sg))], mg_ob hF 3 [.ref (h), .ref (hM), .ref (qtb), .ref (ql)], mg_ai K qtb 256 tb, mg_ai K qsr 3 sr, mg_ob aE 0 [.ref (qE)], mg_al K qE (64 * 6) uu.1]) := by
  intro sz
  refine mg_entry (Qc := fun A => va_Qv (fun (uu : (Nat → Nat) × (Nat → Nat)) => am_R 64 uu.1 uu.2 ∧ ∀ j, j < 2 ^ (2 * nc) → uu.2 j = jn_be (2 * nc) sr (su_F tb) (nm - 1) (nm - 1 - mk) j) (mg_B D A (fun (uu : (Nat → Nat) × (Nat → Nat)) => [mg_ob aS 4 [.ref (h), .ref (hM), .ref (hF), .ref (qsr), .ref (aB), .ref (aE), .ref (aQ), .ref (aT)], mg_ob h 1 [.ref (qf), .ref (qm), .ref (qr), .int (nI (nf)), .int (nI (nc))], mg_ob hM 2 [.ref (qw), .ref (qra), .ref (qo), .ref (qt), .int (nI (nm)), .int (nI (sg))], mg_ob hF 3 [.ref (h), .ref (hM), .ref (qtb), .ref (ql)], mg_ai K qtb 256 tb, mg_ai K qsr 3 sr, mg_ob aE 0 [.ref (qE)], mg_al K qE (64 * 6) uu.1])) A) (by decide) (Nat.le_of_ble_eq_true rfl) ?_
  intro p e s m args below meth c A ls X hr hlk hnm hA hK hw hl
  have hl : lv_has ls 3 [(0, .ref (aS)), (1, .int (nI (mk)))] := hl
  have hw6 := mg_ways hnc
  refine mg_aload_n X 1 d_Su_comeFromBehind_0 (lv_at hl 0 rfl) rfl ?_
  refine mg_aload_n X 2 d_Su_comeFromBehind_1 (lv_at hl 0 rfl) rfl ?_
  refine mg_get X hK hw 5 0 5 f_Su_36 rfl rfl d_Su_comeFromBehind_2 rfl ?_
  refine mg_callVv X hK hw hA 8 [0, 1, 6, 7] 0 (fun u1 => [mg_ob aS 4 [.ref (h), .ref (hM), .ref (hF), .ref (qsr), .ref (aB), .ref (aE), .ref (aQ), .ref (aT)], mg_ob h 1 [.ref (qf), .ref (qm), .ref (qr), .int (nI (nf)), .int (nI (nc))], mg_ob hM 2 [.ref (qw), .ref (qra), .ref (qo), .ref (qt), .int (nI (nm)), .int (nI (sg))], mg_ob hF 3 [.ref (h), .ref (hM), .ref (qtb), .ref (ql)], mg_ai K qtb 256 tb, mg_ai K qsr 3 sr, mg_ob aE 0 [.ref (qE)], mg_al K qE (64 * 6) u1]) rfl rfl (k_Su_fill l D K aS h hM hF qsr aB aE aQ aT qf qm qr nf nc aE qE dE VE (by omega) (hRE)) g_Su_115 ⟨by decide, by decide⟩ ⟨rfl, rfl⟩ rfl rfl rfl hl.1 (rest := []) (As := [.ref (aE)]) rfl (Nat.le_of_ble_eq_true rfl) d_Su_comeFromBehind_5 ⟨Nat.zero_le _, Nat.zero_le _⟩ (fun _ => rfl) (fun _ => rfl) rfl ?_
  intro u1 H locs hp2 hw
  refine mg_aload_n X 9 d_Su_comeFromBehind_8 (lv_at hl 0 rfl) rfl ?_
  refine mg_get X hK hw 12 0 1 f_Su_15 rfl rfl d_Su_comeFromBehind_9 rfl ?_
  refine mg_get X hK hw 15 2 4 f_Su_52 rfl rfl d_Su_comeFromBehind_12 rfl ?_
  refine mg_iconst X 16 1 d_Su_comeFromBehind_15 mg_ci_1 rfl ?_
  refine mg_isub X 17 (nI (nm - 1)) d_Su_comeFromBehind_16 (pk_sub (by omega)) rfl ?_
  refine mg_istore_n X 18 [(2, .int (nI (nm - 1))), (0, .ref (aS)), (1, .int (nI (mk)))] d_Su_comeFromBehind_17 hl (by decide) rfl rfl (fun ls hl => ?_)
  have L18 : ∀ (n0 : Nat) (k : Nat) (u : Nat → Nat) (V : Nat → Nat), n0 = k → (am_R 64 u V) → (mk ≤ k) → (k ≤ nm - 1) → (∀ j, j < 2 ^ (2 * nc) → V j = jn_be (2 * nc) sr (su_F tb) (nm - 1) (nm - 1 - k) j) → ∀ (ls : Array Slot) (H : Heap) (locs : List Loc), lv_has ls 3 [(0, .ref (aS)), (1, .int (nI (mk))), (2, .int (nI (k)))] → mg_H D A s.heap H locs [mg_ob aS 4 [.ref (h), .ref (hM), .ref (hF), .ref (qsr), .ref (aB), .ref (aE), .ref (aQ), .ref (aT)], mg_ob h 1 [.ref (qf), .ref (qm), .ref (qr), .int (nI (nf)), .int (nI (nc))], mg_ob hM 2 [.ref (qw), .ref (qra), .ref (qo), .ref (qt), .int (nI (nm)), .int (nI (sg))], mg_ob hF 3 [.ref (h), .ref (hM), .ref (qtb), .ref (ql)], mg_ai K qtb 256 tb, mg_ai K qsr 3 sr, mg_ob aE 0 [.ref (qE)], mg_al K qE (64 * 6) u] → W p l e ({ frames := 4, cells := 0, slots := 0, locals := 90 }) s m args below meth c H locs 0 0 (MQ below (va_Qv (fun (uu : (Nat → Nat) × (Nat → Nat)) => am_R 64 uu.1 uu.2 ∧ ∀ j, j < 2 ^ (2 * nc) → uu.2 j = jn_be (2 * nc) sr (su_F tb) (nm - 1) (nm - 1 - mk) j) (mg_B D A (fun (uu : (Nat → Nat) × (Nat → Nat)) => [mg_ob aS 4 [.ref (h), .ref (hM), .ref (hF), .ref (qsr), .ref (aB), .ref (aE), .ref (aQ), .ref (aT)], mg_ob h 1 [.ref (qf), .ref (qm), .ref (qr), .int (nI (nf)), .int (nI (nc))], mg_ob hM 2 [.ref (qw), .ref (qra), .ref (qo), .ref (qt), .int (nI (nm)), .int (nI (sg))], mg_ob hF 3 [.ref (h), .ref (hM), .ref (qtb), .ref (ql)], mg_ai K qtb 256 tb, mg_ai K qsr 3 sr, mg_ob aE 0 [.ref (qE)], mg_al K qE (64 * 6) uu.1])) A) args s (0) (0) A) (F0 m 18 ls []) := by
    intro n0
    induction n0 using Nat.strongRecOn with
    | ind n0 ih18 =>
    intro k u V hm18 hI hk hk2 hJ ls H locs hl hw
    refine mg_iload_n X 19 d_Su_comeFromBehind_18 (lv_at hl 2 rfl) rfl ?_
    refine mg_iload_n X 20 d_Su_comeFromBehind_19 (lv_at hl 1 rfl) rfl ?_
    refine mg_icmp_le X 49 23 (by omega) (by omega) d_Su_comeFromBehind_20 (by decide) rfl (fun hb => ?_) (fun hb => ?_)
    · -- pc 20 t
      exact mg_vret X hr hlk ((u, V)) (⟨hI, by obtain rfl : k = mk := (by omega); exact hJ⟩) hw d_Su_comeFromBehind_49
    · -- pc 20 f
      refine mg_aload_n X 24 d_Su_comeFromBehind_23 (lv_at hl 0 rfl) rfl ?_
      refine mg_aload_n X 25 d_Su_comeFromBehind_24 (lv_at hl 0 rfl) rfl ?_
      refine mg_get X hK hw 28 0 5 f_Su_36 rfl rfl d_Su_comeFromBehind_25 rfl ?_
      refine mg_iload_n X 29 d_Su_comeFromBehind_28 (lv_at hl 2 rfl) rfl ?_
      refine mg_callVv X hK hw hA 32 [0, 1, 3, 4, 6, 7] 0 (fun u3 => [mg_ob aS 4 [.ref (h), .ref (hM), .ref (hF), .ref (qsr), .ref (aB), .ref (aE), .ref (aQ), .ref (aT)], mg_ob h 1 [.ref (qf), .ref (qm), .ref (qr), .int (nI (nf)), .int (nI (nc))], mg_ob hM 2 [.ref (qw), .ref (qra), .ref (qo), .ref (qt), .int (nI (nm)), .int (nI (sg))], mg_ob hF 3 [.ref (h), .ref (hM), .ref (qtb), .ref (ql)], mg_ai K qtb 256 tb, mg_ai K qsr 3 sr, mg_ob aE 0 [.ref (qE)], mg_al K qE (64 * 6) u3]) rfl rfl (k_Su_multiplyByFits l D K aS h hM hF qsr aB aE aQ aT qf qm qr nf nc qtb ql aE qE k u V tb (by omega) (hI) (by omega) (fun j hj => hTb (k) j (by omega) hj) (fun j hj => su_lt (su_mul (by rw [hJ j hj]; exact su_be_le (by omega) hm4 hsr hTb (nm - 1 - k) (by omega) j hj) (hTb (k) j (by omega) hj)) (by omega))) g_Su_59 ⟨by decide, by decide⟩ ⟨rfl, rfl⟩ rfl rfl rfl hl.1 (rest := []) (As := [.ref (aE), .int (nI (k))]) rfl (Nat.le_of_ble_eq_true rfl) d_Su_comeFromBehind_29 ⟨Nat.zero_le _, Nat.zero_le _⟩ (fun _ => rfl) (fun _ => rfl) rfl ?_
      intro u3 H locs hp4 hw
      refine mg_aload_n X 33 d_Su_comeFromBehind_32 (lv_at hl 0 rfl) rfl ?_
      refine mg_aload_n X 34 d_Su_comeFromBehind_33 (lv_at hl 0 rfl) rfl ?_
      refine mg_get X hK hw 37 0 5 f_Su_36 rfl rfl d_Su_comeFromBehind_34 rfl ?_
      refine mg_iload_n X 38 d_Su_comeFromBehind_37 (lv_at hl 2 rfl) rfl ?_
      refine mg_iconst X 39 1 d_Su_comeFromBehind_38 mg_ci_1 rfl ?_
      refine mg_isub X 40 (nI (k - 1)) d_Su_comeFromBehind_39 (pk_sub (by omega)) rfl ?_
      refine mg_callVv X hK hw hA 43 [0, 1, 5, 6, 7] 0 (fun uu => [mg_ob aS 4 [.ref (h), .ref (hM), .ref (hF), .ref (qsr), .ref (aB), .ref (aE), .ref (aQ), .ref (aT)], mg_ob h 1 [.ref (qf), .ref (qm), .ref (qr), .int (nI (nf)), .int (nI (nc))], mg_ob hM 2 [.ref (qw), .ref (qra), .ref (qo), .ref (qt), .int (nI (nm)), .int (nI (sg))], mg_ob hF 3 [.ref (h), .ref (hM), .ref (qtb), .ref (ql)], mg_ai K qtb 256 tb, mg_ai K qsr 3 sr, mg_ob aE 0 [.ref (qE)], mg_al K qE (64 * 6) uu.1]) rfl rfl (k_Su_crossGap l D K aS h hM hF qsr aB aE aQ aT qf qm qr nf nc aE qE (k - 1) (2 ^ (42 * (nm - 1 - k) + 18)) u3 (su_pt (fun j => V j * tb (k * 64 + j)) V (2 ^ (2 * nc))) sr (fun j => jn_be (2 * nc) sr (su_F tb) (nm - 1) (nm - 1 - k) j * su_F tb k j) (by omega) (hp4) (by omega) (hsr (k - 1) (by omega)) (fun j hj => by rw [su_ptl _ _ hj, hJ j hj]; rfl) (fun j hj => su_mul (su_be_le (by omega) hm4 hsr hTb (nm - 1 - k) (by omega) j hj) (hTb k j (by omega) hj)) (su_lt (su_mul (Nat.le_refl _) (su_16 (by omega))) (by omega))) g_Su_119 ⟨by decide, by decide⟩ ⟨rfl, rfl⟩ rfl rfl rfl hl.1 (rest := []) (As := [.ref (aE), .int (nI (k - 1))]) rfl (Nat.le_of_ble_eq_true rfl) d_Su_comeFromBehind_40 ⟨Nat.zero_le _, Nat.zero_le _⟩ (fun _ => rfl) (fun _ => rfl) rfl ?_
      intro u H locs hp6 hw
      obtain ⟨u5, V15⟩ := u
      dsimp only at hp6 hw
      refine mg_iinc X 46 [(2, .int (nI (k - 1))), (0, .ref (aS)), (1, .int (nI (mk)))] (k - 1) d_Su_comeFromBehind_43 hl (k := 2) rfl (mg_dec1 (by omega)) (by decide) rfl rfl (fun ls hl => ?_)
      refine mg_goto X 18 d_Su_comeFromBehind_46 (by decide) ?_
      have hl : lv_has ls 3 [(0, .ref (aS)), (1, .int (nI (mk))), (2, .int (nI (k - 1)))] := lv_sub hl [1, 2, 0] rfl
      exact ih18 _ (by omega) (k - 1) u5 V15 rfl (hp6.1) (by omega) (by omega) (fun j hj => by rw [hp6.2 j hj, show nm - 1 - (k - 1) = (nm - 1 - k) + 1 by omega]; show _ = jn_cr (sr (nm - 1 - (nm - 1 - k + 1))) _ _ _; rw [show nm - 1 - (nm - 1 - k + 1) = k - 1 by omega, show nm - 1 - (nm - 1 - k) = k by omega]) ls _ _ hl hw
  have hl : lv_has ls 3 [(0, .ref (aS)), (1, .int (nI (mk))), (2, .int (nI (nm - 1)))] := lv_sub hl [1, 2, 0] rfl
  exact L18 _ (nm - 1) u1 (su_pt (fun _ => 1) VE (2 ^ (2 * nc))) rfl (hp2) (by omega) (by omega) (fun j hj => by rw [su_ptl _ _ hj, Nat.sub_self]; rfl) ls _ _ hl hw

set_option maxRecDepth 100000 in
set_option maxHeartbeats 4000000 in
theorem k_Su_sumTo (l : Launch) (D : va_G) (K : Nat → ClassId) (aS : Nat) (h : Nat) (hM : Nat) (hF : Nat) (qsr : Nat) (aB : Nat) (aE : Nat) (aQ : Nat) (aT : Nat) (qf : Nat) (qm : Nat) (qr : Nat) (nf : Nat) (nc : Nat) (qtb : Nat) (ql : Nat) (qw : Nat) (qra : Nat) (qo : Nat) (qt : Nat) (nm : Nat) (sg : Nat) (qB : Nat) (qT : Nat) (t : Nat) (tb : Nat → Nat) (sr : Nat → Nat) (dB : Nat → Nat) (VB : Nat → Nat) (dT : Nat → Nat) (VT : Nat → Nat) (hnc : nc ≤ 3) (hm4 : nm ≤ 4) (hsr : ∀ i, i + 1 < nm → sr i ≤ 16) (hTb : ∀ i w, i < nm → w < 2 ^ (2 * nc) → su_F tb i w ≤ 2 ^ 18) (hRB : am_R 64 dB VB) (hRT : am_R 4 dT VT) (ht : t < 4) (h0 : 0 < nm) : mg_Mv l D K y_Su_sumTo b_Su_sumTo 3 ({ frames := 5, cells := 0, slots := 0, locals := 120 }) [.ref (aS), .int (nI (t))] [mg_ob aS 4 [.ref (h), .ref (hM), .ref (hF), .ref (qsr), .ref (aB), .ref (aE), .ref (aQ), .ref (aT)], mg_ob h 1 [.ref (qf), .ref (qm), .ref (qr), .int (nI (nf)), .int (nI (nc))], mg_ob hM 2 [.ref (qw), .ref (qra), .ref (qo), .ref (qt), .int (nI (nm)), .int (nI (sg))], mg_ob hF 3 [.ref (h), .ref (hM), .ref (qtb), .ref (ql)], mg_ai K qtb 256 tb, mg_ai K qsr 3 sr, mg_ob aB 0 [.ref (qB)], mg_al K qB (64 * 6) dB, mg_ob aT 0 [.ref (qT)], mg_al K qT (4 * 6) dT] (fun (uu : (Nat → Nat) × (Nat → Nat) × (Nat → Nat)) => am_R 64 uu.1 uu.2.1 ∧ am_R 4 uu.2.2 (va_up VT t (jn_J (2 * nc) sr (su_F tb) (nm - 1)))) (fun (uu : (Nat → Nat) × (Nat → Nat) × (Nat → Nat)) => [mg_ob aS 4 [.ref (h), .ref (hM), .ref (hF), .ref (qsr), .ref (aB), .ref (aE), .ref (aQ), .ref (aT)], mg_ob h 1 [.ref (qf), .ref (qm), .ref (qr), .int (nI (nf)), .int (nI (nc))], mg_ob hM 2 [.ref (qw), .ref (qra), .ref (qo), .ref (qt), .int (nI (nm)), .int (nI (sg))], mg_ob hF 3 [.ref (h), .ref (hM), .ref (qtb), .ref (ql)], mg_ai K qtb 256 tb, mg_ai K qsr 3 sr, mg_ob aB 0 [.ref (qB)], mg_al K qB (64 * 6) uu.1, mg_ob aT 0 [.ref (qT)], mg_al K qT (4 * 6) uu.2.2]) := by
  intro sz
  refine mg_entry (Qc := fun A => va_Qv (fun (uu : (Nat → Nat) × (Nat → Nat) × (Nat → Nat)) => am_R 64 uu.1 uu.2.1 ∧ am_R 4 uu.2.2 (va_up VT t (jn_J (2 * nc) sr (su_F tb) (nm - 1)))) (mg_B D A (fun (uu : (Nat → Nat) × (Nat → Nat) × (Nat → Nat)) => [mg_ob aS 4 [.ref (h), .ref (hM), .ref (hF), .ref (qsr), .ref (aB), .ref (aE), .ref (aQ), .ref (aT)], mg_ob h 1 [.ref (qf), .ref (qm), .ref (qr), .int (nI (nf)), .int (nI (nc))], mg_ob hM 2 [.ref (qw), .ref (qra), .ref (qo), .ref (qt), .int (nI (nm)), .int (nI (sg))], mg_ob hF 3 [.ref (h), .ref (hM), .ref (qtb), .ref (ql)], mg_ai K qtb 256 tb, mg_ai K qsr 3 sr, mg_ob aB 0 [.ref (qB)], mg_al K qB (64 * 6) uu.1, mg_ob aT 0 [.ref (qT)], mg_al K qT (4 * 6) uu.2.2])) A) (by decide) (Nat.le_of_ble_eq_true rfl) ?_
  intro p e s m args below meth c A ls X hr hlk hnm hA hK hw hl
  have hl : lv_has ls 3 [(0, .ref (aS)), (1, .int (nI (t)))] := hl
  have hw6 := mg_ways hnc
  refine mg_aload_n X 1 d_Su_sumTo_0 (lv_at hl 0 rfl) rfl ?_
  refine mg_get X hK hw 4 0 1 f_Su_15 rfl rfl d_Su_sumTo_1 rfl ?_
  refine mg_get X hK hw 7 2 4 f_Su_52 rfl rfl d_Su_sumTo_4 rfl ?_
  refine mg_iconst X 8 1 d_Su_sumTo_7 mg_ci_1 rfl ?_
  refine mg_isub X 9 (nI (nm - 1)) d_Su_sumTo_8 (pk_sub (by omega)) rfl ?_
  refine mg_istore_n X 10 [(2, .int (nI (nm - 1))), (0, .ref (aS)), (1, .int (nI (t)))] d_Su_sumTo_9 hl (by decide) rfl rfl (fun ls hl => ?_)
  refine mg_aload_n X 11 d_Su_sumTo_10 (lv_at hl 1 rfl) rfl ?_
  refine mg_iload_n X 12 d_Su_sumTo_11 (lv_at hl 0 rfl) rfl ?_
  refine mg_callVv X hK hw hA 15 [0, 1, 3, 4, 5, 6, 7] 0 (fun uu => [mg_ob aS 4 [.ref (h), .ref (hM), .ref (hF), .ref (qsr), .ref (aB), .ref (aE), .ref (aQ), .ref (aT)], mg_ob h 1 [.ref (qf), .ref (qm), .ref (qr), .int (nI (nf)), .int (nI (nc))], mg_ob hM 2 [.ref (qw), .ref (qra), .ref (qo), .ref (qt), .int (nI (nm)), .int (nI (sg))], mg_ob hF 3 [.ref (h), .ref (hM), .ref (qtb), .ref (ql)], mg_ai K qtb 256 tb, mg_ai K qsr 3 sr, mg_ob aB 0 [.ref (qB)], mg_al K qB (64 * 6) uu.1, mg_ob aT 0 [.ref (qT)], mg_al K qT (4 * 6) dT]) rfl rfl (k_Su_comeFromBefore l D K aS h hM hF qsr aB aE aQ aT qf qm qr nf nc qtb ql qB nm (nm - 1) tb sr dB VB (by omega) (by omega) (by omega) (by omega) (hRB) (by omega)) g_Su_56 ⟨by decide, by decide⟩ ⟨rfl, rfl⟩ rfl rfl rfl hl.1 (rest := []) (As := [.int (nI (nm - 1))]) rfl (Nat.le_of_ble_eq_true rfl) d_Su_sumTo_12 ⟨Nat.zero_le _, Nat.zero_le _⟩ (fun _ => rfl) (fun _ => rfl) rfl ?_
  intro u H locs hJ0 hw
  obtain ⟨u1, V11⟩ := u
  dsimp only at hJ0 hw
  have hI := hJ0.1
  have hJ := hJ0.2
  refine mg_aload_n X 16 d_Su_sumTo_15 (lv_at hl 1 rfl) rfl ?_
  refine mg_aload_n X 17 d_Su_sumTo_16 (lv_at hl 1 rfl) rfl ?_
  refine mg_get X hK hw 20 0 4 f_Su_32 rfl rfl d_Su_sumTo_17 rfl ?_
  refine mg_iload_n X 21 d_Su_sumTo_20 (lv_at hl 0 rfl) rfl ?_
  refine mg_callVv X hK hw hA 24 [0, 1, 3, 4, 6, 7] 0 (fun u2 => [mg_ob aS 4 [.ref (h), .ref (hM), .ref (hF), .ref (qsr), .ref (aB), .ref (aE), .ref (aQ), .ref (aT)], mg_ob h 1 [.ref (qf), .ref (qm), .ref (qr), .int (nI (nf)), .int (nI (nc))], mg_ob hM 2 [.ref (qw), .ref (qra), .ref (qo), .ref (qt), .int (nI (nm)), .int (nI (sg))], mg_ob hF 3 [.ref (h), .ref (hM), .ref (qtb), .ref (ql)], mg_ai K qtb 256 tb, mg_ai K qsr 3 sr, mg_ob aB 0 [.ref (qB)], mg_al K qB (64 * 6) u2, mg_ob aT 0 [.ref (qT)], mg_al K qT (4 * 6) dT]) rfl rfl (k_Su_multiplyByFits l D K aS h hM hF qsr aB aE aQ aT qf qm qr nf nc qtb ql aB qB (nm - 1) u1 V11 tb (by omega) (hJ0.1) (by omega) (fun j hj => hTb (nm - 1) j (by omega) hj) (fun j hj => su_lt (su_mul (by rw [hJ j hj]; exact su_al_le (by omega) hm4 hsr hTb (nm - 1) (by omega) j hj) (hTb (nm - 1) j (by omega) hj)) (by omega))) g_Su_59 ⟨by decide, by decide⟩ ⟨rfl, rfl⟩ rfl rfl rfl hl.1 (rest := []) (As := [.ref (aB), .int (nI (nm - 1))]) rfl (Nat.le_of_ble_eq_true rfl) d_Su_sumTo_21 ⟨Nat.zero_le _, Nat.zero_le _⟩ (fun _ => rfl) (fun _ => rfl) rfl ?_
  intro u2 H locs hp3 hw
  have hz : zs_sum (2 ^ (2 * nc)) (su_pt (fun j => V11 j * tb ((nm - 1) * 64 + j)) V11 (2 ^ (2 * nc))) = jn_J (2 * nc) sr (su_F tb) (nm - 1) := zs_congr (fun j hj => by rw [su_ptl _ _ hj, hJ j hj]; rfl)
  refine mg_aload_n X 25 d_Su_sumTo_24 (lv_at hl 1 rfl) rfl ?_
  refine mg_iload_n X 26 d_Su_sumTo_25 (lv_at hl 2 rfl) rfl ?_
  refine mg_aload_n X 27 d_Su_sumTo_26 (lv_at hl 1 rfl) rfl ?_
  refine mg_get X hK hw 30 0 4 f_Su_32 rfl rfl d_Su_sumTo_27 rfl ?_
  refine mg_callVv X hK hw hA 33 [0, 1, 8, 9, 6, 7] 0 (fun u4 => [mg_ob aS 4 [.ref (h), .ref (hM), .ref (hF), .ref (qsr), .ref (aB), .ref (aE), .ref (aQ), .ref (aT)], mg_ob h 1 [.ref (qf), .ref (qm), .ref (qr), .int (nI (nf)), .int (nI (nc))], mg_ob hM 2 [.ref (qw), .ref (qra), .ref (qo), .ref (qt), .int (nI (nm)), .int (nI (sg))], mg_ob hF 3 [.ref (h), .ref (hM), .ref (qtb), .ref (ql)], mg_ai K qtb 256 tb, mg_ai K qsr 3 sr, mg_ob aB 0 [.ref (qB)], mg_al K qB (64 * 6) u2, mg_ob aT 0 [.ref (qT)], mg_al K qT (4 * 6) u4]) rfl rfl (k_Su_addUp l D K aS h hM hF qsr aB aE aQ aT qf qm qr nf nc qT aB qB t dT VT u2 (su_pt (fun j => V11 j * tb ((nm - 1) * 64 + j)) V11 (2 ^ (2 * nc))) (by omega) (hRT) (hp3) (by omega) (by rw [hz]; exact su_lt (su_J_le (by omega) hm4 h0 hsr hTb) (by omega))) g_Su_63 ⟨by decide, by decide⟩ ⟨rfl, rfl⟩ rfl rfl rfl hl.1 (rest := []) (As := [.int (nI (t)), .ref (aB)]) rfl (Nat.le_of_ble_eq_true rfl) d_Su_sumTo_30 ⟨Nat.zero_le _, Nat.zero_le _⟩ (fun _ => rfl) (fun _ => rfl) rfl ?_
  intro u4 H locs hp5 hw
  exact mg_vret X hr hlk ((u2, su_pt (fun j => V11 j * tb ((nm - 1) * 64 + j)) V11 (2 ^ (2 * nc)), u4)) (⟨hp3, by have h9 := hp5; rw [hz] at h9; exact h9⟩) hw d_Su_sumTo_33

set_option maxRecDepth 100000 in
set_option maxHeartbeats 4000000 in
theorem k_Su_split (l : Launch) (D : va_G) (K : Nat → ClassId) (aS : Nat) (h : Nat) (hM : Nat) (hF : Nat) (qsr : Nat) (aB : Nat) (aE : Nat) (aQ : Nat) (aT : Nat) (qf : Nat) (qm : Nat) (qr : Nat) (nf : Nat) (nc : Nat) (qtb : Nat) (ql : Nat) (qw : Nat) (qra : Nat) (qo : Nat) (qt : Nat) (nm : Nat) (sg : Nat) (qB : Nat) (qE : Nat) (qQ : Nat) (qT : Nat) (mk : Nat) (tb : Nat → Nat) (sr : Nat → Nat) (dB : Nat → Nat) (VB : Nat → Nat) (dE : Nat → Nat) (VE : Nat → Nat) (dQ : Nat → Nat) (VQ : Nat → Nat) (dT : Nat → Nat) (VT : Nat → Nat) (hnc : nc ≤ 3) (hm4 : nm ≤ 4) (hsr : ∀ i, i + 1 < nm → sr i ≤ 16) (hTb : ∀ i w, i < nm → w < 2 ^ (2 * nc) → su_F tb i w ≤ 2 ^ 18) (hRB : am_R 64 dB VB) (hRE : am_R 64 dE VE) (hRQ : am_R 64 dQ VQ) (hRT : am_R 4 dT VT) (hm : mk < nm) : mg_Mv l D K y_Su_split b_Su_split 3 ({ frames := 5, cells := 0, slots := 0, locals := 120 }) [.ref (aS), .int (nI (mk))] [mg_ob aS 4 [.ref (h), .ref (hM), .ref (hF), .ref (qsr), .ref (aB), .ref (aE), .ref (aQ), .ref (aT)], mg_ob h 1 [.ref (qf), .ref (qm), .ref (qr), .int (nI (nf)), .int (nI (nc))], mg_ob hM 2 [.ref (qw), .ref (qra), .ref (qo), .ref (qt), .int (nI (nm)), .int (nI (sg))], mg_ob hF 3 [.ref (h), .ref (hM), .ref (qtb), .ref (ql)], mg_ai K qtb 256 tb, mg_ai K qsr 3 sr, mg_ob aB 0 [.ref (qB)], mg_al K qB (64 * 6) dB, mg_ob aE 0 [.ref (qE)], mg_al K qE (64 * 6) dE, mg_ob aQ 0 [.ref (qQ)], mg_al K qQ (64 * 6) dQ, mg_ob aT 0 [.ref (qT)], mg_al K qT (4 * 6) dT] (fun (uu : (Nat → Nat) × (Nat → Nat) × (Nat → Nat) × (Nat → Nat) × (Nat → Nat) × (Nat → Nat) × (Nat → Nat)) => am_R 64 uu.1 uu.2.1 ∧ am_R 64 uu.2.2.1 uu.2.2.2.1 ∧ am_R 64 uu.2.2.2.2.1 uu.2.2.2.2.2.1 ∧ (∀ j, j < 2 ^ (2 * nc) → uu.2.2.2.2.2.1 j = jn_pt (2 * nc) sr (su_F tb) (nm - 1) mk j) ∧ am_R 4 uu.2.2.2.2.2.2 (va_up VT 0 (jn_J (2 * nc) sr (su_F tb) (nm - 1)))) (fun (uu : (Nat → Nat) × (Nat → Nat) × (Nat → Nat) × (Nat → Nat) × (Nat → Nat) × (Nat → Nat) × (Nat → Nat)) => [mg_ob aS 4 [.ref (h), .ref (hM), .ref (hF), .ref (qsr), .ref (aB), .ref (aE), .ref (aQ), .ref (aT)], mg_ob h 1 [.ref (qf), .ref (qm), .ref (qr), .int (nI (nf)), .int (nI (nc))], mg_ob hM 2 [.ref (qw), .ref (qra), .ref (qo), .ref (qt), .int (nI (nm)), .int (nI (sg))], mg_ob hF 3 [.ref (h), .ref (hM), .ref (qtb), .ref (ql)], mg_ai K qtb 256 tb, mg_ai K qsr 3 sr, mg_ob aB 0 [.ref (qB)], mg_al K qB (64 * 6) uu.1, mg_ob aE 0 [.ref (qE)], mg_al K qE (64 * 6) uu.2.2.1, mg_ob aQ 0 [.ref (qQ)], mg_al K qQ (64 * 6) uu.2.2.2.2.1, mg_ob aT 0 [.ref (qT)], mg_al K qT (4 * 6) uu.2.2.2.2.2.2]) := by
  intro sz
  refine mg_entry (Qc := fun A => va_Qv (fun (uu : (Nat → Nat) × (Nat → Nat) × (Nat → Nat) × (Nat → Nat) × (Nat → Nat) × (Nat → Nat) × (Nat → Nat)) => am_R 64 uu.1 uu.2.1 ∧ am_R 64 uu.2.2.1 uu.2.2.2.1 ∧ am_R 64 uu.2.2.2.2.1 uu.2.2.2.2.2.1 ∧ (∀ j, j < 2 ^ (2 * nc) → uu.2.2.2.2.2.1 j = jn_pt (2 * nc) sr (su_F tb) (nm - 1) mk j) ∧ am_R 4 uu.2.2.2.2.2.2 (va_up VT 0 (jn_J (2 * nc) sr (su_F tb) (nm - 1)))) (mg_B D A (fun (uu : (Nat → Nat) × (Nat → Nat) × (Nat → Nat) × (Nat → Nat) × (Nat → Nat) × (Nat → Nat) × (Nat → Nat)) => [mg_ob aS 4 [.ref (h), .ref (hM), .ref (hF), .ref (qsr), .ref (aB), .ref (aE), .ref (aQ), .ref (aT)], mg_ob h 1 [.ref (qf), .ref (qm), .ref (qr), .int (nI (nf)), .int (nI (nc))], mg_ob hM 2 [.ref (qw), .ref (qra), .ref (qo), .ref (qt), .int (nI (nm)), .int (nI (sg))], mg_ob hF 3 [.ref (h), .ref (hM), .ref (qtb), .ref (ql)], mg_ai K qtb 256 tb, mg_ai K qsr 3 sr, mg_ob aB 0 [.ref (qB)], mg_al K qB (64 * 6) uu.1, mg_ob aE 0 [.ref (qE)], mg_al K qE (64 * 6) uu.2.2.1, mg_ob aQ 0 [.ref (qQ)], mg_al K qQ (64 * 6) uu.2.2.2.2.1, mg_ob aT 0 [.ref (qT)], mg_al K qT (4 * 6) uu.2.2.2.2.2.2])) A) (by decide) (Nat.le_of_ble_eq_true rfl) ?_
  intro p e s m args below meth c A ls X hr hlk hnm hA hK hw hl
  have hl : lv_has ls 3 [(0, .ref (aS)), (1, .int (nI (mk)))] := hl
  have hw6 := mg_ways hnc
  refine mg_aload_n X 1 d_Su_split_0 (lv_at hl 0 rfl) rfl ?_
  refine mg_iload_n X 2 d_Su_split_1 (lv_at hl 1 rfl) rfl ?_
  refine mg_callVv X hK hw hA 5 [0, 1, 3, 4, 5, 6, 7] 0 (fun uu => [mg_ob aS 4 [.ref (h), .ref (hM), .ref (hF), .ref (qsr), .ref (aB), .ref (aE), .ref (aQ), .ref (aT)], mg_ob h 1 [.ref (qf), .ref (qm), .ref (qr), .int (nI (nf)), .int (nI (nc))], mg_ob hM 2 [.ref (qw), .ref (qra), .ref (qo), .ref (qt), .int (nI (nm)), .int (nI (sg))], mg_ob hF 3 [.ref (h), .ref (hM), .ref (qtb), .ref (ql)], mg_ai K qtb 256 tb, mg_ai K qsr 3 sr, mg_ob aB 0 [.ref (qB)], mg_al K qB (64 * 6) uu.1, mg_ob aE 0 [.ref (qE)], mg_al K qE (64 * 6) dE, mg_ob aQ 0 [.ref (qQ)], mg_al K qQ (64 * 6) dQ, mg_ob aT 0 [.ref (qT)], mg_al K qT (4 * 6) dT]) rfl rfl (k_Su_comeFromBefore l D K aS h hM hF qsr aB aE aQ aT qf qm qr nf nc qtb ql qB nm mk tb sr dB VB (by omega) (by omega) (by omega) (by omega) (hRB) (by omega)) g_Su_56 ⟨by decide, by decide⟩ ⟨rfl, rfl⟩ rfl rfl rfl hl.1 (rest := []) (As := [.int (nI (mk))]) rfl (Nat.le_of_ble_eq_true rfl) d_Su_split_2 ⟨Nat.zero_le _, Nat.zero_le _⟩ (fun _ => rfl) (fun _ => rfl) rfl ?_
  intro u H locs hA0 hw
  obtain ⟨ub, Vb⟩ := u
  dsimp only at hA0 hw
  have hA1 := hA0.2
  refine mg_aload_n X 6 d_Su_split_5 (lv_at hl 0 rfl) rfl ?_
  refine mg_iload_n X 7 d_Su_split_6 (lv_at hl 1 rfl) rfl ?_
  refine mg_callVv X hK hw hA 10 [0, 1, 2, 3, 4, 5, 8, 9] 0 (fun uu => [mg_ob aS 4 [.ref (h), .ref (hM), .ref (hF), .ref (qsr), .ref (aB), .ref (aE), .ref (aQ), .ref (aT)], mg_ob h 1 [.ref (qf), .ref (qm), .ref (qr), .int (nI (nf)), .int (nI (nc))], mg_ob hM 2 [.ref (qw), .ref (qra), .ref (qo), .ref (qt), .int (nI (nm)), .int (nI (sg))], mg_ob hF 3 [.ref (h), .ref (hM), .ref (qtb), .ref (ql)], mg_ai K qtb 256 tb, mg_ai K qsr 3 sr, mg_ob aB 0 [.ref (qB)], mg_al K qB (64 * 6) ub, mg_ob aE 0 [.ref (qE)], mg_al K qE (64 * 6) uu.1, mg_ob aQ 0 [.ref (qQ)], mg_al K qQ (64 * 6) dQ, mg_ob aT 0 [.ref (qT)], mg_al K qT (4 * 6) dT]) rfl rfl (k_Su_comeFromBehind l D K aS h hM hF qsr aB aE aQ aT qf qm qr nf nc qtb ql qw qra qo qt nm sg qE mk tb sr dE VE (by omega) (by omega) (by omega) (by omega) (hRE) (by omega)) g_Su_67 ⟨by decide, by decide⟩ ⟨rfl, rfl⟩ rfl rfl rfl hl.1 (rest := []) (As := [.int (nI (mk))]) rfl (Nat.le_of_ble_eq_true rfl) d_Su_split_7 ⟨Nat.zero_le _, Nat.zero_le _⟩ (fun _ => rfl) (fun _ => rfl) rfl ?_
  intro u H locs hE0 hw
  obtain ⟨ue, Ve⟩ := u
  dsimp only at hE0 hw
  have hE1 := hE0.2
  have hbe : ∀ j, j < 2 ^ (2 * nc) → Vb j * Ve j ≤ 2 ^ 126 := fun j hj => by rw [hA1 j hj, hE1 j hj]; exact Nat.le_trans (su_mul (su_al_le (by omega) hm4 hsr hTb mk hm j hj) (su_be_le (by omega) hm4 hsr hTb (nm - 1 - mk) (by omega) j hj)) (Nat.pow_le_pow_right (by decide) (by omega))
  refine mg_iconst X 11 0 d_Su_split_10 mg_ci_0 rfl ?_
  refine mg_istore_n X 12 [(2, .int (nI (0))), (0, .ref (aS)), (1, .int (nI (mk)))] d_Su_split_11 hl (by decide) rfl rfl (fun ls hl => ?_)
  have L12 : ∀ (n0 : Nat) (k : Nat) (u : Nat → Nat), n0 = 2 ^ (2 * nc) - k → (am_R 64 u (su_pt (fun j => Vb j * Ve j) VQ k)) → (k ≤ 2 ^ (2 * nc)) → ∀ (ls : Array Slot) (H : Heap) (locs : List Loc), lv_has ls 3 [(0, .ref (aS)), (1, .int (nI (mk))), (2, .int (nI (k)))] → mg_H D A s.heap H locs [mg_ob aS 4 [.ref (h), .ref (hM), .ref (hF), .ref (qsr), .ref (aB), .ref (aE), .ref (aQ), .ref (aT)], mg_ob h 1 [.ref (qf), .ref (qm), .ref (qr), .int (nI (nf)), .int (nI (nc))], mg_ob hM 2 [.ref (qw), .ref (qra), .ref (qo), .ref (qt), .int (nI (nm)), .int (nI (sg))], mg_ob hF 3 [.ref (h), .ref (hM), .ref (qtb), .ref (ql)], mg_ai K qtb 256 tb, mg_ai K qsr 3 sr, mg_ob aB 0 [.ref (qB)], mg_al K qB (64 * 6) ub, mg_ob aE 0 [.ref (qE)], mg_al K qE (64 * 6) ue, mg_ob aQ 0 [.ref (qQ)], mg_al K qQ (64 * 6) u, mg_ob aT 0 [.ref (qT)], mg_al K qT (4 * 6) dT] → W p l e ({ frames := 5, cells := 0, slots := 0, locals := 120 }) s m args below meth c H locs 0 0 (MQ below (va_Qv (fun (uu : (Nat → Nat) × (Nat → Nat) × (Nat → Nat) × (Nat → Nat) × (Nat → Nat) × (Nat → Nat) × (Nat → Nat)) => am_R 64 uu.1 uu.2.1 ∧ am_R 64 uu.2.2.1 uu.2.2.2.1 ∧ am_R 64 uu.2.2.2.2.1 uu.2.2.2.2.2.1 ∧ (∀ j, j < 2 ^ (2 * nc) → uu.2.2.2.2.2.1 j = jn_pt (2 * nc) sr (su_F tb) (nm - 1) mk j) ∧ am_R 4 uu.2.2.2.2.2.2 (va_up VT 0 (jn_J (2 * nc) sr (su_F tb) (nm - 1)))) (mg_B D A (fun (uu : (Nat → Nat) × (Nat → Nat) × (Nat → Nat) × (Nat → Nat) × (Nat → Nat) × (Nat → Nat) × (Nat → Nat)) => [mg_ob aS 4 [.ref (h), .ref (hM), .ref (hF), .ref (qsr), .ref (aB), .ref (aE), .ref (aQ), .ref (aT)], mg_ob h 1 [.ref (qf), .ref (qm), .ref (qr), .int (nI (nf)), .int (nI (nc))], mg_ob hM 2 [.ref (qw), .ref (qra), .ref (qo), .ref (qt), .int (nI (nm)), .int (nI (sg))], mg_ob hF 3 [.ref (h), .ref (hM), .ref (qtb), .ref (ql)], mg_ai K qtb 256 tb, mg_ai K qsr 3 sr, mg_ob aB 0 [.ref (qB)], mg_al K qB (64 * 6) uu.1, mg_ob aE 0 [.ref (qE)], mg_al K qE (64 * 6) uu.2.2.1, mg_ob aQ 0 [.ref (qQ)], mg_al K qQ (64 * 6) uu.2.2.2.2.1, mg_ob aT 0 [.ref (qT)], mg_al K qT (4 * 6) uu.2.2.2.2.2.2])) A) args s (0) (0) A) (F0 m 12 ls []) := by
    intro n0
    induction n0 using Nat.strongRecOn with
    | ind n0 ih12 =>
    intro k u hm12 hI hk ls H locs hl hw
    refine mg_iload_n X 13 d_Su_split_12 (lv_at hl 2 rfl) rfl ?_
    refine mg_aload_n X 14 d_Su_split_13 (lv_at hl 0 rfl) rfl ?_
    refine mg_get X hK hw 17 0 0 f_Su_9 rfl rfl d_Su_split_14 rfl ?_
    refine mg_callVi X hK hw hA 20 [1] 1 (fun _ => [mg_ob aS 4 [.ref (h), .ref (hM), .ref (hF), .ref (qsr), .ref (aB), .ref (aE), .ref (aQ), .ref (aT)], mg_ob h 1 [.ref (qf), .ref (qm), .ref (qr), .int (nI (nf)), .int (nI (nc))], mg_ob hM 2 [.ref (qw), .ref (qra), .ref (qo), .ref (qt), .int (nI (nm)), .int (nI (sg))], mg_ob hF 3 [.ref (h), .ref (hM), .ref (qtb), .ref (ql)], mg_ai K qtb 256 tb, mg_ai K qsr 3 sr, mg_ob aB 0 [.ref (qB)], mg_al K qB (64 * 6) ub, mg_ob aE 0 [.ref (qE)], mg_al K qE (64 * 6) ue, mg_ob aQ 0 [.ref (qQ)], mg_al K qQ (64 * 6) u, mg_ob aT 0 [.ref (qT)], mg_al K qT (4 * 6) dT]) rfl rfl (k_Fa_ways l D K h qf qm qr nf nc (by omega)) g_Su_70 ⟨by decide, by decide⟩ ⟨rfl, rfl⟩ rfl rfl rfl hl.1 (rest := [.int (nI (k))]) (As := []) rfl (Nat.le_of_ble_eq_true rfl) d_Su_split_17 ⟨Nat.zero_le _, Nat.zero_le _⟩ (fun _ => rfl) (fun _ => rfl) rfl ?_
    intro r _ H locs hp4 hw
    subst hp4
    refine mg_icmp_ge X 45 23 (by omega) (by omega) d_Su_split_20 (by decide) rfl (fun hb => ?_) (fun hb => ?_)
    · -- pc 20 t
      refine mg_aload_n X 46 d_Su_split_45 (lv_at hl 0 rfl) rfl ?_
      refine mg_aload_n X 47 d_Su_split_46 (lv_at hl 0 rfl) rfl ?_
      refine mg_get X hK hw 50 0 6 f_Su_39 rfl rfl d_Su_split_47 rfl ?_
      refine mg_iload_n X 51 d_Su_split_50 (lv_at hl 1 rfl) rfl ?_
      refine mg_callVv X hK hw hA 54 [0, 1, 3, 4, 10, 11] 0 (fun u5 => [mg_ob aS 4 [.ref (h), .ref (hM), .ref (hF), .ref (qsr), .ref (aB), .ref (aE), .ref (aQ), .ref (aT)], mg_ob h 1 [.ref (qf), .ref (qm), .ref (qr), .int (nI (nf)), .int (nI (nc))], mg_ob hM 2 [.ref (qw), .ref (qra), .ref (qo), .ref (qt), .int (nI (nm)), .int (nI (sg))], mg_ob hF 3 [.ref (h), .ref (hM), .ref (qtb), .ref (ql)], mg_ai K qtb 256 tb, mg_ai K qsr 3 sr, mg_ob aB 0 [.ref (qB)], mg_al K qB (64 * 6) ub, mg_ob aE 0 [.ref (qE)], mg_al K qE (64 * 6) ue, mg_ob aQ 0 [.ref (qQ)], mg_al K qQ (64 * 6) u5, mg_ob aT 0 [.ref (qT)], mg_al K qT (4 * 6) dT]) rfl rfl (k_Su_multiplyByFits l D K aS h hM hF qsr aB aE aQ aT qf qm qr nf nc qtb ql aQ qQ mk u (su_pt (fun j => Vb j * Ve j) VQ k) tb (by omega) (hI) (by omega) (fun j hj => hTb mk j hm hj) (fun j hj => by rw [su_ptl _ _ (by omega)]; exact su_lt (su_mul (hbe j hj) (hTb mk j hm hj)) (by omega))) g_Su_59 ⟨by decide, by decide⟩ ⟨rfl, rfl⟩ rfl rfl rfl hl.1 (rest := []) (As := [.ref (aQ), .int (nI (mk))]) rfl (Nat.le_of_ble_eq_true rfl) d_Su_split_51 ⟨Nat.zero_le _, Nat.zero_le _⟩ (fun _ => rfl) (fun _ => rfl) rfl ?_
      intro u5 H locs hp6 hw
      have hq : ∀ j, j < 2 ^ (2 * nc) → (su_pt (fun j => (su_pt (fun j => Vb j * Ve j) VQ k) j * tb (mk * 64 + j)) (su_pt (fun j => Vb j * Ve j) VQ k) (2 ^ (2 * nc))) j = jn_pt (2 * nc) sr (su_F tb) (nm - 1) mk j := fun j hj => by rw [su_ptl _ _ hj, su_ptl _ _ (by omega), hA1 j hj, hE1 j hj]; rfl
      have hz : zs_sum (2 ^ (2 * nc)) (su_pt (fun j => (su_pt (fun j => Vb j * Ve j) VQ k) j * tb (mk * 64 + j)) (su_pt (fun j => Vb j * Ve j) VQ k) (2 ^ (2 * nc))) = jn_J (2 * nc) sr (su_F tb) (nm - 1) := (zs_congr hq).trans (jn_pt_all (by omega))
      refine mg_aload_n X 55 d_Su_split_54 (lv_at hl 0 rfl) rfl ?_
      refine mg_iconst X 56 0 d_Su_split_55 mg_ci_0 rfl ?_
      refine mg_aload_n X 57 d_Su_split_56 (lv_at hl 0 rfl) rfl ?_
      refine mg_get X hK hw 60 0 6 f_Su_39 rfl rfl d_Su_split_57 rfl ?_
      refine mg_callVv X hK hw hA 63 [0, 1, 12, 13, 10, 11] 0 (fun u7 => [mg_ob aS 4 [.ref (h), .ref (hM), .ref (hF), .ref (qsr), .ref (aB), .ref (aE), .ref (aQ), .ref (aT)], mg_ob h 1 [.ref (qf), .ref (qm), .ref (qr), .int (nI (nf)), .int (nI (nc))], mg_ob hM 2 [.ref (qw), .ref (qra), .ref (qo), .ref (qt), .int (nI (nm)), .int (nI (sg))], mg_ob hF 3 [.ref (h), .ref (hM), .ref (qtb), .ref (ql)], mg_ai K qtb 256 tb, mg_ai K qsr 3 sr, mg_ob aB 0 [.ref (qB)], mg_al K qB (64 * 6) ub, mg_ob aE 0 [.ref (qE)], mg_al K qE (64 * 6) ue, mg_ob aQ 0 [.ref (qQ)], mg_al K qQ (64 * 6) u5, mg_ob aT 0 [.ref (qT)], mg_al K qT (4 * 6) u7]) rfl rfl (k_Su_addUp l D K aS h hM hF qsr aB aE aQ aT qf qm qr nf nc qT aQ qQ 0 dT VT u5 (su_pt (fun j => (su_pt (fun j => Vb j * Ve j) VQ k) j * tb (mk * 64 + j)) (su_pt (fun j => Vb j * Ve j) VQ k) (2 ^ (2 * nc))) (by omega) (hRT) (hp6) (by omega) (by rw [hz]; exact su_lt (su_J_le (by omega) hm4 (by omega) hsr hTb) (by omega))) g_Su_63 ⟨by decide, by decide⟩ ⟨rfl, rfl⟩ rfl rfl rfl hl.1 (rest := []) (As := [.int (nI (0)), .ref (aQ)]) rfl (Nat.le_of_ble_eq_true rfl) d_Su_split_60 ⟨Nat.zero_le _, Nat.zero_le _⟩ (fun _ => rfl) (fun _ => rfl) rfl ?_
      intro u7 H locs hp8 hw
      exact mg_vret X hr hlk ((ub, Vb, ue, Ve, u5, su_pt (fun j => (su_pt (fun j => Vb j * Ve j) VQ k) j * tb (mk * 64 + j)) (su_pt (fun j => Vb j * Ve j) VQ k) (2 ^ (2 * nc)), u7)) (⟨hA0.1, hE0.1, hp6, hq, by have h9 := hp8; rw [hz] at h9; exact h9⟩) hw d_Su_split_63
    · -- pc 20 f
      refine mg_aload_n X 24 d_Su_split_23 (lv_at hl 0 rfl) rfl ?_
      refine mg_get X hK hw 27 0 6 f_Su_39 rfl rfl d_Su_split_24 rfl ?_
      refine mg_iload_n X 28 d_Su_split_27 (lv_at hl 2 rfl) rfl ?_
      refine mg_aload_n X 29 d_Su_split_28 (lv_at hl 0 rfl) rfl ?_
      refine mg_get X hK hw 32 0 4 f_Su_32 rfl rfl d_Su_split_29 rfl ?_
      refine mg_aload_n X 33 d_Su_split_32 (lv_at hl 0 rfl) rfl ?_
      refine mg_get X hK hw 36 0 5 f_Su_36 rfl rfl d_Su_split_33 rfl ?_
      refine mg_callVv X hK hw hA 39 [10, 11, 6, 7, 8, 9] 10 (fun u9 => [mg_ob aS 4 [.ref (h), .ref (hM), .ref (hF), .ref (qsr), .ref (aB), .ref (aE), .ref (aQ), .ref (aT)], mg_ob h 1 [.ref (qf), .ref (qm), .ref (qr), .int (nI (nf)), .int (nI (nc))], mg_ob hM 2 [.ref (qw), .ref (qra), .ref (qo), .ref (qt), .int (nI (nm)), .int (nI (sg))], mg_ob hF 3 [.ref (h), .ref (hM), .ref (qtb), .ref (ql)], mg_ai K qtb 256 tb, mg_ai K qsr 3 sr, mg_ob aB 0 [.ref (qB)], mg_al K qB (64 * 6) ub, mg_ob aE 0 [.ref (qE)], mg_al K qE (64 * 6) ue, mg_ob aQ 0 [.ref (qQ)], mg_al K qQ (64 * 6) u9, mg_ob aT 0 [.ref (qT)], mg_al K qT (4 * 6) dT]) rfl rfl (k_Am_setProduct l D K aQ qQ 64 aB qB aE qE k u (su_pt (fun j => Vb j * Ve j) VQ k) ub Vb ue Ve (by omega) (hI) (hA0.1) (hE0.1) (by omega) (su_lt (hbe k hb) (by omega))) g_Su_75 ⟨by decide, by decide⟩ ⟨rfl, rfl⟩ rfl rfl rfl hl.1 (rest := []) (As := [.int (nI (k)), .ref (aB), .ref (aE)]) rfl (Nat.le_of_ble_eq_true rfl) d_Su_split_36 ⟨Nat.zero_le _, Nat.zero_le _⟩ (fun _ => rfl) (fun _ => rfl) rfl ?_
      intro u9 H locs hp10 hw
      refine mg_iinc X 42 [(2, .int (nI (k + 1))), (0, .ref (aS)), (1, .int (nI (mk)))] (k + 1) d_Su_split_39 hl (k := 2) rfl (mg_inc1 _) (by decide) rfl rfl (fun ls hl => ?_)
      refine mg_goto X 12 d_Su_split_42 (by decide) ?_
      have hl : lv_has ls 3 [(0, .ref (aS)), (1, .int (nI (mk))), (2, .int (nI (k + 1)))] := lv_sub hl [1, 2, 0] rfl
      exact ih12 _ (by omega) (k + 1) u9 rfl (by rw [← su_ptS]; exact hp10) (by omega) ls _ _ hl hw
  have hl : lv_has ls 3 [(0, .ref (aS)), (1, .int (nI (mk))), (2, .int (nI (0)))] := lv_sub hl [1, 2, 0] rfl
  exact L12 _ 0 dQ rfl (by rw [su_pt0]; exact hRQ) (Nat.zero_le _) ls _ _ hl hw
