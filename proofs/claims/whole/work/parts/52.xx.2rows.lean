set_option maxRecDepth 100000 in
set_option maxHeartbeats 4000000 in
theorem k_LM_founderX (l : Launch) (D : va_G) (K : Nat → ClassId) (aL : Nat) (h : Nat) (hM : Nat) (hF : Nat) (aS : Nat) (qp : Nat) (pl : Nat) (qf : Nat) (qm : Nat) (qr : Nat) (nf : Nat) (nc : Nat) (qw : Nat) (qra : Nat) (qo : Nat) (qt : Nat) (nm : Nat) (sg : Nat) (hl0 : l.stackTraces = false) (hnf : nf ≤ 3) (hnc : nc ≤ 3) (hn : nm ≤ 4) (hsg : sg ≤ 24) (hx : nf = 3 ∨ 0 < sg) : mg_Mxi l D K y_LM_founder b_LM_founder 2 (.int) ({ frames := 22, cells := 1, slots := 6, locals := 523 }) [.ref (aL)] [mg_ob aL 5 [.ref (h), .ref (hM), .ref (hF), .ref (aS), .ref (qp), .int (nI (pl))], mg_ob h 1 [.ref (qf), .ref (qm), .ref (qr), .int (nI (nf)), .int (nI (nc))], mg_ob hM 2 [.ref (qw), .ref (qra), .ref (qo), .ref (qt), .int (nI (nm)), .int (nI (sg))]] xIS := by
  intro sz
  refine mg_entryX (Qc := fun A => mg_Ni A) (XC := fun A => mg_X D xIS [mg_ob aL 5 [.ref (h), .ref (hM), .ref (hF), .ref (aS), .ref (qp), .int (nI (pl))], mg_ob h 1 [.ref (qf), .ref (qm), .ref (qr), .int (nI (nf)), .int (nI (nc))], mg_ob hM 2 [.ref (qw), .ref (qra), .ref (qo), .ref (qt), .int (nI (nm)), .int (nI (sg))]] A) (by decide) (Nat.le_of_ble_eq_true rfl) ?_
  intro p e s m args below meth c A ls X hte hlk hA hK hw hSt hl
  have hl : lv_has ls 2 [(0, .ref (aL))] := hl
  have hw6 := mg_ways hnc
  refine mg_aload_n X 1 d_LM_founder_0 (lv_at hl 0 rfl) rfl ?_
  refine mg_get X hK hw 4 0 0 f_LM_12 rfl rfl d_LM_founder_1 rfl ?_
  refine mg_get X hK hw 7 1 3 f_LM_51 rfl rfl d_LM_founder_4 rfl ?_
  refine mg_iconst X 8 3 d_LM_founder_7 mg_ci_3 rfl ?_
  refine mg_icmp_eq X 21 11 (by omega) (by omega) d_LM_founder_8 (by decide) rfl (fun h3 => ?_) (fun h3 => ?_)
  · -- pc 8 t
    exact mg_throw X hte hlk hw hSt hl0 ex_IS hl.1 d_LM_founder_21 d_LM_founder_24 d_LM_founder_25 d_LM_founder_28 (Nat.zero_le _) (by decide)
  · -- pc 8 f
    refine mg_aload_n X 12 d_LM_founder_11 (lv_at hl 0 rfl) rfl ?_
    refine mg_get X hK hw 15 0 1 f_LM_19 rfl rfl d_LM_founder_12 rfl ?_
    refine mg_get X hK hw 18 2 5 f_LM_54 rfl rfl d_LM_founder_15 rfl ?_
    refine mg_if_le X 29 21 (by omega) d_LM_founder_18 (by decide) rfl (fun h4 => ?_) (fun h4 => ?_)
    · -- pc 18 t
      exact absurd hx (fun q => by rcases q with h9 | h9; exact h3 h9; omega)
    · -- pc 18 f
      exact mg_throw X hte hlk hw hSt hl0 ex_IS hl.1 d_LM_founder_21 d_LM_founder_24 d_LM_founder_25 d_LM_founder_28 (Nat.zero_le _) (by decide)

set_option maxRecDepth 100000 in
set_option maxHeartbeats 4000000 in
theorem k_LM_childX1 (l : Launch) (D : va_G) (K : Nat → ClassId) (aL : Nat) (h : Nat) (hM : Nat) (hF : Nat) (aS : Nat) (qp : Nat) (pl : Nat) (qf : Nat) (qm : Nat) (qr : Nat) (nf : Nat) (nc : Nat) (qw : Nat) (qra : Nat) (qo : Nat) (qt : Nat) (nm : Nat) (sg : Nat) (f1 : Int32) (m1 : Int32) (hl0 : l.stackTraces = false) (hnf : nf ≤ 3) (hnc : nc ≤ 3) (hn : nm ≤ 4) (hsg : sg ≤ 24) (hx : ¬ (mg_lt f1 (nf + nc) ∧ mg_lt m1 (nf + nc))) : mg_Mxi l D K y_LM_child b_LM_child 4 (.int) ({ frames := 22, cells := 1, slots := 6, locals := 523 }) [.ref (aL), .int (f1), .int (m1)] [mg_ob aL 5 [.ref (h), .ref (hM), .ref (hF), .ref (aS), .ref (qp), .int (nI (pl))], mg_ob h 1 [.ref (qf), .ref (qm), .ref (qr), .int (nI (nf)), .int (nI (nc))], mg_ob hM 2 [.ref (qw), .ref (qra), .ref (qo), .ref (qt), .int (nI (nm)), .int (nI (sg))]] xIO := by
  intro sz
  refine mg_entryX (Qc := fun A => mg_Ni A) (XC := fun A => mg_X D xIO [mg_ob aL 5 [.ref (h), .ref (hM), .ref (hF), .ref (aS), .ref (qp), .int (nI (pl))], mg_ob h 1 [.ref (qf), .ref (qm), .ref (qr), .int (nI (nf)), .int (nI (nc))], mg_ob hM 2 [.ref (qw), .ref (qra), .ref (qo), .ref (qt), .int (nI (nm)), .int (nI (sg))]] A) (by decide) (Nat.le_of_ble_eq_true rfl) ?_
  intro p e s m args below meth c A ls X hte hlk hA hK hw hSt hl
  have hl : lv_has ls 4 [(0, .ref (aL)), (1, .int (f1)), (2, .int (m1))] := hl
  have hw6 := mg_ways hnc
  refine mg_aload_n X 1 d_LM_child_0 (lv_at hl 0 rfl) rfl ?_
  refine mg_get X hK hw 4 0 0 f_LM_12 rfl rfl d_LM_child_1 rfl ?_
  refine mg_iload_n X 5 d_LM_child_4 (lv_at hl 1 rfl) rfl ?_
  refine mg_callVi X hK hw hA 8 [1] 1 (fun _ => [mg_ob aL 5 [.ref (h), .ref (hM), .ref (hF), .ref (aS), .ref (qp), .int (nI (pl))], mg_ob h 1 [.ref (qf), .ref (qm), .ref (qr), .int (nI (nf)), .int (nI (nc))], mg_ob hM 2 [.ref (qw), .ref (qra), .ref (qo), .ref (qt), .int (nI (nm)), .int (nI (sg))]]) rfl rfl (k_Fa_hasPerson l D K h qf qm qr nf nc f1 (by first | exact hnf | omega) (by first | exact hnc | omega)) g_LM_67 ⟨by decide, by decide⟩ ⟨rfl, rfl⟩ rfl rfl rfl hl.1 (rest := []) (As := [.int (f1)]) rfl (Nat.le_of_ble_eq_true rfl) d_LM_child_5 ⟨Nat.zero_le _, Nat.zero_le _⟩ (fun _ => rfl) (fun _ => rfl) rfl ?_
  intro r _ H locs hp2 hw
  subst hp2
  refine mg_bif_eq X 22 11 d_LM_child_8 (by decide) rfl (fun b3 => ?_) (fun b3 => ?_)
  · -- pc 8 t
    exact mg_throw X hte hlk hw hSt hl0 ex_IO hl.1 d_LM_child_22 d_LM_child_25 d_LM_child_26 d_LM_child_29 (Nat.zero_le _) (by decide)
  · -- pc 8 f
    obtain ⟨jf1, hf1, rfl⟩ := b3
    refine mg_aload_n X 12 d_LM_child_11 (lv_at hl 0 rfl) rfl ?_
    refine mg_get X hK hw 15 0 0 f_LM_12 rfl rfl d_LM_child_12 rfl ?_
    refine mg_iload_n X 16 d_LM_child_15 (lv_at hl 2 rfl) rfl ?_
    refine mg_callVi X hK hw hA 19 [1] 1 (fun _ => [mg_ob aL 5 [.ref (h), .ref (hM), .ref (hF), .ref (aS), .ref (qp), .int (nI (pl))], mg_ob h 1 [.ref (qf), .ref (qm), .ref (qr), .int (nI (nf)), .int (nI (nc))], mg_ob hM 2 [.ref (qw), .ref (qra), .ref (qo), .ref (qt), .int (nI (nm)), .int (nI (sg))]]) rfl rfl (k_Fa_hasPerson l D K h qf qm qr nf nc m1 (by first | exact hnf | omega) (by first | exact hnc | omega)) g_LM_67 ⟨by decide, by decide⟩ ⟨rfl, rfl⟩ rfl rfl rfl hl.1 (rest := []) (As := [.int (m1)]) rfl (Nat.le_of_ble_eq_true rfl) d_LM_child_16 ⟨Nat.zero_le _, Nat.zero_le _⟩ (fun _ => rfl) (fun _ => rfl) rfl ?_
    intro r _ H locs hp5 hw
    subst hp5
    refine mg_bif_ne X 30 22 d_LM_child_19 (by decide) rfl (fun b6 => ?_) (fun b6 => ?_)
    · -- pc 19 t
      obtain ⟨jm1, hm1, rfl⟩ := b6
      exact absurd ⟨⟨jf1, hf1, rfl⟩, ⟨jm1, hm1, rfl⟩⟩ hx
    · -- pc 19 f
      exact mg_throw X hte hlk hw hSt hl0 ex_IO hl.1 d_LM_child_22 d_LM_child_25 d_LM_child_26 d_LM_child_29 (Nat.zero_le _) (by decide)

set_option maxRecDepth 100000 in
set_option maxHeartbeats 4000000 in
theorem k_LM_childX2 (l : Launch) (D : va_G) (K : Nat → ClassId) (aL : Nat) (h : Nat) (hM : Nat) (hF : Nat) (aS : Nat) (qp : Nat) (pl : Nat) (qf : Nat) (qm : Nat) (qr : Nat) (nf : Nat) (nc : Nat) (qw : Nat) (qra : Nat) (qo : Nat) (qt : Nat) (nm : Nat) (sg : Nat) (f1 : Nat) (m1 : Nat) (hl0 : l.stackTraces = false) (hnf : nf ≤ 3) (hnc : nc ≤ 3) (hn : nm ≤ 4) (hsg : sg ≤ 24) (hf1 : f1 < (nf + nc)) (hm1 : m1 < (nf + nc)) (hx : nc = 3 ∨ 0 < sg) : mg_Mxi l D K y_LM_child b_LM_child 4 (.int) ({ frames := 22, cells := 1, slots := 6, locals := 523 }) [.ref (aL), .int (nI (f1)), .int (nI (m1))] [mg_ob aL 5 [.ref (h), .ref (hM), .ref (hF), .ref (aS), .ref (qp), .int (nI (pl))], mg_ob h 1 [.ref (qf), .ref (qm), .ref (qr), .int (nI (nf)), .int (nI (nc))], mg_ob hM 2 [.ref (qw), .ref (qra), .ref (qo), .ref (qt), .int (nI (nm)), .int (nI (sg))]] xIS := by
  intro sz
  refine mg_entryX (Qc := fun A => mg_Ni A) (XC := fun A => mg_X D xIS [mg_ob aL 5 [.ref (h), .ref (hM), .ref (hF), .ref (aS), .ref (qp), .int (nI (pl))], mg_ob h 1 [.ref (qf), .ref (qm), .ref (qr), .int (nI (nf)), .int (nI (nc))], mg_ob hM 2 [.ref (qw), .ref (qra), .ref (qo), .ref (qt), .int (nI (nm)), .int (nI (sg))]] A) (by decide) (Nat.le_of_ble_eq_true rfl) ?_
  intro p e s m args below meth c A ls X hte hlk hA hK hw hSt hl
  have hl : lv_has ls 4 [(0, .ref (aL)), (1, .int (nI (f1))), (2, .int (nI (m1)))] := hl
  have hw6 := mg_ways hnc
  refine mg_aload_n X 1 d_LM_child_0 (lv_at hl 0 rfl) rfl ?_
  refine mg_get X hK hw 4 0 0 f_LM_12 rfl rfl d_LM_child_1 rfl ?_
  refine mg_iload_n X 5 d_LM_child_4 (lv_at hl 1 rfl) rfl ?_
  refine mg_callVi X hK hw hA 8 [1] 1 (fun _ => [mg_ob aL 5 [.ref (h), .ref (hM), .ref (hF), .ref (aS), .ref (qp), .int (nI (pl))], mg_ob h 1 [.ref (qf), .ref (qm), .ref (qr), .int (nI (nf)), .int (nI (nc))], mg_ob hM 2 [.ref (qw), .ref (qra), .ref (qo), .ref (qt), .int (nI (nm)), .int (nI (sg))]]) rfl rfl (k_Fa_hasPerson l D K h qf qm qr nf nc (nI f1) (by first | exact hnf | omega) (by first | exact hnc | omega)) g_LM_67 ⟨by decide, by decide⟩ ⟨rfl, rfl⟩ rfl rfl rfl hl.1 (rest := []) (As := [.int (nI (f1))]) rfl (Nat.le_of_ble_eq_true rfl) d_LM_child_5 ⟨Nat.zero_le _, Nat.zero_le _⟩ (fun _ => rfl) (fun _ => rfl) rfl ?_
  intro r _ H locs hp2 hw
  subst hp2
  refine mg_bif_eq X 22 11 d_LM_child_8 (by decide) rfl (fun b3 => absurd (mg_lt_in hf1) b3) (fun _ => ?_)
  refine mg_aload_n X 12 d_LM_child_11 (lv_at hl 0 rfl) rfl ?_
  refine mg_get X hK hw 15 0 0 f_LM_12 rfl rfl d_LM_child_12 rfl ?_
  refine mg_iload_n X 16 d_LM_child_15 (lv_at hl 2 rfl) rfl ?_
  refine mg_callVi X hK hw hA 19 [1] 1 (fun _ => [mg_ob aL 5 [.ref (h), .ref (hM), .ref (hF), .ref (aS), .ref (qp), .int (nI (pl))], mg_ob h 1 [.ref (qf), .ref (qm), .ref (qr), .int (nI (nf)), .int (nI (nc))], mg_ob hM 2 [.ref (qw), .ref (qra), .ref (qo), .ref (qt), .int (nI (nm)), .int (nI (sg))]]) rfl rfl (k_Fa_hasPerson l D K h qf qm qr nf nc (nI m1) (by first | exact hnf | omega) (by first | exact hnc | omega)) g_LM_67 ⟨by decide, by decide⟩ ⟨rfl, rfl⟩ rfl rfl rfl hl.1 (rest := []) (As := [.int (nI (m1))]) rfl (Nat.le_of_ble_eq_true rfl) d_LM_child_16 ⟨Nat.zero_le _, Nat.zero_le _⟩ (fun _ => rfl) (fun _ => rfl) rfl ?_
  intro r _ H locs hp5 hw
  subst hp5
  refine mg_bif_ne X 30 22 d_LM_child_19 (by decide) rfl (fun _ => ?_) (fun b6 => absurd (mg_lt_in hm1) b6)
  refine mg_aload_n X 31 d_LM_child_30 (lv_at hl 0 rfl) rfl ?_
  refine mg_get X hK hw 34 0 0 f_LM_12 rfl rfl d_LM_child_31 rfl ?_
  refine mg_get X hK hw 37 1 4 f_LM_74 rfl rfl d_LM_child_34 rfl ?_
  refine mg_iconst X 38 3 d_LM_child_37 mg_ci_3 rfl ?_
  refine mg_icmp_eq X 51 41 (by omega) (by omega) d_LM_child_38 (by decide) rfl (fun h3 => ?_) (fun h3 => ?_)
  · -- pc 38 t
    exact mg_throw X hte hlk hw hSt hl0 ex_IS hl.1 d_LM_child_51 d_LM_child_54 d_LM_child_55 d_LM_child_58 (Nat.zero_le _) (by decide)
  · -- pc 38 f
    refine mg_aload_n X 42 d_LM_child_41 (lv_at hl 0 rfl) rfl ?_
    refine mg_get X hK hw 45 0 1 f_LM_19 rfl rfl d_LM_child_42 rfl ?_
    refine mg_get X hK hw 48 2 5 f_LM_54 rfl rfl d_LM_child_45 rfl ?_
    refine mg_if_le X 59 51 (by omega) d_LM_child_48 (by decide) rfl (fun h4 => ?_) (fun h4 => ?_)
    · -- pc 48 t
      exact absurd hx (fun q => by rcases q with h9 | h9; exact h3 h9; omega)
    · -- pc 48 f
      exact mg_throw X hte hlk hw hSt hl0 ex_IS hl.1 d_LM_child_51 d_LM_child_54 d_LM_child_55 d_LM_child_58 (Nat.zero_le _) (by decide)

set_option maxRecDepth 100000 in
set_option maxHeartbeats 4000000 in
theorem k_LM_markerX1 (l : Launch) (D : va_G) (K : Nat → ClassId) (aL : Nat) (h : Nat) (hM : Nat) (hF : Nat) (aS : Nat) (qp : Nat) (pl : Nat) (qf : Nat) (qm : Nat) (qr : Nat) (nf : Nat) (nc : Nat) (qw : Nat) (qra : Nat) (qo : Nat) (qt : Nat) (nm : Nat) (sg : Nat) (a1 : Int32) (a2 : Int32) (a3 : Int32) (hl0 : l.stackTraces = false) (hnf : nf ≤ 3) (hnc : nc ≤ 3) (hn : nm ≤ 4) (hsg : sg ≤ 24) (hx : ¬ mg_w3 a1 a2 a3) : mg_Mxi l D K y_LM_marker b_LM_marker 5 (.int) ({ frames := 21, cells := 1, slots := 6, locals := 502 }) [.ref (aL), .int (a1), .int (a2), .int (a3)] [mg_ob aL 5 [.ref (h), .ref (hM), .ref (hF), .ref (aS), .ref (qp), .int (nI (pl))], mg_ob h 1 [.ref (qf), .ref (qm), .ref (qr), .int (nI (nf)), .int (nI (nc))], mg_ob hM 2 [.ref (qw), .ref (qra), .ref (qo), .ref (qt), .int (nI (nm)), .int (nI (sg))]] xIA := by
  intro sz
  refine mg_entryX (Qc := fun A => mg_Ni A) (XC := fun A => mg_X D xIA [mg_ob aL 5 [.ref (h), .ref (hM), .ref (hF), .ref (aS), .ref (qp), .int (nI (pl))], mg_ob h 1 [.ref (qf), .ref (qm), .ref (qr), .int (nI (nf)), .int (nI (nc))], mg_ob hM 2 [.ref (qw), .ref (qra), .ref (qo), .ref (qt), .int (nI (nm)), .int (nI (sg))]] A) (by decide) (Nat.le_of_ble_eq_true rfl) ?_
  intro p e s m args below meth c A ls X hte hlk hA hK hw hSt hl
  have hl : lv_has ls 5 [(0, .ref (aL)), (1, .int (a1)), (2, .int (a2)), (3, .int (a3))] := hl
  have hw6 := mg_ways hnc
  refine mg_iload_n X 1 d_LM_marker_0 (lv_at hl 1 rfl) rfl ?_
  refine mg_iload_n X 2 d_LM_marker_1 (lv_at hl 2 rfl) rfl ?_
  refine mg_iload_n X 3 d_LM_marker_2 (lv_at hl 3 rfl) rfl ?_
  refine mg_callSi X hK hw hA 6 [] (fun _ => [mg_ob aL 5 [.ref (h), .ref (hM), .ref (hF), .ref (aS), .ref (qp), .int (nI (pl))], mg_ob h 1 [.ref (qf), .ref (qm), .ref (qr), .int (nI (nf)), .int (nI (nc))], mg_ob hM 2 [.ref (qw), .ref (qra), .ref (qo), .ref (qt), .int (nI (nm)), .int (nI (sg))]]) (k_LM_areWeights l D K a1 a2 a3 ) g_LM_81 ⟨by decide, by decide⟩ ⟨rfl, rfl⟩ rfl rfl rfl hl.1 (rest := []) (As := [.int (a1), .int (a2), .int (a3)]) rfl (Nat.le_of_ble_eq_true rfl) d_LM_marker_3 ⟨Nat.zero_le _, Nat.zero_le _⟩ (fun _ => rfl) (fun _ => rfl) rfl ?_
  intro r _ H locs hp2 hw
  subst hp2
  refine mg_bif_ne X 17 9 d_LM_marker_6 (by decide) rfl (fun b3 => absurd b3 (hx)) (fun _ => ?_)
  exact mg_throw X hte hlk hw hSt hl0 ex_IA hl.1 d_LM_marker_9 d_LM_marker_12 d_LM_marker_13 d_LM_marker_16 (Nat.zero_le _) (by decide)

set_option maxRecDepth 100000 in
set_option maxHeartbeats 4000000 in
theorem k_LM_markerX2 (l : Launch) (D : va_G) (K : Nat → ClassId) (aL : Nat) (h : Nat) (hM : Nat) (hF : Nat) (aS : Nat) (qp : Nat) (pl : Nat) (qf : Nat) (qm : Nat) (qr : Nat) (nf : Nat) (nc : Nat) (qw : Nat) (qra : Nat) (qo : Nat) (qt : Nat) (nm : Nat) (sg : Nat) (a1 : Nat) (a2 : Nat) (a3 : Nat) (hl0 : l.stackTraces = false) (hnf : nf ≤ 3) (hnc : nc ≤ 3) (hn : nm ≤ 4) (hsg : sg ≤ 24) (h8 : a1 + a2 + a3 = 8) (hx : nm = 4) : mg_Mxi l D K y_LM_marker b_LM_marker 5 (.int) ({ frames := 21, cells := 1, slots := 6, locals := 502 }) [.ref (aL), .int (nI (a1)), .int (nI (a2)), .int (nI (a3))] [mg_ob aL 5 [.ref (h), .ref (hM), .ref (hF), .ref (aS), .ref (qp), .int (nI (pl))], mg_ob h 1 [.ref (qf), .ref (qm), .ref (qr), .int (nI (nf)), .int (nI (nc))], mg_ob hM 2 [.ref (qw), .ref (qra), .ref (qo), .ref (qt), .int (nI (nm)), .int (nI (sg))]] xIS := by
  intro sz
  refine mg_entryX (Qc := fun A => mg_Ni A) (XC := fun A => mg_X D xIS [mg_ob aL 5 [.ref (h), .ref (hM), .ref (hF), .ref (aS), .ref (qp), .int (nI (pl))], mg_ob h 1 [.ref (qf), .ref (qm), .ref (qr), .int (nI (nf)), .int (nI (nc))], mg_ob hM 2 [.ref (qw), .ref (qra), .ref (qo), .ref (qt), .int (nI (nm)), .int (nI (sg))]] A) (by decide) (Nat.le_of_ble_eq_true rfl) ?_
  intro p e s m args below meth c A ls X hte hlk hA hK hw hSt hl
  have hl : lv_has ls 5 [(0, .ref (aL)), (1, .int (nI (a1))), (2, .int (nI (a2))), (3, .int (nI (a3)))] := hl
  have hw6 := mg_ways hnc
  refine mg_iload_n X 1 d_LM_marker_0 (lv_at hl 1 rfl) rfl ?_
  refine mg_iload_n X 2 d_LM_marker_1 (lv_at hl 2 rfl) rfl ?_
  refine mg_iload_n X 3 d_LM_marker_2 (lv_at hl 3 rfl) rfl ?_
  refine mg_callSi X hK hw hA 6 [] (fun _ => [mg_ob aL 5 [.ref (h), .ref (hM), .ref (hF), .ref (aS), .ref (qp), .int (nI (pl))], mg_ob h 1 [.ref (qf), .ref (qm), .ref (qr), .int (nI (nf)), .int (nI (nc))], mg_ob hM 2 [.ref (qw), .ref (qra), .ref (qo), .ref (qt), .int (nI (nm)), .int (nI (sg))]]) (k_LM_areWeights l D K (nI a1) (nI a2) (nI a3) ) g_LM_81 ⟨by decide, by decide⟩ ⟨rfl, rfl⟩ rfl rfl rfl hl.1 (rest := []) (As := [.int (nI (a1)), .int (nI (a2)), .int (nI (a3))]) rfl (Nat.le_of_ble_eq_true rfl) d_LM_marker_3 ⟨Nat.zero_le _, Nat.zero_le _⟩ (fun _ => rfl) (fun _ => rfl) rfl ?_
  intro r _ H locs hp2 hw
  subst hp2
  refine mg_bif_ne X 17 9 d_LM_marker_6 (by decide) rfl (fun _ => ?_) (fun b3 => absurd (⟨a1, a2, a3, rfl, rfl, rfl, h8⟩) b3)
  refine mg_aload_n X 18 d_LM_marker_17 (lv_at hl 0 rfl) rfl ?_
  refine mg_get X hK hw 21 0 1 f_LM_19 rfl rfl d_LM_marker_18 rfl ?_
  refine mg_get X hK hw 24 2 4 f_LM_88 rfl rfl d_LM_marker_21 rfl ?_
  refine mg_iconst X 25 4 d_LM_marker_24 mg_ci_4 rfl ?_
  refine mg_icmp_ne X 36 28 (by omega) (by omega) d_LM_marker_25 (by decide) rfl (fun b4 => absurd b4 (by omega)) (fun b4 => ?_)
  exact mg_throw X hte hlk hw hSt hl0 ex_IS hl.1 d_LM_marker_28 d_LM_marker_31 d_LM_marker_32 d_LM_marker_35 (Nat.zero_le _) (by decide)

set_option maxRecDepth 100000 in
set_option maxHeartbeats 4000000 in
theorem k_LM_rateX1 (l : Launch) (D : va_G) (K : Nat → ClassId) (aL : Nat) (h : Nat) (hM : Nat) (hF : Nat) (aS : Nat) (qp : Nat) (pl : Nat) (qf : Nat) (qm : Nat) (qr : Nat) (nf : Nat) (nc : Nat) (qw : Nat) (qra : Nat) (qo : Nat) (qt : Nat) (nm : Nat) (sg : Nat) (g1 : Int32) (k1 : Int32) (hl0 : l.stackTraces = false) (hnf : nf ≤ 3) (hnc : nc ≤ 3) (hn : nm ≤ 4) (hsg : sg ≤ 24) (hx : ¬ mg_lt g1 (nm - 1)) : mg_Mxi l D K y_LM_rate b_LM_rate 4 (.int) ({ frames := 6, cells := 1, slots := 6, locals := 100 }) [.ref (aL), .int (g1), .int (k1)] [mg_ob aL 5 [.ref (h), .ref (hM), .ref (hF), .ref (aS), .ref (qp), .int (nI (pl))], mg_ob h 1 [.ref (qf), .ref (qm), .ref (qr), .int (nI (nf)), .int (nI (nc))], mg_ob hM 2 [.ref (qw), .ref (qra), .ref (qo), .ref (qt), .int (nI (nm)), .int (nI (sg))]] xIO := by
  intro sz
  refine mg_entryX (Qc := fun A => mg_Ni A) (XC := fun A => mg_X D xIO [mg_ob aL 5 [.ref (h), .ref (hM), .ref (hF), .ref (aS), .ref (qp), .int (nI (pl))], mg_ob h 1 [.ref (qf), .ref (qm), .ref (qr), .int (nI (nf)), .int (nI (nc))], mg_ob hM 2 [.ref (qw), .ref (qra), .ref (qo), .ref (qt), .int (nI (nm)), .int (nI (sg))]] A) (by decide) (Nat.le_of_ble_eq_true rfl) ?_
  intro p e s m args below meth c A ls X hte hlk hA hK hw hSt hl
  have hl : lv_has ls 4 [(0, .ref (aL)), (1, .int (g1)), (2, .int (k1))] := hl
  have hw6 := mg_ways hnc
  refine mg_aload_n X 1 d_LM_rate_0 (lv_at hl 0 rfl) rfl ?_
  refine mg_get X hK hw 4 0 1 f_LM_19 rfl rfl d_LM_rate_1 rfl ?_
  refine mg_iload_n X 5 d_LM_rate_4 (lv_at hl 1 rfl) rfl ?_
  refine mg_callVi X hK hw hA 8 [2] 2 (fun _ => [mg_ob aL 5 [.ref (h), .ref (hM), .ref (hF), .ref (aS), .ref (qp), .int (nI (pl))], mg_ob h 1 [.ref (qf), .ref (qm), .ref (qr), .int (nI (nf)), .int (nI (nc))], mg_ob hM 2 [.ref (qw), .ref (qra), .ref (qo), .ref (qt), .int (nI (nm)), .int (nI (sg))]]) rfl rfl (k_Ma_hasGap l D K hM qw qra qo qt nm sg g1 (by first | exact hn | omega)) g_LM_99 ⟨by decide, by decide⟩ ⟨rfl, rfl⟩ rfl rfl rfl hl.1 (rest := []) (As := [.int (g1)]) rfl (Nat.le_of_ble_eq_true rfl) d_LM_rate_5 ⟨Nat.zero_le _, Nat.zero_le _⟩ (fun _ => rfl) (fun _ => rfl) rfl ?_
  intro r _ H locs hp2 hw
  subst hp2
  refine mg_bif_ne X 19 11 d_LM_rate_8 (by decide) rfl (fun b3 => absurd b3 (hx)) (fun _ => ?_)
  exact mg_throw X hte hlk hw hSt hl0 ex_IO hl.1 d_LM_rate_11 d_LM_rate_14 d_LM_rate_15 d_LM_rate_18 (Nat.zero_le _) (by decide)

set_option maxRecDepth 100000 in
set_option maxHeartbeats 4000000 in
theorem k_LM_rateX2 (l : Launch) (D : va_G) (K : Nat → ClassId) (aL : Nat) (h : Nat) (hM : Nat) (hF : Nat) (aS : Nat) (qp : Nat) (pl : Nat) (qf : Nat) (qm : Nat) (qr : Nat) (nf : Nat) (nc : Nat) (qw : Nat) (qra : Nat) (qo : Nat) (qt : Nat) (nm : Nat) (sg : Nat) (g1 : Nat) (k1 : Int32) (hl0 : l.stackTraces = false) (hnf : nf ≤ 3) (hnc : nc ≤ 3) (hn : nm ≤ 4) (hsg : sg ≤ 24) (hg : g1 + 1 < nm) (hx : ¬ mg_lt k1 9) : mg_Mxi l D K y_LM_rate b_LM_rate 4 (.int) ({ frames := 6, cells := 1, slots := 6, locals := 100 }) [.ref (aL), .int (nI (g1)), .int (k1)] [mg_ob aL 5 [.ref (h), .ref (hM), .ref (hF), .ref (aS), .ref (qp), .int (nI (pl))], mg_ob h 1 [.ref (qf), .ref (qm), .ref (qr), .int (nI (nf)), .int (nI (nc))], mg_ob hM 2 [.ref (qw), .ref (qra), .ref (qo), .ref (qt), .int (nI (nm)), .int (nI (sg))]] xIA := by
  intro sz
  refine mg_entryX (Qc := fun A => mg_Ni A) (XC := fun A => mg_X D xIA [mg_ob aL 5 [.ref (h), .ref (hM), .ref (hF), .ref (aS), .ref (qp), .int (nI (pl))], mg_ob h 1 [.ref (qf), .ref (qm), .ref (qr), .int (nI (nf)), .int (nI (nc))], mg_ob hM 2 [.ref (qw), .ref (qra), .ref (qo), .ref (qt), .int (nI (nm)), .int (nI (sg))]] A) (by decide) (Nat.le_of_ble_eq_true rfl) ?_
  intro p e s m args below meth c A ls X hte hlk hA hK hw hSt hl
  have hl : lv_has ls 4 [(0, .ref (aL)), (1, .int (nI (g1))), (2, .int (k1))] := hl
  have hw6 := mg_ways hnc
  refine mg_aload_n X 1 d_LM_rate_0 (lv_at hl 0 rfl) rfl ?_
  refine mg_get X hK hw 4 0 1 f_LM_19 rfl rfl d_LM_rate_1 rfl ?_
  refine mg_iload_n X 5 d_LM_rate_4 (lv_at hl 1 rfl) rfl ?_
  refine mg_callVi X hK hw hA 8 [2] 2 (fun _ => [mg_ob aL 5 [.ref (h), .ref (hM), .ref (hF), .ref (aS), .ref (qp), .int (nI (pl))], mg_ob h 1 [.ref (qf), .ref (qm), .ref (qr), .int (nI (nf)), .int (nI (nc))], mg_ob hM 2 [.ref (qw), .ref (qra), .ref (qo), .ref (qt), .int (nI (nm)), .int (nI (sg))]]) rfl rfl (k_Ma_hasGap l D K hM qw qra qo qt nm sg (nI g1) (by first | exact hn | omega)) g_LM_99 ⟨by decide, by decide⟩ ⟨rfl, rfl⟩ rfl rfl rfl hl.1 (rest := []) (As := [.int (nI (g1))]) rfl (Nat.le_of_ble_eq_true rfl) d_LM_rate_5 ⟨Nat.zero_le _, Nat.zero_le _⟩ (fun _ => rfl) (fun _ => rfl) rfl ?_
  intro r _ H locs hp2 hw
  subst hp2
  refine mg_bif_ne X 19 11 d_LM_rate_8 (by decide) rfl (fun _ => ?_) (fun b3 => absurd (mg_lt_in (by omega)) b3)
  refine mg_iload_n X 20 d_LM_rate_19 (lv_at hl 2 rfl) rfl ?_
  refine mg_callSi X hK hw hA 23 [] (fun _ => [mg_ob aL 5 [.ref (h), .ref (hM), .ref (hF), .ref (aS), .ref (qp), .int (nI (pl))], mg_ob h 1 [.ref (qf), .ref (qm), .ref (qr), .int (nI (nf)), .int (nI (nc))], mg_ob hM 2 [.ref (qw), .ref (qra), .ref (qo), .ref (qt), .int (nI (nm)), .int (nI (sg))]]) (k_LM_isRate l D K k1 ) g_LM_102 ⟨by decide, by decide⟩ ⟨rfl, rfl⟩ rfl rfl rfl hl.1 (rest := []) (As := [.int (k1)]) rfl (Nat.le_of_ble_eq_true rfl) d_LM_rate_20 ⟨Nat.zero_le _, Nat.zero_le _⟩ (fun _ => rfl) (fun _ => rfl) rfl ?_
  intro r _ H locs hp5 hw
  subst hp5
  refine mg_bif_ne X 34 26 d_LM_rate_23 (by decide) rfl (fun b6 => absurd b6 (hx)) (fun _ => ?_)
  exact mg_throw X hte hlk hw hSt hl0 ex_IA hl.1 d_LM_rate_26 d_LM_rate_29 d_LM_rate_30 d_LM_rate_33 (Nat.zero_le _) (by decide)

set_option maxRecDepth 100000 in
set_option maxHeartbeats 4000000 in
theorem k_LM_wouldX1 (l : Launch) (D : va_G) (K : Nat → ClassId) (aL : Nat) (h : Nat) (hM : Nat) (hF : Nat) (aS : Nat) (qp : Nat) (pl : Nat) (qf : Nat) (qm : Nat) (qr : Nat) (nf : Nat) (nc : Nat) (qw : Nat) (qra : Nat) (qo : Nat) (qt : Nat) (nm : Nat) (sg : Nat) (g1 : Int32) (k1 : Int32) (hl0 : l.stackTraces = false) (hnf : nf ≤ 3) (hnc : nc ≤ 3) (hn : nm ≤ 4) (hsg : sg ≤ 24) (hx : ¬ mg_lt g1 (nm - 1)) : mg_Mxi l D K y_LM_would b_LM_would 3 (.int) ({ frames := 6, cells := 1, slots := 6, locals := 142 }) [.ref (aL), .int (g1), .int (k1)] [mg_ob aL 5 [.ref (h), .ref (hM), .ref (hF), .ref (aS), .ref (qp), .int (nI (pl))], mg_ob h 1 [.ref (qf), .ref (qm), .ref (qr), .int (nI (nf)), .int (nI (nc))], mg_ob hM 2 [.ref (qw), .ref (qra), .ref (qo), .ref (qt), .int (nI (nm)), .int (nI (sg))]] xIO := by
  intro sz
  refine mg_entryX (Qc := fun A => mg_Ni A) (XC := fun A => mg_X D xIO [mg_ob aL 5 [.ref (h), .ref (hM), .ref (hF), .ref (aS), .ref (qp), .int (nI (pl))], mg_ob h 1 [.ref (qf), .ref (qm), .ref (qr), .int (nI (nf)), .int (nI (nc))], mg_ob hM 2 [.ref (qw), .ref (qra), .ref (qo), .ref (qt), .int (nI (nm)), .int (nI (sg))]] A) (by decide) (Nat.le_of_ble_eq_true rfl) ?_
  intro p e s m args below meth c A ls X hte hlk hA hK hw hSt hl
  have hl : lv_has ls 3 [(0, .ref (aL)), (1, .int (g1)), (2, .int (k1))] := hl
  have hw6 := mg_ways hnc
  refine mg_aload_n X 1 d_LM_would_0 (lv_at hl 0 rfl) rfl ?_
  refine mg_get X hK hw 4 0 1 f_LM_19 rfl rfl d_LM_would_1 rfl ?_
  refine mg_iload_n X 5 d_LM_would_4 (lv_at hl 1 rfl) rfl ?_
  refine mg_callVi X hK hw hA 8 [2] 2 (fun _ => [mg_ob aL 5 [.ref (h), .ref (hM), .ref (hF), .ref (aS), .ref (qp), .int (nI (pl))], mg_ob h 1 [.ref (qf), .ref (qm), .ref (qr), .int (nI (nf)), .int (nI (nc))], mg_ob hM 2 [.ref (qw), .ref (qra), .ref (qo), .ref (qt), .int (nI (nm)), .int (nI (sg))]]) rfl rfl (k_Ma_hasGap l D K hM qw qra qo qt nm sg g1 (by first | exact hn | omega)) g_LM_99 ⟨by decide, by decide⟩ ⟨rfl, rfl⟩ rfl rfl rfl hl.1 (rest := []) (As := [.int (g1)]) rfl (Nat.le_of_ble_eq_true rfl) d_LM_would_5 ⟨Nat.zero_le _, Nat.zero_le _⟩ (fun _ => rfl) (fun _ => rfl) rfl ?_
  intro r _ H locs hp2 hw
  subst hp2
  refine mg_bif_ne X 19 11 d_LM_would_8 (by decide) rfl (fun b3 => absurd b3 (hx)) (fun _ => ?_)
  exact mg_throw X hte hlk hw hSt hl0 ex_IO hl.1 d_LM_would_11 d_LM_would_14 d_LM_would_15 d_LM_would_18 (Nat.zero_le _) (by decide)

set_option maxRecDepth 100000 in
set_option maxHeartbeats 4000000 in
theorem k_LM_wouldX2 (l : Launch) (D : va_G) (K : Nat → ClassId) (aL : Nat) (h : Nat) (hM : Nat) (hF : Nat) (aS : Nat) (qp : Nat) (pl : Nat) (qf : Nat) (qm : Nat) (qr : Nat) (nf : Nat) (nc : Nat) (qw : Nat) (qra : Nat) (qo : Nat) (qt : Nat) (nm : Nat) (sg : Nat) (g1 : Nat) (k1 : Int32) (hl0 : l.stackTraces = false) (hnf : nf ≤ 3) (hnc : nc ≤ 3) (hn : nm ≤ 4) (hsg : sg ≤ 24) (hg : g1 + 1 < nm) (hx : ¬ mg_lt k1 9) : mg_Mxi l D K y_LM_would b_LM_would 3 (.int) ({ frames := 6, cells := 1, slots := 6, locals := 142 }) [.ref (aL), .int (nI (g1)), .int (k1)] [mg_ob aL 5 [.ref (h), .ref (hM), .ref (hF), .ref (aS), .ref (qp), .int (nI (pl))], mg_ob h 1 [.ref (qf), .ref (qm), .ref (qr), .int (nI (nf)), .int (nI (nc))], mg_ob hM 2 [.ref (qw), .ref (qra), .ref (qo), .ref (qt), .int (nI (nm)), .int (nI (sg))]] xIA := by
  intro sz
  refine mg_entryX (Qc := fun A => mg_Ni A) (XC := fun A => mg_X D xIA [mg_ob aL 5 [.ref (h), .ref (hM), .ref (hF), .ref (aS), .ref (qp), .int (nI (pl))], mg_ob h 1 [.ref (qf), .ref (qm), .ref (qr), .int (nI (nf)), .int (nI (nc))], mg_ob hM 2 [.ref (qw), .ref (qra), .ref (qo), .ref (qt), .int (nI (nm)), .int (nI (sg))]] A) (by decide) (Nat.le_of_ble_eq_true rfl) ?_
  intro p e s m args below meth c A ls X hte hlk hA hK hw hSt hl
  have hl : lv_has ls 3 [(0, .ref (aL)), (1, .int (nI (g1))), (2, .int (k1))] := hl
  have hw6 := mg_ways hnc
  refine mg_aload_n X 1 d_LM_would_0 (lv_at hl 0 rfl) rfl ?_
  refine mg_get X hK hw 4 0 1 f_LM_19 rfl rfl d_LM_would_1 rfl ?_
  refine mg_iload_n X 5 d_LM_would_4 (lv_at hl 1 rfl) rfl ?_
  refine mg_callVi X hK hw hA 8 [2] 2 (fun _ => [mg_ob aL 5 [.ref (h), .ref (hM), .ref (hF), .ref (aS), .ref (qp), .int (nI (pl))], mg_ob h 1 [.ref (qf), .ref (qm), .ref (qr), .int (nI (nf)), .int (nI (nc))], mg_ob hM 2 [.ref (qw), .ref (qra), .ref (qo), .ref (qt), .int (nI (nm)), .int (nI (sg))]]) rfl rfl (k_Ma_hasGap l D K hM qw qra qo qt nm sg (nI g1) (by first | exact hn | omega)) g_LM_99 ⟨by decide, by decide⟩ ⟨rfl, rfl⟩ rfl rfl rfl hl.1 (rest := []) (As := [.int (nI (g1))]) rfl (Nat.le_of_ble_eq_true rfl) d_LM_would_5 ⟨Nat.zero_le _, Nat.zero_le _⟩ (fun _ => rfl) (fun _ => rfl) rfl ?_
  intro r _ H locs hp2 hw
  subst hp2
  refine mg_bif_ne X 19 11 d_LM_would_8 (by decide) rfl (fun _ => ?_) (fun b3 => absurd (mg_lt_in (by omega)) b3)
  refine mg_iload_n X 20 d_LM_would_19 (lv_at hl 2 rfl) rfl ?_
  refine mg_callSi X hK hw hA 23 [] (fun _ => [mg_ob aL 5 [.ref (h), .ref (hM), .ref (hF), .ref (aS), .ref (qp), .int (nI (pl))], mg_ob h 1 [.ref (qf), .ref (qm), .ref (qr), .int (nI (nf)), .int (nI (nc))], mg_ob hM 2 [.ref (qw), .ref (qra), .ref (qo), .ref (qt), .int (nI (nm)), .int (nI (sg))]]) (k_LM_isRate l D K k1 ) g_LM_102 ⟨by decide, by decide⟩ ⟨rfl, rfl⟩ rfl rfl rfl hl.1 (rest := []) (As := [.int (k1)]) rfl (Nat.le_of_ble_eq_true rfl) d_LM_would_20 ⟨Nat.zero_le _, Nat.zero_le _⟩ (fun _ => rfl) (fun _ => rfl) rfl ?_
  intro r _ H locs hp5 hw
  subst hp5
  refine mg_bif_ne X 34 26 d_LM_would_23 (by decide) rfl (fun b6 => absurd b6 (hx)) (fun _ => ?_)
  exact mg_throw X hte hlk hw hSt hl0 ex_IA hl.1 d_LM_would_26 d_LM_would_29 d_LM_would_30 d_LM_would_33 (Nat.zero_le _) (by decide)

set_option maxRecDepth 100000 in
set_option maxHeartbeats 4000000 in
theorem k_LM_seeX1 (l : Launch) (D : va_G) (K : Nat → ClassId) (aL : Nat) (h : Nat) (hM : Nat) (hF : Nat) (aS : Nat) (qp : Nat) (pl : Nat) (qf : Nat) (qm : Nat) (qr : Nat) (nf : Nat) (nc : Nat) (qw : Nat) (qra : Nat) (qo : Nat) (qt : Nat) (nm : Nat) (sg : Nat) (p1 : Int32) (m1 : Int32) (o1 : Int32) (t1 : Int32) (hl0 : l.stackTraces = false) (hnf : nf ≤ 3) (hnc : nc ≤ 3) (hn : nm ≤ 4) (hsg : sg ≤ 24) (hx : ¬ (mg_lt p1 (nf + nc) ∧ mg_lt m1 nm)) : mg_Mxv l D K y_LM_see b_LM_see 5 ({ frames := 21, cells := 1, slots := 6, locals := 502 }) [.ref (aL), .int (p1), .int (m1), .int (o1), .int (t1)] [mg_ob aL 5 [.ref (h), .ref (hM), .ref (hF), .ref (aS), .ref (qp), .int (nI (pl))], mg_ob h 1 [.ref (qf), .ref (qm), .ref (qr), .int (nI (nf)), .int (nI (nc))], mg_ob hM 2 [.ref (qw), .ref (qra), .ref (qo), .ref (qt), .int (nI (nm)), .int (nI (sg))]] xIO := by
  intro sz
  refine mg_entryX (Qc := fun A => mg_Nv A) (XC := fun A => mg_X D xIO [mg_ob aL 5 [.ref (h), .ref (hM), .ref (hF), .ref (aS), .ref (qp), .int (nI (pl))], mg_ob h 1 [.ref (qf), .ref (qm), .ref (qr), .int (nI (nf)), .int (nI (nc))], mg_ob hM 2 [.ref (qw), .ref (qra), .ref (qo), .ref (qt), .int (nI (nm)), .int (nI (sg))]] A) (by decide) (Nat.le_of_ble_eq_true rfl) ?_
  intro p e s m args below meth c A ls X hte hlk hA hK hw hSt hl
  have hl : lv_has ls 5 [(0, .ref (aL)), (1, .int (p1)), (2, .int (m1)), (3, .int (o1)), (4, .int (t1))] := hl
  have hw6 := mg_ways hnc
  refine mg_aload_n X 1 d_LM_see_0 (lv_at hl 0 rfl) rfl ?_
  refine mg_get X hK hw 4 0 0 f_LM_12 rfl rfl d_LM_see_1 rfl ?_
  refine mg_iload_n X 5 d_LM_see_4 (lv_at hl 1 rfl) rfl ?_
  refine mg_callVi X hK hw hA 8 [1] 1 (fun _ => [mg_ob aL 5 [.ref (h), .ref (hM), .ref (hF), .ref (aS), .ref (qp), .int (nI (pl))], mg_ob h 1 [.ref (qf), .ref (qm), .ref (qr), .int (nI (nf)), .int (nI (nc))], mg_ob hM 2 [.ref (qw), .ref (qra), .ref (qo), .ref (qt), .int (nI (nm)), .int (nI (sg))]]) rfl rfl (k_Fa_hasPerson l D K h qf qm qr nf nc p1 (by first | exact hnf | omega) (by first | exact hnc | omega)) g_LM_67 ⟨by decide, by decide⟩ ⟨rfl, rfl⟩ rfl rfl rfl hl.1 (rest := []) (As := [.int (p1)]) rfl (Nat.le_of_ble_eq_true rfl) d_LM_see_5 ⟨Nat.zero_le _, Nat.zero_le _⟩ (fun _ => rfl) (fun _ => rfl) rfl ?_
  intro r _ H locs hp2 hw
  subst hp2
  refine mg_bif_eq X 22 11 d_LM_see_8 (by decide) rfl (fun b3 => ?_) (fun b3 => ?_)
  · -- pc 8 t
    exact mg_throw X hte hlk hw hSt hl0 ex_IO hl.1 d_LM_see_22 d_LM_see_25 d_LM_see_26 d_LM_see_29 (Nat.zero_le _) (by decide)
  · -- pc 8 f
    obtain ⟨jp1, hp1, rfl⟩ := b3
    refine mg_aload_n X 12 d_LM_see_11 (lv_at hl 0 rfl) rfl ?_
    refine mg_get X hK hw 15 0 1 f_LM_19 rfl rfl d_LM_see_12 rfl ?_
    refine mg_iload_n X 16 d_LM_see_15 (lv_at hl 2 rfl) rfl ?_
    refine mg_callVi X hK hw hA 19 [2] 2 (fun _ => [mg_ob aL 5 [.ref (h), .ref (hM), .ref (hF), .ref (aS), .ref (qp), .int (nI (pl))], mg_ob h 1 [.ref (qf), .ref (qm), .ref (qr), .int (nI (nf)), .int (nI (nc))], mg_ob hM 2 [.ref (qw), .ref (qra), .ref (qo), .ref (qt), .int (nI (nm)), .int (nI (sg))]]) rfl rfl (k_Ma_hasMarker l D K hM qw qra qo qt nm sg m1 (by first | exact hn | omega)) g_LM_109 ⟨by decide, by decide⟩ ⟨rfl, rfl⟩ rfl rfl rfl hl.1 (rest := []) (As := [.int (m1)]) rfl (Nat.le_of_ble_eq_true rfl) d_LM_see_16 ⟨Nat.zero_le _, Nat.zero_le _⟩ (fun _ => rfl) (fun _ => rfl) rfl ?_
    intro r _ H locs hp5 hw
    subst hp5
    refine mg_bif_ne X 30 22 d_LM_see_19 (by decide) rfl (fun b6 => ?_) (fun b6 => ?_)
    · -- pc 19 t
      obtain ⟨jm1, hm1, rfl⟩ := b6
      exact absurd ⟨⟨jp1, hp1, rfl⟩, ⟨jm1, hm1, rfl⟩⟩ hx
    · -- pc 19 f
      exact mg_throw X hte hlk hw hSt hl0 ex_IO hl.1 d_LM_see_22 d_LM_see_25 d_LM_see_26 d_LM_see_29 (Nat.zero_le _) (by decide)

set_option maxRecDepth 100000 in
set_option maxHeartbeats 4000000 in
theorem k_LM_seeX2 (l : Launch) (D : va_G) (K : Nat → ClassId) (aL : Nat) (h : Nat) (hM : Nat) (hF : Nat) (aS : Nat) (qp : Nat) (pl : Nat) (qf : Nat) (qm : Nat) (qr : Nat) (nf : Nat) (nc : Nat) (qw : Nat) (qra : Nat) (qo : Nat) (qt : Nat) (nm : Nat) (sg : Nat) (p1 : Nat) (m1 : Nat) (o1 : Int32) (t1 : Int32) (hl0 : l.stackTraces = false) (hnf : nf ≤ 3) (hnc : nc ≤ 3) (hn : nm ≤ 4) (hsg : sg ≤ 24) (hp1 : p1 < (nf + nc)) (hm1 : m1 < nm) (hx : ¬ (mg_bt o1 1 3 ∧ mg_bt t1 1 3)) : mg_Mxv l D K y_LM_see b_LM_see 5 ({ frames := 21, cells := 1, slots := 6, locals := 502 }) [.ref (aL), .int (nI (p1)), .int (nI (m1)), .int (o1), .int (t1)] [mg_ob aL 5 [.ref (h), .ref (hM), .ref (hF), .ref (aS), .ref (qp), .int (nI (pl))], mg_ob h 1 [.ref (qf), .ref (qm), .ref (qr), .int (nI (nf)), .int (nI (nc))], mg_ob hM 2 [.ref (qw), .ref (qra), .ref (qo), .ref (qt), .int (nI (nm)), .int (nI (sg))]] xIA := by
  intro sz
  refine mg_entryX (Qc := fun A => mg_Nv A) (XC := fun A => mg_X D xIA [mg_ob aL 5 [.ref (h), .ref (hM), .ref (hF), .ref (aS), .ref (qp), .int (nI (pl))], mg_ob h 1 [.ref (qf), .ref (qm), .ref (qr), .int (nI (nf)), .int (nI (nc))], mg_ob hM 2 [.ref (qw), .ref (qra), .ref (qo), .ref (qt), .int (nI (nm)), .int (nI (sg))]] A) (by decide) (Nat.le_of_ble_eq_true rfl) ?_
  intro p e s m args below meth c A ls X hte hlk hA hK hw hSt hl
  have hl : lv_has ls 5 [(0, .ref (aL)), (1, .int (nI (p1))), (2, .int (nI (m1))), (3, .int (o1)), (4, .int (t1))] := hl
  have hw6 := mg_ways hnc
  refine mg_aload_n X 1 d_LM_see_0 (lv_at hl 0 rfl) rfl ?_
  refine mg_get X hK hw 4 0 0 f_LM_12 rfl rfl d_LM_see_1 rfl ?_
  refine mg_iload_n X 5 d_LM_see_4 (lv_at hl 1 rfl) rfl ?_
  refine mg_callVi X hK hw hA 8 [1] 1 (fun _ => [mg_ob aL 5 [.ref (h), .ref (hM), .ref (hF), .ref (aS), .ref (qp), .int (nI (pl))], mg_ob h 1 [.ref (qf), .ref (qm), .ref (qr), .int (nI (nf)), .int (nI (nc))], mg_ob hM 2 [.ref (qw), .ref (qra), .ref (qo), .ref (qt), .int (nI (nm)), .int (nI (sg))]]) rfl rfl (k_Fa_hasPerson l D K h qf qm qr nf nc (nI p1) (by first | exact hnf | omega) (by first | exact hnc | omega)) g_LM_67 ⟨by decide, by decide⟩ ⟨rfl, rfl⟩ rfl rfl rfl hl.1 (rest := []) (As := [.int (nI (p1))]) rfl (Nat.le_of_ble_eq_true rfl) d_LM_see_5 ⟨Nat.zero_le _, Nat.zero_le _⟩ (fun _ => rfl) (fun _ => rfl) rfl ?_
  intro r _ H locs hp2 hw
  subst hp2
  refine mg_bif_eq X 22 11 d_LM_see_8 (by decide) rfl (fun b3 => absurd (mg_lt_in hp1) b3) (fun _ => ?_)
  refine mg_aload_n X 12 d_LM_see_11 (lv_at hl 0 rfl) rfl ?_
  refine mg_get X hK hw 15 0 1 f_LM_19 rfl rfl d_LM_see_12 rfl ?_
  refine mg_iload_n X 16 d_LM_see_15 (lv_at hl 2 rfl) rfl ?_
  refine mg_callVi X hK hw hA 19 [2] 2 (fun _ => [mg_ob aL 5 [.ref (h), .ref (hM), .ref (hF), .ref (aS), .ref (qp), .int (nI (pl))], mg_ob h 1 [.ref (qf), .ref (qm), .ref (qr), .int (nI (nf)), .int (nI (nc))], mg_ob hM 2 [.ref (qw), .ref (qra), .ref (qo), .ref (qt), .int (nI (nm)), .int (nI (sg))]]) rfl rfl (k_Ma_hasMarker l D K hM qw qra qo qt nm sg (nI m1) (by first | exact hn | omega)) g_LM_109 ⟨by decide, by decide⟩ ⟨rfl, rfl⟩ rfl rfl rfl hl.1 (rest := []) (As := [.int (nI (m1))]) rfl (Nat.le_of_ble_eq_true rfl) d_LM_see_16 ⟨Nat.zero_le _, Nat.zero_le _⟩ (fun _ => rfl) (fun _ => rfl) rfl ?_
  intro r _ H locs hp5 hw
  subst hp5
  refine mg_bif_ne X 30 22 d_LM_see_19 (by decide) rfl (fun _ => ?_) (fun b6 => absurd (mg_lt_in hm1) b6)
  refine mg_iload_n X 31 d_LM_see_30 (lv_at hl 3 rfl) rfl ?_
  refine mg_callSi X hK hw hA 34 [] (fun _ => [mg_ob aL 5 [.ref (h), .ref (hM), .ref (hF), .ref (aS), .ref (qp), .int (nI (pl))], mg_ob h 1 [.ref (qf), .ref (qm), .ref (qr), .int (nI (nf)), .int (nI (nc))], mg_ob hM 2 [.ref (qw), .ref (qra), .ref (qo), .ref (qt), .int (nI (nm)), .int (nI (sg))]]) (k_LM_isLetter l D K o1 ) g_LM_112 ⟨by decide, by decide⟩ ⟨rfl, rfl⟩ rfl rfl rfl hl.1 (rest := []) (As := [.int (o1)]) rfl (Nat.le_of_ble_eq_true rfl) d_LM_see_31 ⟨Nat.zero_le _, Nat.zero_le _⟩ (fun _ => rfl) (fun _ => rfl) rfl ?_
  intro r _ H locs hp8 hw
  subst hp8
  refine mg_bif_eq X 45 37 d_LM_see_34 (by decide) rfl (fun b9 => ?_) (fun b9 => ?_)
  · -- pc 34 t
    exact mg_throw X hte hlk hw hSt hl0 ex_IA hl.1 d_LM_see_45 d_LM_see_48 d_LM_see_49 d_LM_see_52 (Nat.zero_le _) (by decide)
  · -- pc 34 f
    obtain ⟨jo1, ho1, rfl⟩ := b9
    refine mg_iload X 39 d_LM_see_37 (lv_at hl 4 rfl) rfl ?_
    refine mg_callSi X hK hw hA 42 [] (fun _ => [mg_ob aL 5 [.ref (h), .ref (hM), .ref (hF), .ref (aS), .ref (qp), .int (nI (pl))], mg_ob h 1 [.ref (qf), .ref (qm), .ref (qr), .int (nI (nf)), .int (nI (nc))], mg_ob hM 2 [.ref (qw), .ref (qra), .ref (qo), .ref (qt), .int (nI (nm)), .int (nI (sg))]]) (k_LM_isLetter l D K t1 ) g_LM_112 ⟨by decide, by decide⟩ ⟨rfl, rfl⟩ rfl rfl rfl hl.1 (rest := []) (As := [.int (t1)]) rfl (Nat.le_of_ble_eq_true rfl) d_LM_see_39 ⟨Nat.zero_le _, Nat.zero_le _⟩ (fun _ => rfl) (fun _ => rfl) rfl ?_
    intro r _ H locs hp11 hw
    subst hp11
    refine mg_bif_ne X 53 45 d_LM_see_42 (by decide) rfl (fun b12 => ?_) (fun b12 => ?_)
    · -- pc 42 t
      obtain ⟨jt1, ht1, rfl⟩ := b12
      exact absurd ⟨⟨jo1, ho1, rfl⟩, ⟨jt1, ht1, rfl⟩⟩ hx
    · -- pc 42 f
      exact mg_throw X hte hlk hw hSt hl0 ex_IA hl.1 d_LM_see_45 d_LM_see_48 d_LM_see_49 d_LM_see_52 (Nat.zero_le _) (by decide)

set_option maxRecDepth 100000 in
set_option maxHeartbeats 4000000 in
theorem k_LM_unseeX (l : Launch) (D : va_G) (K : Nat → ClassId) (aL : Nat) (h : Nat) (hM : Nat) (hF : Nat) (aS : Nat) (qp : Nat) (pl : Nat) (qf : Nat) (qm : Nat) (qr : Nat) (nf : Nat) (nc : Nat) (qw : Nat) (qra : Nat) (qo : Nat) (qt : Nat) (nm : Nat) (sg : Nat) (p1 : Int32) (m1 : Int32) (hl0 : l.stackTraces = false) (hnf : nf ≤ 3) (hnc : nc ≤ 3) (hn : nm ≤ 4) (hsg : sg ≤ 24) (hx : ¬ (mg_lt p1 (nf + nc) ∧ mg_lt m1 nm)) : mg_Mxi l D K y_LM_unsee b_LM_unsee 3 (.boolean) ({ frames := 21, cells := 1, slots := 6, locals := 502 }) [.ref (aL), .int (p1), .int (m1)] [mg_ob aL 5 [.ref (h), .ref (hM), .ref (hF), .ref (aS), .ref (qp), .int (nI (pl))], mg_ob h 1 [.ref (qf), .ref (qm), .ref (qr), .int (nI (nf)), .int (nI (nc))], mg_ob hM 2 [.ref (qw), .ref (qra), .ref (qo), .ref (qt), .int (nI (nm)), .int (nI (sg))]] xIO := by
  intro sz
  refine mg_entryX (Qc := fun A => mg_Ni A) (XC := fun A => mg_X D xIO [mg_ob aL 5 [.ref (h), .ref (hM), .ref (hF), .ref (aS), .ref (qp), .int (nI (pl))], mg_ob h 1 [.ref (qf), .ref (qm), .ref (qr), .int (nI (nf)), .int (nI (nc))], mg_ob hM 2 [.ref (qw), .ref (qra), .ref (qo), .ref (qt), .int (nI (nm)), .int (nI (sg))]] A) (by decide) (Nat.le_of_ble_eq_true rfl) ?_
  intro p e s m args below meth c A ls X hte hlk hA hK hw hSt hl
  have hl : lv_has ls 3 [(0, .ref (aL)), (1, .int (p1)), (2, .int (m1))] := hl
  have hw6 := mg_ways hnc
  refine mg_aload_n X 1 d_LM_unsee_0 (lv_at hl 0 rfl) rfl ?_
  refine mg_get X hK hw 4 0 0 f_LM_12 rfl rfl d_LM_unsee_1 rfl ?_
  refine mg_iload_n X 5 d_LM_unsee_4 (lv_at hl 1 rfl) rfl ?_
  refine mg_callVi X hK hw hA 8 [1] 1 (fun _ => [mg_ob aL 5 [.ref (h), .ref (hM), .ref (hF), .ref (aS), .ref (qp), .int (nI (pl))], mg_ob h 1 [.ref (qf), .ref (qm), .ref (qr), .int (nI (nf)), .int (nI (nc))], mg_ob hM 2 [.ref (qw), .ref (qra), .ref (qo), .ref (qt), .int (nI (nm)), .int (nI (sg))]]) rfl rfl (k_Fa_hasPerson l D K h qf qm qr nf nc p1 (by first | exact hnf | omega) (by first | exact hnc | omega)) g_LM_67 ⟨by decide, by decide⟩ ⟨rfl, rfl⟩ rfl rfl rfl hl.1 (rest := []) (As := [.int (p1)]) rfl (Nat.le_of_ble_eq_true rfl) d_LM_unsee_5 ⟨Nat.zero_le _, Nat.zero_le _⟩ (fun _ => rfl) (fun _ => rfl) rfl ?_
  intro r _ H locs hp2 hw
  subst hp2
  refine mg_bif_eq X 22 11 d_LM_unsee_8 (by decide) rfl (fun b3 => ?_) (fun b3 => ?_)
  · -- pc 8 t
    exact mg_throw X hte hlk hw hSt hl0 ex_IO hl.1 d_LM_unsee_22 d_LM_unsee_25 d_LM_unsee_26 d_LM_unsee_29 (Nat.zero_le _) (by decide)
  · -- pc 8 f
    obtain ⟨jp1, hp1, rfl⟩ := b3
    refine mg_aload_n X 12 d_LM_unsee_11 (lv_at hl 0 rfl) rfl ?_
    refine mg_get X hK hw 15 0 1 f_LM_19 rfl rfl d_LM_unsee_12 rfl ?_
    refine mg_iload_n X 16 d_LM_unsee_15 (lv_at hl 2 rfl) rfl ?_
    refine mg_callVi X hK hw hA 19 [2] 2 (fun _ => [mg_ob aL 5 [.ref (h), .ref (hM), .ref (hF), .ref (aS), .ref (qp), .int (nI (pl))], mg_ob h 1 [.ref (qf), .ref (qm), .ref (qr), .int (nI (nf)), .int (nI (nc))], mg_ob hM 2 [.ref (qw), .ref (qra), .ref (qo), .ref (qt), .int (nI (nm)), .int (nI (sg))]]) rfl rfl (k_Ma_hasMarker l D K hM qw qra qo qt nm sg m1 (by first | exact hn | omega)) g_LM_109 ⟨by decide, by decide⟩ ⟨rfl, rfl⟩ rfl rfl rfl hl.1 (rest := []) (As := [.int (m1)]) rfl (Nat.le_of_ble_eq_true rfl) d_LM_unsee_16 ⟨Nat.zero_le _, Nat.zero_le _⟩ (fun _ => rfl) (fun _ => rfl) rfl ?_
    intro r _ H locs hp5 hw
    subst hp5
    refine mg_bif_ne X 30 22 d_LM_unsee_19 (by decide) rfl (fun b6 => ?_) (fun b6 => ?_)
    · -- pc 19 t
      obtain ⟨jm1, hm1, rfl⟩ := b6
      exact absurd ⟨⟨jp1, hp1, rfl⟩, ⟨jm1, hm1, rfl⟩⟩ hx
    · -- pc 19 f
      exact mg_throw X hte hlk hw hSt hl0 ex_IO hl.1 d_LM_unsee_22 d_LM_unsee_25 d_LM_unsee_26 d_LM_unsee_29 (Nat.zero_le _) (by decide)

set_option maxRecDepth 100000 in
set_option maxHeartbeats 4000000 in
theorem k_LM_originX (l : Launch) (D : va_G) (K : Nat → ClassId) (aL : Nat) (h : Nat) (hM : Nat) (hF : Nat) (aS : Nat) (qp : Nat) (pl : Nat) (qf : Nat) (qm : Nat) (qr : Nat) (nf : Nat) (nc : Nat) (qw : Nat) (qra : Nat) (qo : Nat) (qt : Nat) (nm : Nat) (sg : Nat) (p1 : Int32) (c1 : Int32) (w1 : Int32) (hl0 : l.stackTraces = false) (hnf : nf ≤ 3) (hnc : nc ≤ 3) (hn : nm ≤ 4) (hsg : sg ≤ 24) (hx : ¬ (mg_lt p1 (nf + nc) ∧ mg_lt c1 2 ∧ mg_lt w1 (2 ^ (2 * nc)))) : mg_Mxi l D K y_LM_origin b_LM_origin 4 (.int) ({ frames := 6, cells := 1, slots := 6, locals := 100 }) [.ref (aL), .int (p1), .int (c1), .int (w1)] [mg_ob aL 5 [.ref (h), .ref (hM), .ref (hF), .ref (aS), .ref (qp), .int (nI (pl))], mg_ob h 1 [.ref (qf), .ref (qm), .ref (qr), .int (nI (nf)), .int (nI (nc))], mg_ob hM 2 [.ref (qw), .ref (qra), .ref (qo), .ref (qt), .int (nI (nm)), .int (nI (sg))]] xIO := by
  intro sz
  refine mg_entryX (Qc := fun A => mg_Ni A) (XC := fun A => mg_X D xIO [mg_ob aL 5 [.ref (h), .ref (hM), .ref (hF), .ref (aS), .ref (qp), .int (nI (pl))], mg_ob h 1 [.ref (qf), .ref (qm), .ref (qr), .int (nI (nf)), .int (nI (nc))], mg_ob hM 2 [.ref (qw), .ref (qra), .ref (qo), .ref (qt), .int (nI (nm)), .int (nI (sg))]] A) (by decide) (Nat.le_of_ble_eq_true rfl) ?_
  intro p e s m args below meth c A ls X hte hlk hA hK hw hSt hl
  have hl : lv_has ls 4 [(0, .ref (aL)), (1, .int (p1)), (2, .int (c1)), (3, .int (w1))] := hl
  have hw6 := mg_ways hnc
  refine mg_aload_n X 1 d_LM_origin_0 (lv_at hl 0 rfl) rfl ?_
  refine mg_get X hK hw 4 0 0 f_LM_12 rfl rfl d_LM_origin_1 rfl ?_
  refine mg_iload_n X 5 d_LM_origin_4 (lv_at hl 1 rfl) rfl ?_
  refine mg_callVi X hK hw hA 8 [1] 1 (fun _ => [mg_ob aL 5 [.ref (h), .ref (hM), .ref (hF), .ref (aS), .ref (qp), .int (nI (pl))], mg_ob h 1 [.ref (qf), .ref (qm), .ref (qr), .int (nI (nf)), .int (nI (nc))], mg_ob hM 2 [.ref (qw), .ref (qra), .ref (qo), .ref (qt), .int (nI (nm)), .int (nI (sg))]]) rfl rfl (k_Fa_hasPerson l D K h qf qm qr nf nc p1 (by first | exact hnf | omega) (by first | exact hnc | omega)) g_LM_67 ⟨by decide, by decide⟩ ⟨rfl, rfl⟩ rfl rfl rfl hl.1 (rest := []) (As := [.int (p1)]) rfl (Nat.le_of_ble_eq_true rfl) d_LM_origin_5 ⟨Nat.zero_le _, Nat.zero_le _⟩ (fun _ => rfl) (fun _ => rfl) rfl ?_
  intro r _ H locs hp2 hw
  subst hp2
  refine mg_bif_eq X 31 11 d_LM_origin_8 (by decide) rfl (fun b3 => ?_) (fun b3 => ?_)
  · -- pc 8 t
    exact mg_throw X hte hlk hw hSt hl0 ex_IO hl.1 d_LM_origin_31 d_LM_origin_34 d_LM_origin_35 d_LM_origin_38 (Nat.zero_le _) (by decide)
  · -- pc 8 f
    obtain ⟨jp1, hp1, rfl⟩ := b3
    refine mg_iload_n X 12 d_LM_origin_11 (lv_at hl 2 rfl) rfl ?_
    refine mg_iflt_r X 31 15 d_LM_origin_12 (by decide) rfl (fun b4 => ?_) (fun jc hjc ejc => ?_)
    · -- pc 12 t
      exact mg_throw X hte hlk hw hSt hl0 ex_IO hl.1 d_LM_origin_31 d_LM_origin_34 d_LM_origin_35 d_LM_origin_38 (Nat.zero_le _) (by decide)
    · -- pc 12 f
      subst ejc
      refine mg_iload_n X 16 d_LM_origin_15 (lv_at hl 2 rfl) rfl ?_
      refine mg_iconst X 17 1 d_LM_origin_16 mg_ci_1 rfl ?_
      refine mg_icmp_gt X 31 20 (by omega) (by omega) d_LM_origin_17 (by decide) rfl (fun h1 => ?_) (fun h1 => ?_)
      · -- pc 17 t
        exact mg_throw X hte hlk hw hSt hl0 ex_IO hl.1 d_LM_origin_31 d_LM_origin_34 d_LM_origin_35 d_LM_origin_38 (Nat.zero_le _) (by decide)
      · -- pc 17 f
        refine mg_aload_n X 21 d_LM_origin_20 (lv_at hl 0 rfl) rfl ?_
        refine mg_get X hK hw 24 0 0 f_LM_12 rfl rfl d_LM_origin_21 rfl ?_
        refine mg_iload_n X 25 d_LM_origin_24 (lv_at hl 3 rfl) rfl ?_
        refine mg_callVi X hK hw hA 28 [1] 1 (fun _ => [mg_ob aL 5 [.ref (h), .ref (hM), .ref (hF), .ref (aS), .ref (qp), .int (nI (pl))], mg_ob h 1 [.ref (qf), .ref (qm), .ref (qr), .int (nI (nf)), .int (nI (nc))], mg_ob hM 2 [.ref (qw), .ref (qra), .ref (qo), .ref (qt), .int (nI (nm)), .int (nI (sg))]]) rfl rfl (k_Fa_hasWay l D K h qf qm qr nf nc w1 (by first | exact hnf | omega) (by first | exact hnc | omega)) g_LM_136 ⟨by decide, by decide⟩ ⟨rfl, rfl⟩ rfl rfl rfl hl.1 (rest := []) (As := [.int (w1)]) rfl (Nat.le_of_ble_eq_true rfl) d_LM_origin_25 ⟨Nat.zero_le _, Nat.zero_le _⟩ (fun _ => rfl) (fun _ => rfl) rfl ?_
        intro r _ H locs hp6 hw
        subst hp6
        refine mg_bif_ne X 39 31 d_LM_origin_28 (by decide) rfl (fun b7 => ?_) (fun b7 => ?_)
        · -- pc 28 t
          obtain ⟨jw1, hw1, rfl⟩ := b7
          exact absurd (show mg_lt _ _ ∧ mg_lt _ _ ∧ mg_lt _ _ from ⟨⟨jp1, hp1, rfl⟩, ⟨jc, by omega, rfl⟩, ⟨jw1, hw1, rfl⟩⟩) hx
        · -- pc 28 f
          exact mg_throw X hte hlk hw hSt hl0 ex_IO hl.1 d_LM_origin_31 d_LM_origin_34 d_LM_origin_35 d_LM_origin_38 (Nat.zero_le _) (by decide)

set_option maxRecDepth 100000 in
set_option maxHeartbeats 4000000 in
theorem k_LM_fitX (l : Launch) (D : va_G) (K : Nat → ClassId) (aL : Nat) (h : Nat) (hM : Nat) (hF : Nat) (aS : Nat) (qp : Nat) (pl : Nat) (qf : Nat) (qm : Nat) (qr : Nat) (nf : Nat) (nc : Nat) (qw : Nat) (qra : Nat) (qo : Nat) (qt : Nat) (nm : Nat) (sg : Nat) (m1 : Int32) (w1 : Int32) (hl0 : l.stackTraces = false) (hnf : nf ≤ 3) (hnc : nc ≤ 3) (hn : nm ≤ 4) (hsg : sg ≤ 24) (hx : ¬ (mg_lt m1 nm ∧ mg_lt w1 (2 ^ (2 * nc)))) : mg_Mxi l D K y_LM_fit b_LM_fit 3 (.int) ({ frames := 6, cells := 1, slots := 6, locals := 100 }) [.ref (aL), .int (m1), .int (w1)] [mg_ob aL 5 [.ref (h), .ref (hM), .ref (hF), .ref (aS), .ref (qp), .int (nI (pl))], mg_ob h 1 [.ref (qf), .ref (qm), .ref (qr), .int (nI (nf)), .int (nI (nc))], mg_ob hM 2 [.ref (qw), .ref (qra), .ref (qo), .ref (qt), .int (nI (nm)), .int (nI (sg))]] xIO := by
  intro sz
  refine mg_entryX (Qc := fun A => mg_Ni A) (XC := fun A => mg_X D xIO [mg_ob aL 5 [.ref (h), .ref (hM), .ref (hF), .ref (aS), .ref (qp), .int (nI (pl))], mg_ob h 1 [.ref (qf), .ref (qm), .ref (qr), .int (nI (nf)), .int (nI (nc))], mg_ob hM 2 [.ref (qw), .ref (qra), .ref (qo), .ref (qt), .int (nI (nm)), .int (nI (sg))]] A) (by decide) (Nat.le_of_ble_eq_true rfl) ?_
  intro p e s m args below meth c A ls X hte hlk hA hK hw hSt hl
  have hl : lv_has ls 3 [(0, .ref (aL)), (1, .int (m1)), (2, .int (w1))] := hl
  have hw6 := mg_ways hnc
  refine mg_aload_n X 1 d_LM_fit_0 (lv_at hl 0 rfl) rfl ?_
  refine mg_get X hK hw 4 0 1 f_LM_19 rfl rfl d_LM_fit_1 rfl ?_
  refine mg_iload_n X 5 d_LM_fit_4 (lv_at hl 1 rfl) rfl ?_
  refine mg_callVi X hK hw hA 8 [2] 2 (fun _ => [mg_ob aL 5 [.ref (h), .ref (hM), .ref (hF), .ref (aS), .ref (qp), .int (nI (pl))], mg_ob h 1 [.ref (qf), .ref (qm), .ref (qr), .int (nI (nf)), .int (nI (nc))], mg_ob hM 2 [.ref (qw), .ref (qra), .ref (qo), .ref (qt), .int (nI (nm)), .int (nI (sg))]]) rfl rfl (k_Ma_hasMarker l D K hM qw qra qo qt nm sg m1 (by first | exact hn | omega)) g_LM_109 ⟨by decide, by decide⟩ ⟨rfl, rfl⟩ rfl rfl rfl hl.1 (rest := []) (As := [.int (m1)]) rfl (Nat.le_of_ble_eq_true rfl) d_LM_fit_5 ⟨Nat.zero_le _, Nat.zero_le _⟩ (fun _ => rfl) (fun _ => rfl) rfl ?_
  intro r _ H locs hp2 hw
  subst hp2
  refine mg_bif_eq X 22 11 d_LM_fit_8 (by decide) rfl (fun b3 => ?_) (fun b3 => ?_)
  · -- pc 8 t
    exact mg_throw X hte hlk hw hSt hl0 ex_IO hl.1 d_LM_fit_22 d_LM_fit_25 d_LM_fit_26 d_LM_fit_29 (Nat.zero_le _) (by decide)
  · -- pc 8 f
    obtain ⟨jm1, hm1, rfl⟩ := b3
    refine mg_aload_n X 12 d_LM_fit_11 (lv_at hl 0 rfl) rfl ?_
    refine mg_get X hK hw 15 0 0 f_LM_12 rfl rfl d_LM_fit_12 rfl ?_
    refine mg_iload_n X 16 d_LM_fit_15 (lv_at hl 2 rfl) rfl ?_
    refine mg_callVi X hK hw hA 19 [1] 1 (fun _ => [mg_ob aL 5 [.ref (h), .ref (hM), .ref (hF), .ref (aS), .ref (qp), .int (nI (pl))], mg_ob h 1 [.ref (qf), .ref (qm), .ref (qr), .int (nI (nf)), .int (nI (nc))], mg_ob hM 2 [.ref (qw), .ref (qra), .ref (qo), .ref (qt), .int (nI (nm)), .int (nI (sg))]]) rfl rfl (k_Fa_hasWay l D K h qf qm qr nf nc w1 (by first | exact hnf | omega) (by first | exact hnc | omega)) g_LM_136 ⟨by decide, by decide⟩ ⟨rfl, rfl⟩ rfl rfl rfl hl.1 (rest := []) (As := [.int (w1)]) rfl (Nat.le_of_ble_eq_true rfl) d_LM_fit_16 ⟨Nat.zero_le _, Nat.zero_le _⟩ (fun _ => rfl) (fun _ => rfl) rfl ?_
    intro r _ H locs hp5 hw
    subst hp5
    refine mg_bif_ne X 30 22 d_LM_fit_19 (by decide) rfl (fun b6 => ?_) (fun b6 => ?_)
    · -- pc 19 t
      obtain ⟨jw1, hw1, rfl⟩ := b6
      exact absurd ⟨⟨jm1, hm1, rfl⟩, ⟨jw1, hw1, rfl⟩⟩ hx
    · -- pc 19 f
      exact mg_throw X hte hlk hw hSt hl0 ex_IO hl.1 d_LM_fit_22 d_LM_fit_25 d_LM_fit_26 d_LM_fit_29 (Nat.zero_le _) (by decide)

set_option maxRecDepth 100000 in
set_option maxHeartbeats 4000000 in
theorem k_LM_jointX (l : Launch) (D : va_G) (K : Nat → ClassId) (aL : Nat) (h : Nat) (hM : Nat) (hF : Nat) (aS : Nat) (qp : Nat) (pl : Nat) (qf : Nat) (qm : Nat) (qr : Nat) (nf : Nat) (nc : Nat) (qw : Nat) (qra : Nat) (qo : Nat) (qt : Nat) (nm : Nat) (sg : Nat) (hl0 : l.stackTraces = false) (hnf : nf ≤ 3) (hnc : nc ≤ 3) (hn : nm ≤ 4) (hsg : sg ≤ 24) (hx : nm = 0) : mg_Mxi l D K y_LM_joint b_LM_joint 1 (.int) ({ frames := 6, cells := 1, slots := 6, locals := 142 }) [.ref (aL)] [mg_ob aL 5 [.ref (h), .ref (hM), .ref (hF), .ref (aS), .ref (qp), .int (nI (pl))], mg_ob h 1 [.ref (qf), .ref (qm), .ref (qr), .int (nI (nf)), .int (nI (nc))], mg_ob hM 2 [.ref (qw), .ref (qra), .ref (qo), .ref (qt), .int (nI (nm)), .int (nI (sg))]] xIS := by
  intro sz
  refine mg_entryX (Qc := fun A => mg_Ni A) (XC := fun A => mg_X D xIS [mg_ob aL 5 [.ref (h), .ref (hM), .ref (hF), .ref (aS), .ref (qp), .int (nI (pl))], mg_ob h 1 [.ref (qf), .ref (qm), .ref (qr), .int (nI (nf)), .int (nI (nc))], mg_ob hM 2 [.ref (qw), .ref (qra), .ref (qo), .ref (qt), .int (nI (nm)), .int (nI (sg))]] A) (by decide) (Nat.le_of_ble_eq_true rfl) ?_
  intro p e s m args below meth c A ls X hte hlk hA hK hw hSt hl
  have hl : lv_has ls 1 [(0, .ref (aL))] := hl
  have hw6 := mg_ways hnc
  refine mg_aload_n X 1 d_LM_joint_0 (lv_at hl 0 rfl) rfl ?_
  refine mg_get X hK hw 4 0 1 f_LM_19 rfl rfl d_LM_joint_1 rfl ?_
  refine mg_get X hK hw 7 2 4 f_LM_88 rfl rfl d_LM_joint_4 rfl ?_
  refine mg_if_ne X 18 10 (by omega) d_LM_joint_7 (by decide) rfl (fun b1 => absurd b1 (by omega)) (fun b1 => ?_)
  exact mg_throw X hte hlk hw hSt hl0 ex_IS hl.1 d_LM_joint_10 d_LM_joint_13 d_LM_joint_14 d_LM_joint_17 (Nat.zero_le _) (by decide)

set_option maxRecDepth 100000 in
set_option maxHeartbeats 4000000 in
theorem k_LM_oddsX1 (l : Launch) (D : va_G) (K : Nat → ClassId) (aL : Nat) (h : Nat) (hM : Nat) (hF : Nat) (aS : Nat) (qp : Nat) (pl : Nat) (qf : Nat) (qm : Nat) (qr : Nat) (nf : Nat) (nc : Nat) (qw : Nat) (qra : Nat) (qo : Nat) (qt : Nat) (nm : Nat) (sg : Nat) (n1 : Int32) (hl0 : l.stackTraces = false) (hnf : nf ≤ 3) (hnc : nc ≤ 3) (hn : nm ≤ 4) (hsg : sg ≤ 24) (hx : ¬ mg_bt n1 1 1000) : mg_Mxi l D K y_LM_odds b_LM_odds 2 (.int) ({ frames := 6, cells := 1, slots := 6, locals := 142 }) [.ref (aL), .int (n1)] [mg_ob aL 5 [.ref (h), .ref (hM), .ref (hF), .ref (aS), .ref (qp), .int (nI (pl))], mg_ob h 1 [.ref (qf), .ref (qm), .ref (qr), .int (nI (nf)), .int (nI (nc))], mg_ob hM 2 [.ref (qw), .ref (qra), .ref (qo), .ref (qt), .int (nI (nm)), .int (nI (sg))]] xIA := by
  intro sz
  refine mg_entryX (Qc := fun A => mg_Ni A) (XC := fun A => mg_X D xIA [mg_ob aL 5 [.ref (h), .ref (hM), .ref (hF), .ref (aS), .ref (qp), .int (nI (pl))], mg_ob h 1 [.ref (qf), .ref (qm), .ref (qr), .int (nI (nf)), .int (nI (nc))], mg_ob hM 2 [.ref (qw), .ref (qra), .ref (qo), .ref (qt), .int (nI (nm)), .int (nI (sg))]] A) (by decide) (Nat.le_of_ble_eq_true rfl) ?_
  intro p e s m args below meth c A ls X hte hlk hA hK hw hSt hl
  have hl : lv_has ls 2 [(0, .ref (aL)), (1, .int (n1))] := hl
  have hw6 := mg_ways hnc
  refine mg_iload_n X 1 d_LM_odds_0 (lv_at hl 1 rfl) rfl ?_
  refine mg_iconst X 2 1 d_LM_odds_1 mg_ci_1 rfl ?_
  refine mg_icl_r X 12 5 (by decide) d_LM_odds_2 (by decide) rfl (fun hlo => ?_) (fun j lj hj ej => ?_)
  · -- pc 2 t
    exact mg_throw X hte hlk hw hSt hl0 ex_IA hl.1 d_LM_odds_12 d_LM_odds_15 d_LM_odds_16 d_LM_odds_19 (Nat.zero_le _) (by decide)
  · -- pc 2 f
    subst ej
    refine mg_iload_n X 6 d_LM_odds_5 (lv_at hl 1 rfl) rfl ?_
    refine mg_sipush X 9 1000 d_LM_odds_6 mg_cs_1000 rfl ?_
    refine mg_icmp_le X 20 12 (by omega) (by omega) d_LM_odds_9 (by decide) rfl (fun h9 => ?_) (fun h9 => ?_)
    · -- pc 9 t
      exact absurd (mg_bt_in lj h9) hx
    · -- pc 9 f
      exact mg_throw X hte hlk hw hSt hl0 ex_IA hl.1 d_LM_odds_12 d_LM_odds_15 d_LM_odds_16 d_LM_odds_19 (Nat.zero_le _) (by decide)

set_option maxRecDepth 100000 in
set_option maxHeartbeats 4000000 in
theorem k_LM_oddsX2 (l : Launch) (D : va_G) (K : Nat → ClassId) (aL : Nat) (h : Nat) (hM : Nat) (hF : Nat) (aS : Nat) (qp : Nat) (pl : Nat) (qf : Nat) (qm : Nat) (qr : Nat) (nf : Nat) (nc : Nat) (qw : Nat) (qra : Nat) (qo : Nat) (qt : Nat) (nm : Nat) (sg : Nat) (n1 : Nat) (hl0 : l.stackTraces = false) (hnf : nf ≤ 3) (hnc : nc ≤ 3) (hn : nm ≤ 4) (hsg : sg ≤ 24) (hn1 : 1 ≤ n1 ∧ n1 ≤ 1000) (hx : nm = 0) : mg_Mxi l D K y_LM_odds b_LM_odds 2 (.int) ({ frames := 6, cells := 1, slots := 6, locals := 142 }) [.ref (aL), .int (nI (n1))] [mg_ob aL 5 [.ref (h), .ref (hM), .ref (hF), .ref (aS), .ref (qp), .int (nI (pl))], mg_ob h 1 [.ref (qf), .ref (qm), .ref (qr), .int (nI (nf)), .int (nI (nc))], mg_ob hM 2 [.ref (qw), .ref (qra), .ref (qo), .ref (qt), .int (nI (nm)), .int (nI (sg))]] xIS := by
  intro sz
  refine mg_entryX (Qc := fun A => mg_Ni A) (XC := fun A => mg_X D xIS [mg_ob aL 5 [.ref (h), .ref (hM), .ref (hF), .ref (aS), .ref (qp), .int (nI (pl))], mg_ob h 1 [.ref (qf), .ref (qm), .ref (qr), .int (nI (nf)), .int (nI (nc))], mg_ob hM 2 [.ref (qw), .ref (qra), .ref (qo), .ref (qt), .int (nI (nm)), .int (nI (sg))]] A) (by decide) (Nat.le_of_ble_eq_true rfl) ?_
  intro p e s m args below meth c A ls X hte hlk hA hK hw hSt hl
  have hl : lv_has ls 2 [(0, .ref (aL)), (1, .int (nI (n1)))] := hl
  have hw6 := mg_ways hnc
  refine mg_iload_n X 1 d_LM_odds_0 (lv_at hl 1 rfl) rfl ?_
  refine mg_iconst X 2 1 d_LM_odds_1 mg_ci_1 rfl ?_
  refine mg_icmp_lt X 12 5 (by omega) (by omega) d_LM_odds_2 (by decide) rfl (fun b1 => absurd b1 (by omega)) (fun b1 => ?_)
  refine mg_iload_n X 6 d_LM_odds_5 (lv_at hl 1 rfl) rfl ?_
  refine mg_sipush X 9 1000 d_LM_odds_6 mg_cs_1000 rfl ?_
  refine mg_icmp_le X 20 12 (by omega) (by omega) d_LM_odds_9 (by decide) rfl (fun b2 => ?_) (fun b2 => absurd b2 (by omega))
  refine mg_aload_n X 21 d_LM_odds_20 (lv_at hl 0 rfl) rfl ?_
  refine mg_get X hK hw 24 0 1 f_LM_19 rfl rfl d_LM_odds_21 rfl ?_
  refine mg_get X hK hw 27 2 4 f_LM_88 rfl rfl d_LM_odds_24 rfl ?_
  refine mg_if_ne X 38 30 (by omega) d_LM_odds_27 (by decide) rfl (fun b3 => absurd b3 (by omega)) (fun b3 => ?_)
  exact mg_throw X hte hlk hw hSt hl0 ex_IS hl.1 d_LM_odds_30 d_LM_odds_33 d_LM_odds_34 d_LM_odds_37 (Nat.zero_le _) (by decide)

set_option maxRecDepth 100000 in
set_option maxHeartbeats 4000000 in
theorem k_LM_bestX (l : Launch) (D : va_G) (K : Nat → ClassId) (aL : Nat) (h : Nat) (hM : Nat) (hF : Nat) (aS : Nat) (qp : Nat) (pl : Nat) (qf : Nat) (qm : Nat) (qr : Nat) (nf : Nat) (nc : Nat) (qw : Nat) (qra : Nat) (qo : Nat) (qt : Nat) (nm : Nat) (sg : Nat) (g1 : Int32) (hl0 : l.stackTraces = false) (hnf : nf ≤ 3) (hnc : nc ≤ 3) (hn : nm ≤ 4) (hsg : sg ≤ 24) (hx : ¬ mg_lt g1 (nm - 1)) : mg_Mxi l D K y_LM_best b_LM_best 2 (.int) ({ frames := 7, cells := 1, slots := 6, locals := 173 }) [.ref (aL), .int (g1)] [mg_ob aL 5 [.ref (h), .ref (hM), .ref (hF), .ref (aS), .ref (qp), .int (nI (pl))], mg_ob h 1 [.ref (qf), .ref (qm), .ref (qr), .int (nI (nf)), .int (nI (nc))], mg_ob hM 2 [.ref (qw), .ref (qra), .ref (qo), .ref (qt), .int (nI (nm)), .int (nI (sg))]] xIO := by
  intro sz
  refine mg_entryX (Qc := fun A => mg_Ni A) (XC := fun A => mg_X D xIO [mg_ob aL 5 [.ref (h), .ref (hM), .ref (hF), .ref (aS), .ref (qp), .int (nI (pl))], mg_ob h 1 [.ref (qf), .ref (qm), .ref (qr), .int (nI (nf)), .int (nI (nc))], mg_ob hM 2 [.ref (qw), .ref (qra), .ref (qo), .ref (qt), .int (nI (nm)), .int (nI (sg))]] A) (by decide) (Nat.le_of_ble_eq_true rfl) ?_
  intro p e s m args below meth c A ls X hte hlk hA hK hw hSt hl
  have hl : lv_has ls 2 [(0, .ref (aL)), (1, .int (g1))] := hl
  have hw6 := mg_ways hnc
  refine mg_aload_n X 1 d_LM_best_0 (lv_at hl 0 rfl) rfl ?_
  refine mg_get X hK hw 4 0 1 f_LM_19 rfl rfl d_LM_best_1 rfl ?_
  refine mg_iload_n X 5 d_LM_best_4 (lv_at hl 1 rfl) rfl ?_
  refine mg_callVi X hK hw hA 8 [2] 2 (fun _ => [mg_ob aL 5 [.ref (h), .ref (hM), .ref (hF), .ref (aS), .ref (qp), .int (nI (pl))], mg_ob h 1 [.ref (qf), .ref (qm), .ref (qr), .int (nI (nf)), .int (nI (nc))], mg_ob hM 2 [.ref (qw), .ref (qra), .ref (qo), .ref (qt), .int (nI (nm)), .int (nI (sg))]]) rfl rfl (k_Ma_hasGap l D K hM qw qra qo qt nm sg g1 (by first | exact hn | omega)) g_LM_99 ⟨by decide, by decide⟩ ⟨rfl, rfl⟩ rfl rfl rfl hl.1 (rest := []) (As := [.int (g1)]) rfl (Nat.le_of_ble_eq_true rfl) d_LM_best_5 ⟨Nat.zero_le _, Nat.zero_le _⟩ (fun _ => rfl) (fun _ => rfl) rfl ?_
  intro r _ H locs hp2 hw
  subst hp2
  refine mg_bif_ne X 19 11 d_LM_best_8 (by decide) rfl (fun b3 => absurd b3 (hx)) (fun _ => ?_)
  exact mg_throw X hte hlk hw hSt hl0 ex_IO hl.1 d_LM_best_11 d_LM_best_14 d_LM_best_15 d_LM_best_18 (Nat.zero_le _) (by decide)

set_option maxRecDepth 100000 in
set_option maxHeartbeats 4000000 in
theorem k_LM_turnedX (l : Launch) (D : va_G) (K : Nat → ClassId) (aL : Nat) (h : Nat) (hM : Nat) (hF : Nat) (aS : Nat) (qp : Nat) (pl : Nat) (qf : Nat) (qm : Nat) (qr : Nat) (nf : Nat) (nc : Nat) (qw : Nat) (qra : Nat) (qo : Nat) (qt : Nat) (nm : Nat) (sg : Nat) (m1 : Int32) (b1 : Int32) (hl0 : l.stackTraces = false) (hnf : nf ≤ 3) (hnc : nc ≤ 3) (hn : nm ≤ 4) (hsg : sg ≤ 24) (hx : ¬ (mg_lt m1 nm ∧ mg_lt b1 (2 * nc))) : mg_Mxi l D K y_LM_turned b_LM_turned 3 (.int) ({ frames := 6, cells := 1, slots := 6, locals := 142 }) [.ref (aL), .int (m1), .int (b1)] [mg_ob aL 5 [.ref (h), .ref (hM), .ref (hF), .ref (aS), .ref (qp), .int (nI (pl))], mg_ob h 1 [.ref (qf), .ref (qm), .ref (qr), .int (nI (nf)), .int (nI (nc))], mg_ob hM 2 [.ref (qw), .ref (qra), .ref (qo), .ref (qt), .int (nI (nm)), .int (nI (sg))]] xIO := by
  intro sz
  refine mg_entryX (Qc := fun A => mg_Ni A) (XC := fun A => mg_X D xIO [mg_ob aL 5 [.ref (h), .ref (hM), .ref (hF), .ref (aS), .ref (qp), .int (nI (pl))], mg_ob h 1 [.ref (qf), .ref (qm), .ref (qr), .int (nI (nf)), .int (nI (nc))], mg_ob hM 2 [.ref (qw), .ref (qra), .ref (qo), .ref (qt), .int (nI (nm)), .int (nI (sg))]] A) (by decide) (Nat.le_of_ble_eq_true rfl) ?_
  intro p e s m args below meth c A ls X hte hlk hA hK hw hSt hl
  have hl : lv_has ls 3 [(0, .ref (aL)), (1, .int (m1)), (2, .int (b1))] := hl
  have hw6 := mg_ways hnc
  refine mg_aload_n X 1 d_LM_turned_0 (lv_at hl 0 rfl) rfl ?_
  refine mg_get X hK hw 4 0 1 f_LM_19 rfl rfl d_LM_turned_1 rfl ?_
  refine mg_iload_n X 5 d_LM_turned_4 (lv_at hl 1 rfl) rfl ?_
  refine mg_callVi X hK hw hA 8 [2] 2 (fun _ => [mg_ob aL 5 [.ref (h), .ref (hM), .ref (hF), .ref (aS), .ref (qp), .int (nI (pl))], mg_ob h 1 [.ref (qf), .ref (qm), .ref (qr), .int (nI (nf)), .int (nI (nc))], mg_ob hM 2 [.ref (qw), .ref (qra), .ref (qo), .ref (qt), .int (nI (nm)), .int (nI (sg))]]) rfl rfl (k_Ma_hasMarker l D K hM qw qra qo qt nm sg m1 (by first | exact hn | omega)) g_LM_109 ⟨by decide, by decide⟩ ⟨rfl, rfl⟩ rfl rfl rfl hl.1 (rest := []) (As := [.int (m1)]) rfl (Nat.le_of_ble_eq_true rfl) d_LM_turned_5 ⟨Nat.zero_le _, Nat.zero_le _⟩ (fun _ => rfl) (fun _ => rfl) rfl ?_
  intro r _ H locs hp2 hw
  subst hp2
  refine mg_bif_eq X 26 11 d_LM_turned_8 (by decide) rfl (fun b3 => ?_) (fun b3 => ?_)
  · -- pc 8 t
    exact mg_throw X hte hlk hw hSt hl0 ex_IO hl.1 d_LM_turned_26 d_LM_turned_29 d_LM_turned_30 d_LM_turned_33 (Nat.zero_le _) (by decide)
  · -- pc 8 f
    obtain ⟨jm1, hm1, rfl⟩ := b3
    refine mg_iload_n X 12 d_LM_turned_11 (lv_at hl 2 rfl) rfl ?_
    refine mg_iflt_r X 26 15 d_LM_turned_12 (by decide) rfl (fun b4 => ?_) (fun j hj ej => ?_)
    · -- pc 12 t
      exact mg_throw X hte hlk hw hSt hl0 ex_IO hl.1 d_LM_turned_26 d_LM_turned_29 d_LM_turned_30 d_LM_turned_33 (Nat.zero_le _) (by decide)
    · -- pc 12 f
      subst ej
      refine mg_iload_n X 16 d_LM_turned_15 (lv_at hl 2 rfl) rfl ?_
      refine mg_aload_n X 17 d_LM_turned_16 (lv_at hl 0 rfl) rfl ?_
      refine mg_get X hK hw 20 0 0 f_LM_12 rfl rfl d_LM_turned_17 rfl ?_
      refine mg_callVi X hK hw hA 23 [1] 1 (fun _ => [mg_ob aL 5 [.ref (h), .ref (hM), .ref (hF), .ref (aS), .ref (qp), .int (nI (pl))], mg_ob h 1 [.ref (qf), .ref (qm), .ref (qr), .int (nI (nf)), .int (nI (nc))], mg_ob hM 2 [.ref (qw), .ref (qra), .ref (qo), .ref (qt), .int (nI (nm)), .int (nI (sg))]]) rfl rfl (k_Fa_bits l D K h qf qm qr nf nc ) g_LM_175 ⟨by decide, by decide⟩ ⟨rfl, rfl⟩ rfl rfl rfl hl.1 (rest := [.int (nI (j))]) (As := []) rfl (Nat.le_of_ble_eq_true rfl) d_LM_turned_20 ⟨Nat.zero_le _, Nat.zero_le _⟩ (fun _ => rfl) (fun _ => rfl) rfl ?_
      intro r _ H locs hp6 hw
      subst hp6
      refine mg_icmp_lt X 34 26 (by omega) (by omega) d_LM_turned_23 (by decide) rfl (fun h9 => ?_) (fun h9 => ?_)
      · -- pc 23 t
        exact absurd ⟨⟨jm1, hm1, rfl⟩, ⟨j, h9, rfl⟩⟩ hx
      · -- pc 23 f
        exact mg_throw X hte hlk hw hSt hl0 ex_IO hl.1 d_LM_turned_26 d_LM_turned_29 d_LM_turned_30 d_LM_turned_33 (Nat.zero_le _) (by decide)

set_option maxRecDepth 100000 in
set_option maxHeartbeats 4000000 in
theorem k_LM_sharedX (l : Launch) (D : va_G) (K : Nat → ClassId) (aL : Nat) (h : Nat) (hM : Nat) (hF : Nat) (aS : Nat) (qp : Nat) (pl : Nat) (qf : Nat) (qm : Nat) (qr : Nat) (nf : Nat) (nc : Nat) (qw : Nat) (qra : Nat) (qo : Nat) (qt : Nat) (nm : Nat) (sg : Nat) (m1 : Int32) (p1 : Int32) (p2 : Int32) (hl0 : l.stackTraces = false) (hnf : nf ≤ 3) (hnc : nc ≤ 3) (hn : nm ≤ 4) (hsg : sg ≤ 24) (hx : ¬ (mg_lt m1 nm ∧ mg_lt p1 (nf + nc) ∧ mg_lt p2 (nf + nc))) : mg_Mxi l D K y_LM_shared b_LM_shared 4 (.int) ({ frames := 6, cells := 1, slots := 6, locals := 142 }) [.ref (aL), .int (m1), .int (p1), .int (p2)] [mg_ob aL 5 [.ref (h), .ref (hM), .ref (hF), .ref (aS), .ref (qp), .int (nI (pl))], mg_ob h 1 [.ref (qf), .ref (qm), .ref (qr), .int (nI (nf)), .int (nI (nc))], mg_ob hM 2 [.ref (qw), .ref (qra), .ref (qo), .ref (qt), .int (nI (nm)), .int (nI (sg))]] xIO := by
  intro sz
  refine mg_entryX (Qc := fun A => mg_Ni A) (XC := fun A => mg_X D xIO [mg_ob aL 5 [.ref (h), .ref (hM), .ref (hF), .ref (aS), .ref (qp), .int (nI (pl))], mg_ob h 1 [.ref (qf), .ref (qm), .ref (qr), .int (nI (nf)), .int (nI (nc))], mg_ob hM 2 [.ref (qw), .ref (qra), .ref (qo), .ref (qt), .int (nI (nm)), .int (nI (sg))]] A) (by decide) (Nat.le_of_ble_eq_true rfl) ?_
  intro p e s m args below meth c A ls X hte hlk hA hK hw hSt hl
  have hl : lv_has ls 4 [(0, .ref (aL)), (1, .int (m1)), (2, .int (p1)), (3, .int (p2))] := hl
  have hw6 := mg_ways hnc
  refine mg_aload_n X 1 d_LM_shared_0 (lv_at hl 0 rfl) rfl ?_
  refine mg_get X hK hw 4 0 1 f_LM_19 rfl rfl d_LM_shared_1 rfl ?_
  refine mg_iload_n X 5 d_LM_shared_4 (lv_at hl 1 rfl) rfl ?_
  refine mg_callVi X hK hw hA 8 [2] 2 (fun _ => [mg_ob aL 5 [.ref (h), .ref (hM), .ref (hF), .ref (aS), .ref (qp), .int (nI (pl))], mg_ob h 1 [.ref (qf), .ref (qm), .ref (qr), .int (nI (nf)), .int (nI (nc))], mg_ob hM 2 [.ref (qw), .ref (qra), .ref (qo), .ref (qt), .int (nI (nm)), .int (nI (sg))]]) rfl rfl (k_Ma_hasMarker l D K hM qw qra qo qt nm sg m1 (by first | exact hn | omega)) g_LM_109 ⟨by decide, by decide⟩ ⟨rfl, rfl⟩ rfl rfl rfl hl.1 (rest := []) (As := [.int (m1)]) rfl (Nat.le_of_ble_eq_true rfl) d_LM_shared_5 ⟨Nat.zero_le _, Nat.zero_le _⟩ (fun _ => rfl) (fun _ => rfl) rfl ?_
  intro r _ H locs hp2 hw
  subst hp2
  refine mg_bif_eq X 33 11 d_LM_shared_8 (by decide) rfl (fun b3 => ?_) (fun b3 => ?_)
  · -- pc 8 t
    exact mg_throw X hte hlk hw hSt hl0 ex_IO hl.1 d_LM_shared_33 d_LM_shared_36 d_LM_shared_37 d_LM_shared_40 (Nat.zero_le _) (by decide)
  · -- pc 8 f
    obtain ⟨jm1, hm1, rfl⟩ := b3
    refine mg_aload_n X 12 d_LM_shared_11 (lv_at hl 0 rfl) rfl ?_
    refine mg_get X hK hw 15 0 0 f_LM_12 rfl rfl d_LM_shared_12 rfl ?_
    refine mg_iload_n X 16 d_LM_shared_15 (lv_at hl 2 rfl) rfl ?_
    refine mg_callVi X hK hw hA 19 [1] 1 (fun _ => [mg_ob aL 5 [.ref (h), .ref (hM), .ref (hF), .ref (aS), .ref (qp), .int (nI (pl))], mg_ob h 1 [.ref (qf), .ref (qm), .ref (qr), .int (nI (nf)), .int (nI (nc))], mg_ob hM 2 [.ref (qw), .ref (qra), .ref (qo), .ref (qt), .int (nI (nm)), .int (nI (sg))]]) rfl rfl (k_Fa_hasPerson l D K h qf qm qr nf nc p1 (by first | exact hnf | omega) (by first | exact hnc | omega)) g_LM_67 ⟨by decide, by decide⟩ ⟨rfl, rfl⟩ rfl rfl rfl hl.1 (rest := []) (As := [.int (p1)]) rfl (Nat.le_of_ble_eq_true rfl) d_LM_shared_16 ⟨Nat.zero_le _, Nat.zero_le _⟩ (fun _ => rfl) (fun _ => rfl) rfl ?_
    intro r _ H locs hp5 hw
    subst hp5
    refine mg_bif_eq X 33 22 d_LM_shared_19 (by decide) rfl (fun b6 => ?_) (fun b6 => ?_)
    · -- pc 19 t
      exact mg_throw X hte hlk hw hSt hl0 ex_IO hl.1 d_LM_shared_33 d_LM_shared_36 d_LM_shared_37 d_LM_shared_40 (Nat.zero_le _) (by decide)
    · -- pc 19 f
      obtain ⟨jp1, hp1, rfl⟩ := b6
      refine mg_aload_n X 23 d_LM_shared_22 (lv_at hl 0 rfl) rfl ?_
      refine mg_get X hK hw 26 0 0 f_LM_12 rfl rfl d_LM_shared_23 rfl ?_
      refine mg_iload_n X 27 d_LM_shared_26 (lv_at hl 3 rfl) rfl ?_
      refine mg_callVi X hK hw hA 30 [1] 1 (fun _ => [mg_ob aL 5 [.ref (h), .ref (hM), .ref (hF), .ref (aS), .ref (qp), .int (nI (pl))], mg_ob h 1 [.ref (qf), .ref (qm), .ref (qr), .int (nI (nf)), .int (nI (nc))], mg_ob hM 2 [.ref (qw), .ref (qra), .ref (qo), .ref (qt), .int (nI (nm)), .int (nI (sg))]]) rfl rfl (k_Fa_hasPerson l D K h qf qm qr nf nc p2 (by first | exact hnf | omega) (by first | exact hnc | omega)) g_LM_67 ⟨by decide, by decide⟩ ⟨rfl, rfl⟩ rfl rfl rfl hl.1 (rest := []) (As := [.int (p2)]) rfl (Nat.le_of_ble_eq_true rfl) d_LM_shared_27 ⟨Nat.zero_le _, Nat.zero_le _⟩ (fun _ => rfl) (fun _ => rfl) rfl ?_
      intro r _ H locs hp8 hw
      subst hp8
      refine mg_bif_ne X 41 33 d_LM_shared_30 (by decide) rfl (fun b9 => ?_) (fun b9 => ?_)
      · -- pc 30 t
        obtain ⟨jp2, hp2, rfl⟩ := b9
        exact absurd ⟨⟨jm1, hm1, rfl⟩, ⟨jp1, hp1, rfl⟩, ⟨jp2, hp2, rfl⟩⟩ hx
      · -- pc 30 f
        exact mg_throw X hte hlk hw hSt hl0 ex_IO hl.1 d_LM_shared_33 d_LM_shared_36 d_LM_shared_37 d_LM_shared_40 (Nat.zero_le _) (by decide)

set_option maxRecDepth 100000 in
set_option maxHeartbeats 4000000 in
theorem k_LM_likelyX (l : Launch) (D : va_G) (K : Nat → ClassId) (aL : Nat) (h : Nat) (hM : Nat) (hF : Nat) (aS : Nat) (qp : Nat) (pl : Nat) (qf : Nat) (qm : Nat) (qr : Nat) (nf : Nat) (nc : Nat) (qw : Nat) (qra : Nat) (qo : Nat) (qt : Nat) (nm : Nat) (sg : Nat) (m1 : Int32) (hl0 : l.stackTraces = false) (hnf : nf ≤ 3) (hnc : nc ≤ 3) (hn : nm ≤ 4) (hsg : sg ≤ 24) (hx : ¬ mg_lt m1 nm) : mg_Mxi l D K y_LM_likely b_LM_likely 2 (.int) ({ frames := 6, cells := 1, slots := 6, locals := 142 }) [.ref (aL), .int (m1)] [mg_ob aL 5 [.ref (h), .ref (hM), .ref (hF), .ref (aS), .ref (qp), .int (nI (pl))], mg_ob h 1 [.ref (qf), .ref (qm), .ref (qr), .int (nI (nf)), .int (nI (nc))], mg_ob hM 2 [.ref (qw), .ref (qra), .ref (qo), .ref (qt), .int (nI (nm)), .int (nI (sg))]] xIO := by
  intro sz
  refine mg_entryX (Qc := fun A => mg_Ni A) (XC := fun A => mg_X D xIO [mg_ob aL 5 [.ref (h), .ref (hM), .ref (hF), .ref (aS), .ref (qp), .int (nI (pl))], mg_ob h 1 [.ref (qf), .ref (qm), .ref (qr), .int (nI (nf)), .int (nI (nc))], mg_ob hM 2 [.ref (qw), .ref (qra), .ref (qo), .ref (qt), .int (nI (nm)), .int (nI (sg))]] A) (by decide) (Nat.le_of_ble_eq_true rfl) ?_
  intro p e s m args below meth c A ls X hte hlk hA hK hw hSt hl
  have hl : lv_has ls 2 [(0, .ref (aL)), (1, .int (m1))] := hl
  have hw6 := mg_ways hnc
  refine mg_aload_n X 1 d_LM_likely_0 (lv_at hl 0 rfl) rfl ?_
  refine mg_get X hK hw 4 0 1 f_LM_19 rfl rfl d_LM_likely_1 rfl ?_
  refine mg_iload_n X 5 d_LM_likely_4 (lv_at hl 1 rfl) rfl ?_
  refine mg_callVi X hK hw hA 8 [2] 2 (fun _ => [mg_ob aL 5 [.ref (h), .ref (hM), .ref (hF), .ref (aS), .ref (qp), .int (nI (pl))], mg_ob h 1 [.ref (qf), .ref (qm), .ref (qr), .int (nI (nf)), .int (nI (nc))], mg_ob hM 2 [.ref (qw), .ref (qra), .ref (qo), .ref (qt), .int (nI (nm)), .int (nI (sg))]]) rfl rfl (k_Ma_hasMarker l D K hM qw qra qo qt nm sg m1 (by first | exact hn | omega)) g_LM_109 ⟨by decide, by decide⟩ ⟨rfl, rfl⟩ rfl rfl rfl hl.1 (rest := []) (As := [.int (m1)]) rfl (Nat.le_of_ble_eq_true rfl) d_LM_likely_5 ⟨Nat.zero_le _, Nat.zero_le _⟩ (fun _ => rfl) (fun _ => rfl) rfl ?_
  intro r _ H locs hp2 hw
  subst hp2
  refine mg_bif_ne X 19 11 d_LM_likely_8 (by decide) rfl (fun b3 => absurd b3 (hx)) (fun _ => ?_)
  exact mg_throw X hte hlk hw hSt hl0 ex_IO hl.1 d_LM_likely_11 d_LM_likely_14 d_LM_likely_15 d_LM_likely_18 (Nat.zero_le _) (by decide)

set_option maxRecDepth 100000 in
set_option maxHeartbeats 4000000 in
theorem k_LM_joint (l : Launch) (D : va_G) (K : Nat → ClassId) (aL : Nat) (h : Nat) (hM : Nat) (hF : Nat) (aS : Nat) (qp : Nat) (pl : Nat) (qf : Nat) (qm : Nat) (qr : Nat) (nf : Nat) (nc : Nat) (qtb : Nat) (ql : Nat) (qw : Nat) (qra : Nat) (qo : Nat) (qt : Nat) (nm : Nat) (sg : Nat) (qsr : Nat) (aB : Nat) (aE : Nat) (aQ : Nat) (aT : Nat) (qB : Nat) (qT : Nat) (rt : Nat → Nat) (tb : Nat → Nat) (sr : Nat → Nat) (dB : Nat → Nat) (VB : Nat → Nat) (dT : Nat → Nat) (VT : Nat → Nat) (pg : Nat → Nat) (hnc : nc ≤ 3) (hm4 : nm ≤ 4) (hrt : ∀ i, i + 1 < nm → rt i ≤ 16) (hTb : ∀ i w, i < nm → w < 2 ^ (2 * nc) → su_F tb i w ≤ 2 ^ 18) (hRB : am_R 64 dB VB) (hRT : am_R 4 dT VT) (h0 : 0 < nm) : mg_MiS l D K y_LM_joint b_LM_joint 1 (.int) ({ frames := 6, cells := 0, slots := 0, locals := 142 }) [.ref (aL)] [mg_ob aL 5 [.ref (h), .ref (hM), .ref (hF), .ref (aS), .ref (qp), .int (nI (pl))], mg_ac K qp 54 pg, mg_ob aS 4 [.ref (h), .ref (hM), .ref (hF), .ref (qsr), .ref (aB), .ref (aE), .ref (aQ), .ref (aT)], mg_ob h 1 [.ref (qf), .ref (qm), .ref (qr), .int (nI (nf)), .int (nI (nc))], mg_ob hM 2 [.ref (qw), .ref (qra), .ref (qo), .ref (qt), .int (nI (nm)), .int (nI (sg))], mg_ai K qra 3 rt, mg_ob hF 3 [.ref (h), .ref (hM), .ref (qtb), .ref (ql)], mg_ai K qtb 256 tb, mg_ai K qsr 3 sr, mg_ob aB 0 [.ref (qB)], mg_al K qB (64 * 6) dB, mg_ob aT 0 [.ref (qT)], mg_al K qT (4 * 6) dT] (fun (r : Int32) (uu : (Nat) × (Nat → Nat) × (Nat → Nat) × (Nat → Nat) × (Nat → Nat) × (Nat → Nat)) => r = nI uu.1 ∧ am_R 64 uu.2.2.1 uu.2.2.2.1 ∧ am_R 4 uu.2.2.2.2.1 uu.2.2.2.2.2 ∧ de_ok (jn_J (2 * nc) (su_pt rt sr (nm - 1)) (su_F tb) (nm - 1)) uu.1 ∧ uu.1 ≤ 54 ∧ (∀ j, j < uu.1 → uu.2.1 j = de_d (jn_J (2 * nc) (su_pt rt sr (nm - 1)) (su_F tb) (nm - 1)) (uu.1 - 1 - j))) (fun (uu : (Nat) × (Nat → Nat) × (Nat → Nat) × (Nat → Nat) × (Nat → Nat) × (Nat → Nat)) => [mg_ob aL 5 [.ref (h), .ref (hM), .ref (hF), .ref (aS), .ref (qp), .int (nI (uu.1))], mg_ac K qp 54 uu.2.1, mg_ob aS 4 [.ref (h), .ref (hM), .ref (hF), .ref (qsr), .ref (aB), .ref (aE), .ref (aQ), .ref (aT)], mg_ob h 1 [.ref (qf), .ref (qm), .ref (qr), .int (nI (nf)), .int (nI (nc))], mg_ob hM 2 [.ref (qw), .ref (qra), .ref (qo), .ref (qt), .int (nI (nm)), .int (nI (sg))], mg_ai K qra 3 rt, mg_ob hF 3 [.ref (h), .ref (hM), .ref (qtb), .ref (ql)], mg_ai K qtb 256 tb, mg_ai K qsr 3 (su_pt rt sr (nm - 1)), mg_ob aB 0 [.ref (qB)], mg_al K qB (64 * 6) uu.2.2.1, mg_ob aT 0 [.ref (qT)], mg_al K qT (4 * 6) uu.2.2.2.2.1]) := by
  intro sz
  refine mg_entryS (Qc := fun A => va_Qi (fun (r : Int32) (uu : (Nat) × (Nat → Nat) × (Nat → Nat) × (Nat → Nat) × (Nat → Nat) × (Nat → Nat)) => r = nI uu.1 ∧ am_R 64 uu.2.2.1 uu.2.2.2.1 ∧ am_R 4 uu.2.2.2.2.1 uu.2.2.2.2.2 ∧ de_ok (jn_J (2 * nc) (su_pt rt sr (nm - 1)) (su_F tb) (nm - 1)) uu.1 ∧ uu.1 ≤ 54 ∧ (∀ j, j < uu.1 → uu.2.1 j = de_d (jn_J (2 * nc) (su_pt rt sr (nm - 1)) (su_F tb) (nm - 1)) (uu.1 - 1 - j))) (mg_B D A (fun (uu : (Nat) × (Nat → Nat) × (Nat → Nat) × (Nat → Nat) × (Nat → Nat) × (Nat → Nat)) => [mg_ob aL 5 [.ref (h), .ref (hM), .ref (hF), .ref (aS), .ref (qp), .int (nI (uu.1))], mg_ac K qp 54 uu.2.1, mg_ob aS 4 [.ref (h), .ref (hM), .ref (hF), .ref (qsr), .ref (aB), .ref (aE), .ref (aQ), .ref (aT)], mg_ob h 1 [.ref (qf), .ref (qm), .ref (qr), .int (nI (nf)), .int (nI (nc))], mg_ob hM 2 [.ref (qw), .ref (qra), .ref (qo), .ref (qt), .int (nI (nm)), .int (nI (sg))], mg_ai K qra 3 rt, mg_ob hF 3 [.ref (h), .ref (hM), .ref (qtb), .ref (ql)], mg_ai K qtb 256 tb, mg_ai K qsr 3 (su_pt rt sr (nm - 1)), mg_ob aB 0 [.ref (qB)], mg_al K qB (64 * 6) uu.2.2.1, mg_ob aT 0 [.ref (qT)], mg_al K qT (4 * 6) uu.2.2.2.2.1])) A) (by decide) (Nat.le_of_ble_eq_true rfl) ?_
  intro p e s m args below meth c A ls X hr hlk hnm hA hK hw hSt hl
  have hl : lv_has ls 1 [(0, .ref (aL))] := hl
  have hw6 := mg_ways hnc
  refine mg_aload_n X 1 d_LM_joint_0 (lv_at hl 0 rfl) rfl ?_
  refine mg_get X hK hw 4 0 1 f_LM_19 rfl rfl d_LM_joint_1 rfl ?_
  refine mg_get X hK hw 7 4 4 f_LM_88 rfl rfl d_LM_joint_4 rfl ?_
  refine mg_if_ne X 18 10 (by omega) d_LM_joint_7 (by decide) rfl (fun b1 => ?_) (fun b1 => absurd b1 (by omega))
  refine mg_aload_n X 19 d_LM_joint_18 (lv_at hl 0 rfl) rfl ?_
  refine mg_get X hK hw 22 0 3 f_LM_37 rfl rfl d_LM_joint_19 rfl ?_
  refine mg_callVv X hK hw hA 25 [2, 8, 4, 5] 2 (fun _ => [mg_ob aL 5 [.ref (h), .ref (hM), .ref (hF), .ref (aS), .ref (qp), .int (nI (pl))], mg_ac K qp 54 pg, mg_ob aS 4 [.ref (h), .ref (hM), .ref (hF), .ref (qsr), .ref (aB), .ref (aE), .ref (aQ), .ref (aT)], mg_ob h 1 [.ref (qf), .ref (qm), .ref (qr), .int (nI (nf)), .int (nI (nc))], mg_ob hM 2 [.ref (qw), .ref (qra), .ref (qo), .ref (qt), .int (nI (nm)), .int (nI (sg))], mg_ai K qra 3 rt, mg_ob hF 3 [.ref (h), .ref (hM), .ref (qtb), .ref (ql)], mg_ai K qtb 256 tb, mg_ai K qsr 3 (su_pt rt sr (nm - 1)), mg_ob aB 0 [.ref (qB)], mg_al K qB (64 * 6) dB, mg_ob aT 0 [.ref (qT)], mg_al K qT (4 * 6) dT]) rfl rfl (k_Su_takeRates l D K aS h hM hF qsr aB aE aQ aT qw qra qo qt nm sg sr rt (by first | exact hm4 | omega)) g_LM_145 ⟨by decide, by decide⟩ ⟨rfl, rfl⟩ rfl rfl rfl hl.1 (rest := []) (As := []) rfl (Nat.le_of_ble_eq_true rfl) d_LM_joint_22 ⟨Nat.zero_le _, Nat.zero_le _⟩ (fun _ => rfl) (fun _ => rfl) rfl ?_
  intro _ H locs hp3 hw
  refine mg_aload_n X 26 d_LM_joint_25 (lv_at hl 0 rfl) rfl ?_
  refine mg_get X hK hw 29 0 3 f_LM_37 rfl rfl d_LM_joint_26 rfl ?_
  refine mg_iconst X 30 0 d_LM_joint_29 mg_ci_0 rfl ?_
  refine mg_callVv X hK hw hA 33 [2, 3, 4, 6, 7, 8, 9, 10, 11, 12] 2 (fun uu => [mg_ob aL 5 [.ref (h), .ref (hM), .ref (hF), .ref (aS), .ref (qp), .int (nI (pl))], mg_ac K qp 54 pg, mg_ob aS 4 [.ref (h), .ref (hM), .ref (hF), .ref (qsr), .ref (aB), .ref (aE), .ref (aQ), .ref (aT)], mg_ob h 1 [.ref (qf), .ref (qm), .ref (qr), .int (nI (nf)), .int (nI (nc))], mg_ob hM 2 [.ref (qw), .ref (qra), .ref (qo), .ref (qt), .int (nI (nm)), .int (nI (sg))], mg_ai K qra 3 rt, mg_ob hF 3 [.ref (h), .ref (hM), .ref (qtb), .ref (ql)], mg_ai K qtb 256 tb, mg_ai K qsr 3 (su_pt rt sr (nm - 1)), mg_ob aB 0 [.ref (qB)], mg_al K qB (64 * 6) uu.1, mg_ob aT 0 [.ref (qT)], mg_al K qT (4 * 6) uu.2.2]) rfl rfl (k_Su_sumTo l D K aS h hM hF qsr aB aE aQ aT qf qm qr nf nc qtb ql qw qra qo qt nm sg qB qT 0 tb (su_pt rt sr (nm - 1)) dB VB dT VT (by first | exact hnc | omega) (by first | exact hm4 | omega) (fun i hi => by rw [su_ptl _ _ (by omega)]; exact hrt i hi) (by first | exact hTb | omega) (hRB) (hRT) (by omega) (by first | exact h0 | omega)) g_LM_148 ⟨by decide, by decide⟩ ⟨rfl, rfl⟩ rfl rfl rfl hl.1 (rest := []) (As := [.int (nI (0))]) rfl (Nat.le_of_ble_eq_true rfl) d_LM_joint_30 ⟨Nat.zero_le _, Nat.zero_le _⟩ (fun _ => rfl) (fun _ => rfl) rfl ?_
  intro u H locs hp5 hw
  obtain ⟨u4, V14, uT4⟩ := u
  dsimp only at hp5 hw
  have hz0 : (va_up VT 0 (jn_J (2 * nc) (su_pt rt sr (nm - 1)) (su_F tb) (nm - 1))) 0 = jn_J (2 * nc) (su_pt rt sr (nm - 1)) (su_F tb) (nm - 1) := va_up_self ..
  have hJ := su_J_le (F := su_F tb) (by omega) hm4 h0 (fun i (hi : i + 1 < nm) => show (su_pt rt sr (nm - 1)) i ≤ 16 by rw [su_ptl _ _ (by omega)]; exact hrt i hi) hTb
  refine mg_aload_n X 34 d_LM_joint_33 (lv_at hl 0 rfl) rfl ?_
  refine mg_aload_n X 35 d_LM_joint_34 (lv_at hl 0 rfl) rfl ?_
  refine mg_get X hK hw 38 0 3 f_LM_37 rfl rfl d_LM_joint_35 rfl ?_
  refine mg_get X hK hw 41 2 7 f_LM_151 rfl rfl d_LM_joint_38 rfl ?_
  refine mg_iconst X 42 0 d_LM_joint_41 mg_ci_0 rfl ?_
  refine mg_aload_n X 43 d_LM_joint_42 (lv_at hl 0 rfl) rfl ?_
  refine mg_get X hK hw 46 0 4 f_LM_43 rfl rfl d_LM_joint_43 rfl ?_
  refine mg_callVS X hK hw hA hSt 49 [11, 12, 1] 11 (fun uu => [mg_ob aL 5 [.ref (h), .ref (hM), .ref (hF), .ref (aS), .ref (qp), .int (nI (pl))], mg_ac K qp 54 uu.2, mg_ob aS 4 [.ref (h), .ref (hM), .ref (hF), .ref (qsr), .ref (aB), .ref (aE), .ref (aQ), .ref (aT)], mg_ob h 1 [.ref (qf), .ref (qm), .ref (qr), .int (nI (nf)), .int (nI (nc))], mg_ob hM 2 [.ref (qw), .ref (qra), .ref (qo), .ref (qt), .int (nI (nm)), .int (nI (sg))], mg_ai K qra 3 rt, mg_ob hF 3 [.ref (h), .ref (hM), .ref (qtb), .ref (ql)], mg_ai K qtb 256 tb, mg_ai K qsr 3 (su_pt rt sr (nm - 1)), mg_ob aB 0 [.ref (qB)], mg_al K qB (64 * 6) u4, mg_ob aT 0 [.ref (qT)], mg_al K qT (4 * 6) uT4]) rfl rfl (k_Am_write l D K aT qT 4 0 qp uT4 (va_up VT 0 (jn_J (2 * nc) (su_pt rt sr (nm - 1)) (su_F tb) (nm - 1))) pg (by omega) (hp5.2) (by omega) (by rw [hz0]; exact Nat.lt_of_le_of_lt hJ de_big)) g_LM_155 ⟨by decide, by decide⟩ ⟨rfl, rfl⟩ rfl rfl rfl hl.1 (rest := [.ref (aL)]) (As := [.int (nI (0)), .ref (qp)]) rfl (Nat.le_of_ble_eq_true rfl) d_LM_joint_46 ⟨Nat.zero_le _, Nat.zero_le _⟩ (fun _ => rfl) (fun _ => rfl) rfl ?_
  intro r u H locs hq9 hw
  obtain ⟨nx, pgx⟩ := u
  dsimp only at hq9 hw
  obtain ⟨rfl, hq9⟩ := hq9
  rw [hz0] at hq9
  refine mg_put X hK hw 52 0 5 [mg_ob aL 5 [.ref (h), .ref (hM), .ref (hF), .ref (aS), .ref (qp), .int (nI (nx))], mg_ac K qp 54 pgx, mg_ob aS 4 [.ref (h), .ref (hM), .ref (hF), .ref (qsr), .ref (aB), .ref (aE), .ref (aQ), .ref (aT)], mg_ob h 1 [.ref (qf), .ref (qm), .ref (qr), .int (nI (nf)), .int (nI (nc))], mg_ob hM 2 [.ref (qw), .ref (qra), .ref (qo), .ref (qt), .int (nI (nm)), .int (nI (sg))], mg_ai K qra 3 rt, mg_ob hF 3 [.ref (h), .ref (hM), .ref (qtb), .ref (ql)], mg_ai K qtb 256 tb, mg_ai K qsr 3 (su_pt rt sr (nm - 1)), mg_ob aB 0 [.ref (qB)], mg_al K qB (64 * 6) u4, mg_ob aT 0 [.ref (qT)], mg_al K qT (4 * 6) uT4] fp_LM_47 rfl (Nat.le_of_ble_eq_true rfl) rfl rfl d_LM_joint_49 rfl rfl (fun H locs hw => ?_)
  refine mg_aload_n X 53 d_LM_joint_52 (lv_at hl 0 rfl) rfl ?_
  refine mg_get X hK hw 56 0 5 f_LM_47 rfl rfl d_LM_joint_53 rfl ?_
  exact mg_iret X hr hlk (rfl) ((nx, pgx, u4, V14, uT4, va_up VT 0 (jn_J (2 * nc) (su_pt rt sr (nm - 1)) (su_F tb) (nm - 1)))) (⟨rfl, hp5.1, hp5.2, hq9⟩) hw d_LM_joint_56
