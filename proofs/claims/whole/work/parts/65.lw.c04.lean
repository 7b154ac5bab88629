set_option maxRecDepth 100000 in
set_option maxHeartbeats 4000000 in
theorem lw_c4 {p : Program} {l : Launch} {e : Env} {s : State} {m : MethodId} {args : Array Value} {below : List Frame} {meth : Method} {c : Code} {Q : State → Prop} {D : va_G} {K : Nat → ClassId} {A : Nat → Prop} {b L : Nat} {xs : Nat → Int32} {i cs sl : Nat} {ls : Array Slot} {H : Heap} {locs : List Loc} (aL h qf qm qr hM qw qra qo qt hF qtb ql aS qsr aB qB aE qE aQ qQ aT qT qp mh qor qfa qmo qwt qrt qnw qsn qlt qkn qft qbf qbh qjt qot qsm qpt qpr qch qbt qpg qz : Nat) (pl nf nc nm sg np flt : Nat) (fa mo rk wt rt ol tl tb dB VB dE VE dQ VQ dT VT pg mw mr sn kn ftb eB UB eE UE eJ UJ eO UO eS US eP UP eQ UQ pp sr nw lt ch od : Nat → Nat) (X : CallFix p m c b_La_law 7 s args mg_T R_La) (hl0 : l.stackTraces = false) (hK : mg_K D K s) (hA : ∀ q, s.heap.size ≤ q → A q) (hSt : mg_St A s s.heap) (hXs : va_X b L xs s s.heap) (hbl : b < s.heap.size) (hbA : ¬ A b) (hL30 : L < 2 ^ 30) (hi : i + 5 ≤ L) (hcs : cs + 1 ≤ room_1.cells) (hsl : sl + 6 ≤ room_1.slots) (hI : lw_I pl nf nc nm sg np fa mo rk wt rt ol tl tb dB VB dE VE dQ VQ dT VT pg mw mr sn kn ftb eB UB eE UE eJ UJ eO UO eS US eP UP eQ UQ pp) (hw : mg_H D A s.heap H locs [mg_ob aL 5 [.ref (h), .ref (hM), .ref (hF), .ref (aS), .ref (qp), .int (nI (pl))], mg_ob h 1 [.ref (qf), .ref (qm), .ref (qr), .int (nI (nf)), .int (nI (nc))], mg_ai K qf 6 fa, mg_ai K qm 6 mo, mg_ai K qr 6 rk, mg_ob hM 2 [.ref (qw), .ref (qra), .ref (qo), .ref (qt), .int (nI (nm)), .int (nI (sg))], mg_ai K qw 12 wt, mg_ai K qra 3 rt, mg_ai K qo 24 ol, mg_ai K qt 24 tl, mg_ob hF 3 [.ref (h), .ref (hM), .ref (qtb), .ref (ql)], mg_ai K qtb 256 tb, mg_ai K ql 6 (fun _ => 0), mg_ob aS 4 [.ref (h), .ref (hM), .ref (hF), .ref (qsr), .ref (aB), .ref (aE), .ref (aQ), .ref (aT)], mg_ai K qsr 3 sr, mg_ob aB 0 [.ref (qB)], mg_al K qB (64 * 6) dB, mg_ob aE 0 [.ref (qE)], mg_al K qE (64 * 6) dE, mg_ob aQ 0 [.ref (qQ)], mg_al K qQ (64 * 6) dQ, mg_ob aT 0 [.ref (qT)], mg_al K qT (4 * 6) dT, mg_ac K qp 54 pg, mg_ob mh 6 [.int (nI (flt)), .int (nI (np)), .int (nI (nf)), .int (nI (nc)), .ref (qor), .ref (qfa), .ref (qmo), .int (nI (nm)), .ref (qwt), .ref (qrt), .ref (qnw), .ref (qsn), .ref (qlt), .ref (qkn), .ref (qft), .ref (qbf), .ref (qbh), .ref (qjt), .ref (qot), .ref (qsm), .ref (qpt), .ref (qpr), .ref (qch), .ref (qbt), .int (nI (pl)), .ref (qpg)], mg_ai K qor 6 rk, mg_ai K qfa 6 fa, mg_ai K qmo 6 mo, mg_ai K qwt 16 mw, mg_ai K qrt 4 mr, mg_ai K qnw 4 nw, mg_ai K qsn 24 sn, mg_ai K qlt 6 lt, mg_az K qkn 4 kn, mg_ai K qft 256 ftb, mg_al K qbf 2048 eB, mg_al K qbh 2048 eE, mg_al K qjt 8 eJ, mg_al K qot 8 eO, mg_al K qsm 8 eS, mg_al K qpt 8 eP, mg_al K qpr 17 eQ, mg_al K qch 7 ch, mg_ai K qbt 64 (su_pt (li_bc 6) mg_z 64), mg_ai K qpg 80 pp, mg_al K qz 1 od]) (hl : lv_has ls 7 [(0, .ref (b)), (1, .ref (aL)), (2, .ref (mh)), (3, .ref (qz)), (4, .int (nI (i)))]) (x1 : Int32) (hx1 : xs (i + 1) = x1) (x2 : Int32) (hx2 : xs (i + 2) = x2) (x3 : Int32) (hx3 : xs (i + 3) = x3) (x4 : Int32) (hx4 : xs (i + 4) = x4) (kk : ∀ (pl nf nc nm sg np flt : Nat) (fa mo rk wt rt ol tl tb dB VB dE VE dQ VQ dT VT pg mw mr sn kn ftb eB UB eE UE eJ UJ eO UO eS US eP UP eQ UQ pp sr nw lt ch od : Nat → Nat) (ls : Array Slot) (H : Heap) (locs : List Loc) (cs1 sl1 : Nat), cs1 ≤ cs + 1 → sl1 ≤ sl + 6 → lw_I pl nf nc nm sg np fa mo rk wt rt ol tl tb dB VB dE VE dQ VQ dT VT pg mw mr sn kn ftb eB UB eE UE eJ UJ eO UO eS US eP UP eQ UQ pp → mg_H D A s.heap H locs [mg_ob aL 5 [.ref (h), .ref (hM), .ref (hF), .ref (aS), .ref (qp), .int (nI (pl))], mg_ob h 1 [.ref (qf), .ref (qm), .ref (qr), .int (nI (nf)), .int (nI (nc))], mg_ai K qf 6 fa, mg_ai K qm 6 mo, mg_ai K qr 6 rk, mg_ob hM 2 [.ref (qw), .ref (qra), .ref (qo), .ref (qt), .int (nI (nm)), .int (nI (sg))], mg_ai K qw 12 wt, mg_ai K qra 3 rt, mg_ai K qo 24 ol, mg_ai K qt 24 tl, mg_ob hF 3 [.ref (h), .ref (hM), .ref (qtb), .ref (ql)], mg_ai K qtb 256 tb, mg_ai K ql 6 (fun _ => 0), mg_ob aS 4 [.ref (h), .ref (hM), .ref (hF), .ref (qsr), .ref (aB), .ref (aE), .ref (aQ), .ref (aT)], mg_ai K qsr 3 sr, mg_ob aB 0 [.ref (qB)], mg_al K qB (64 * 6) dB, mg_ob aE 0 [.ref (qE)], mg_al K qE (64 * 6) dE, mg_ob aQ 0 [.ref (qQ)], mg_al K qQ (64 * 6) dQ, mg_ob aT 0 [.ref (qT)], mg_al K qT (4 * 6) dT, mg_ac K qp 54 pg, mg_ob mh 6 [.int (nI (flt)), .int (nI (np)), .int (nI (nf)), .int (nI (nc)), .ref (qor), .ref (qfa), .ref (qmo), .int (nI (nm)), .ref (qwt), .ref (qrt), .ref (qnw), .ref (qsn), .ref (qlt), .ref (qkn), .ref (qft), .ref (qbf), .ref (qbh), .ref (qjt), .ref (qot), .ref (qsm), .ref (qpt), .ref (qpr), .ref (qch), .ref (qbt), .int (nI (pl)), .ref (qpg)], mg_ai K qor 6 rk, mg_ai K qfa 6 fa, mg_ai K qmo 6 mo, mg_ai K qwt 16 mw, mg_ai K qrt 4 mr, mg_ai K qnw 4 nw, mg_ai K qsn 24 sn, mg_ai K qlt 6 lt, mg_az K qkn 4 kn, mg_ai K qft 256 ftb, mg_al K qbf 2048 eB, mg_al K qbh 2048 eE, mg_al K qjt 8 eJ, mg_al K qot 8 eO, mg_al K qsm 8 eS, mg_al K qpt 8 eP, mg_al K qpr 17 eQ, mg_al K qch 7 ch, mg_ai K qbt 64 (su_pt (li_bc 6) mg_z 64), mg_ai K qpg 80 pp, mg_al K qz 1 od] → lv_has ls 7 [(0, .ref (b)), (1, .ref (aL)), (2, .ref (mh)), (3, .ref (qz)), (4, .int (nI (i)))] → W p l e room_1 s m args below meth c H locs cs1 sl1 Q (F0 m 1170 ls [])) : W p l e room_1 s m args below meth c H locs cs sl Q (F0 m 384 ls []) := by
  obtain ⟨hF0, hS, hm4, hW8, hsg, htb, hrt, hsn, hwt, hkn, hnp, hpl, hpg, hRB, hRE, hRQ, hRT, gRB, gRE, gRJ, gRO, gRS, gRP, gRQ⟩ := hI
  subst hnp
  have hq1 := hF0.1
  have hq2 := hF0.2.1
  have hw6 := mg_ways hq2
  have hs24 : sg ≤ 24 := by rw [hsg]; exact sn_le ol
  have hg1 : ∀ k, k < 24 → ol k ≠ 0 → 1 ≤ sg := fun k h1 h2 => by rw [hsg]; exact sn_pos h1 h2
  have hrt16 := lw_rt hrt hm4
  have hn16 := lw_mr hrt
  have hFb : ∀ i w, i < nm → w < 2 ^ (2 * nc) → fi_fit wt ol tl fa mo rk nf nc i w ≤ 2 ^ 18 := fun i w hi _ => fi_fit_le hq1 (hW8 i hi)
  have hTb := lw_tb htb hFb
  have hsn33 := lw_sn hS hsn
  by_cases h9 : mg_lt x1 (nf + nc) ∧ mg_lt x2 nm
  ·
    obtain ⟨⟨p1, hp1, rfl⟩, ⟨m1, hm1, rfl⟩⟩ := h9
    by_cases h8 : mg_bt x3 1 3 ∧ mg_bt x4 1 3
    ·
      obtain ⟨⟨o1, ho1, rfl⟩, ⟨t1, ht1, rfl⟩⟩ := h8
      refine mg_aload_n X 385 d_La_law_384 (lv_at hl 1 rfl) rfl ?_
      refine mg_aload_n X 386 d_La_law_385 (lv_at hl 0 rfl) rfl ?_
      refine mg_iload X 388 d_La_law_386 (lv_at hl 4 rfl) rfl ?_
      refine mg_iconst X 389 1 d_La_law_388 mg_ci_1 rfl ?_
      refine mg_iadd X 390 (nI (i + 1)) d_La_law_389 (nI_add _ _) rfl ?_
      refine mg_sld X hw hXs hbl hbA hL30 391 ((nI (p1))) (by omega) hx1 d_La_law_390 rfl ?_
      refine mg_aload_n X 392 d_La_law_391 (lv_at hl 0 rfl) rfl ?_
      refine mg_iload X 394 d_La_law_392 (lv_at hl 4 rfl) rfl ?_
      refine mg_iconst X 395 2 d_La_law_394 mg_ci_2 rfl ?_
      refine mg_iadd X 396 (nI (i + 2)) d_La_law_395 (nI_add _ _) rfl ?_
      refine mg_sld X hw hXs hbl hbA hL30 397 ((nI (m1))) (by omega) hx2 d_La_law_396 rfl ?_
      refine mg_aload_n X 398 d_La_law_397 (lv_at hl 0 rfl) rfl ?_
      refine mg_iload X 400 d_La_law_398 (lv_at hl 4 rfl) rfl ?_
      refine mg_iconst X 401 3 d_La_law_400 mg_ci_3 rfl ?_
      refine mg_iadd X 402 (nI (i + 3)) d_La_law_401 (nI_add _ _) rfl ?_
      refine mg_sld X hw hXs hbl hbA hL30 403 ((nI (o1))) (by omega) hx3 d_La_law_402 rfl ?_
      refine mg_aload_n X 404 d_La_law_403 (lv_at hl 0 rfl) rfl ?_
      refine mg_iload X 406 d_La_law_404 (lv_at hl 4 rfl) rfl ?_
      refine mg_iconst X 407 4 d_La_law_406 mg_ci_4 rfl ?_
      refine mg_iadd X 408 (nI (i + 4)) d_La_law_407 (nI_add _ _) rfl ?_
      refine mg_sld X hw hXs hbl hbA hL30 409 ((nI (t1))) (by omega) hx4 d_La_law_408 rfl ?_
      refine mg_callWi X hK hw hA hSt 412 [0, 1, 2, 3, 4, 5, 6, 8, 9, 10, 12, 11] (fun _ => [mg_ob aL 5 [.ref (h), .ref (hM), .ref (hF), .ref (aS), .ref (qp), .int (nI (pl))], mg_ob h 1 [.ref (qf), .ref (qm), .ref (qr), .int (nI (nf)), .int (nI (nc))], mg_ai K qf 6 fa, mg_ai K qm 6 mo, mg_ai K qr 6 rk, mg_ob hM 2 [.ref (qw), .ref (qra), .ref (qo), .ref (qt), .int (nI (nm)), .int (nI (if ol (m1 * 6 + p1) = 0 then sg + 1 else sg))], mg_ai K qw 12 wt, mg_ai K qra 3 rt, mg_ai K qo 24 (va_up ol (m1 * 6 + p1) o1), mg_ai K qt 24 (va_up tl (m1 * 6 + p1) t1), mg_ob hF 3 [.ref (h), .ref (hM), .ref (qtb), .ref (ql)], mg_ai K qtb 256 (fi_tb tb (fi_fit wt (va_up ol (m1 * 6 + p1) o1) (va_up tl (m1 * 6 + p1) t1) fa mo rk nf nc m1) m1 (2 ^ (2 * nc))), mg_ai K ql 6 (fun _ => 0), mg_ob aS 4 [.ref (h), .ref (hM), .ref (hF), .ref (qsr), .ref (aB), .ref (aE), .ref (aQ), .ref (aT)], mg_ai K qsr 3 sr, mg_ob aB 0 [.ref (qB)], mg_al K qB (64 * 6) dB, mg_ob aE 0 [.ref (qE)], mg_al K qE (64 * 6) dE, mg_ob aQ 0 [.ref (qQ)], mg_al K qQ (64 * 6) dQ, mg_ob aT 0 [.ref (qT)], mg_al K qT (4 * 6) dT, mg_ac K qp 54 pg, mg_ob mh 6 [.int (nI (flt)), .int (nI (nf + nc)), .int (nI (nf)), .int (nI (nc)), .ref (qor), .ref (qfa), .ref (qmo), .int (nI (nm)), .ref (qwt), .ref (qrt), .ref (qnw), .ref (qsn), .ref (qlt), .ref (qkn), .ref (qft), .ref (qbf), .ref (qbh), .ref (qjt), .ref (qot), .ref (qsm), .ref (qpt), .ref (qpr), .ref (qch), .ref (qbt), .int (nI (pl)), .ref (qpg)], mg_ai K qor 6 rk, mg_ai K qfa 6 fa, mg_ai K qmo 6 mo, mg_ai K qwt 16 mw, mg_ai K qrt 4 mr, mg_ai K qnw 4 nw, mg_ai K qsn 24 sn, mg_ai K qlt 6 lt, mg_az K qkn 4 kn, mg_ai K qft 256 ftb, mg_al K qbf 2048 eB, mg_al K qbh 2048 eE, mg_al K qjt 8 eJ, mg_al K qot 8 eO, mg_al K qsm 8 eS, mg_al K qpt 8 eP, mg_al K qpr 17 eQ, mg_al K qch 7 ch, mg_ai K qbt 64 (su_pt (li_bc 6) mg_z 64), mg_ai K qpg 80 pp, mg_al K qz 1 od]) (k_La_see l D K aL h hM hF aS qp pl qf qm qr nf nc qtb ql qw qra qo qt nm sg fa mo rk wt ol tl tb p1 m1 o1 t1 (hF0) (hS) (hm4) (hW8) (by omega) (by omega) (by omega) (hg1) (ho1) (ht1)) gw_La_90 ⟨by decide, by decide⟩ ⟨rfl, rfl⟩ rfl rfl rfl hl.1 (rest := []) (As := [.ref (aL), .int (nI (p1)), .int (nI (m1)), .int (nI (o1)), .int (nI (t1))]) rfl (Nat.le_of_ble_eq_true rfl) d_La_law_409 ⟨by omega, by omega⟩ (fun _ => rfl) (fun _ => mg_pqe rfl) rfl ?_
      intro r _ H locs hp2 hw
      subst hp2
      refine mg_istore X 414 [(5, .int (nI (0))), (0, .ref (b)), (1, .ref (aL)), (2, .ref (mh)), (3, .ref (qz)), (4, .int (nI (i)))] d_La_law_412 hl (by decide) rfl rfl (fun ls hl => ?_)
      refine mg_aload_n X 415 d_La_law_414 (lv_at hl 3 rfl) rfl ?_
      refine mg_aload_n X 416 d_La_law_415 (lv_at hl 1 rfl) rfl ?_
      refine mg_iload X 418 d_La_law_416 (lv_at hl 5 rfl) rfl ?_
      refine mg_iconst X 419 1 d_La_law_418 mg_ci_1 rfl ?_
      refine mg_iadd X 420 (nI (i + 1)) d_La_law_419 (nI_add _ _) rfl ?_
      refine mg_sld X hw hXs hbl hbA hL30 421 ((nI (p1))) (by omega) hx1 d_La_law_420 rfl ?_
      refine mg_aload_n X 422 d_La_law_421 (lv_at hl 1 rfl) rfl ?_
      refine mg_iload X 424 d_La_law_422 (lv_at hl 5 rfl) rfl ?_
      refine mg_iconst X 425 2 d_La_law_424 mg_ci_2 rfl ?_
      refine mg_iadd X 426 (nI (i + 2)) d_La_law_425 (nI_add _ _) rfl ?_
      refine mg_sld X hw hXs hbl hbA hL30 427 ((nI (m1))) (by omega) hx2 d_La_law_426 rfl ?_
      refine mg_aload_n X 428 d_La_law_427 (lv_at hl 1 rfl) rfl ?_
      refine mg_iload X 430 d_La_law_428 (lv_at hl 5 rfl) rfl ?_
      refine mg_iconst X 431 3 d_La_law_430 mg_ci_3 rfl ?_
      refine mg_iadd X 432 (nI (i + 3)) d_La_law_431 (nI_add _ _) rfl ?_
      refine mg_sld X hw hXs hbl hbA hL30 433 ((nI (o1))) (by omega) hx3 d_La_law_432 rfl ?_
      refine mg_aload_n X 434 d_La_law_433 (lv_at hl 1 rfl) rfl ?_
      refine mg_iload X 436 d_La_law_434 (lv_at hl 5 rfl) rfl ?_
      refine mg_iconst X 437 4 d_La_law_436 mg_ci_4 rfl ?_
      refine mg_iadd X 438 (nI (i + 4)) d_La_law_437 (nI_add _ _) rfl ?_
      refine mg_sld X hw hXs hbl hbA hL30 439 ((nI (t1))) (by omega) hx4 d_La_law_438 rfl ?_
      refine mg_callVv X hK hw hA 442 [24, 31, 33] 24 (fun _ => [mg_ob aL 5 [.ref (h), .ref (hM), .ref (hF), .ref (aS), .ref (qp), .int (nI (pl))], mg_ob h 1 [.ref (qf), .ref (qm), .ref (qr), .int (nI (nf)), .int (nI (nc))], mg_ai K qf 6 fa, mg_ai K qm 6 mo, mg_ai K qr 6 rk, mg_ob hM 2 [.ref (qw), .ref (qra), .ref (qo), .ref (qt), .int (nI (nm)), .int (nI (if ol (m1 * 6 + p1) = 0 then sg + 1 else sg))], mg_ai K qw 12 wt, mg_ai K qra 3 rt, mg_ai K qo 24 (va_up ol (m1 * 6 + p1) o1), mg_ai K qt 24 (va_up tl (m1 * 6 + p1) t1), mg_ob hF 3 [.ref (h), .ref (hM), .ref (qtb), .ref (ql)], mg_ai K qtb 256 (fi_tb tb (fi_fit wt (va_up ol (m1 * 6 + p1) o1) (va_up tl (m1 * 6 + p1) t1) fa mo rk nf nc m1) m1 (2 ^ (2 * nc))), mg_ai K ql 6 (fun _ => 0), mg_ob aS 4 [.ref (h), .ref (hM), .ref (hF), .ref (qsr), .ref (aB), .ref (aE), .ref (aQ), .ref (aT)], mg_ai K qsr 3 sr, mg_ob aB 0 [.ref (qB)], mg_al K qB (64 * 6) dB, mg_ob aE 0 [.ref (qE)], mg_al K qE (64 * 6) dE, mg_ob aQ 0 [.ref (qQ)], mg_al K qQ (64 * 6) dQ, mg_ob aT 0 [.ref (qT)], mg_al K qT (4 * 6) dT, mg_ac K qp 54 pg, mg_ob mh 6 [.int (nI (0)), .int (nI (nf + nc)), .int (nI (nf)), .int (nI (nc)), .ref (qor), .ref (qfa), .ref (qmo), .int (nI (nm)), .ref (qwt), .ref (qrt), .ref (qnw), .ref (qsn), .ref (qlt), .ref (qkn), .ref (qft), .ref (qbf), .ref (qbh), .ref (qjt), .ref (qot), .ref (qsm), .ref (qpt), .ref (qpr), .ref (qch), .ref (qbt), .int (nI (pl)), .ref (qpg)], mg_ai K qor 6 rk, mg_ai K qfa 6 fa, mg_ai K qmo 6 mo, mg_ai K qwt 16 mw, mg_ai K qrt 4 mr, mg_ai K qnw 4 nw, mg_ai K qsn 24 (va_up sn (4 * p1 + m1) (mo_cd o1 t1)), mg_ai K qlt 6 lt, mg_az K qkn 4 (va_up kn m1 0), mg_ai K qft 256 ftb, mg_al K qbf 2048 eB, mg_al K qbh 2048 eE, mg_al K qjt 8 eJ, mg_al K qot 8 eO, mg_al K qsm 8 eS, mg_al K qpt 8 eP, mg_al K qpr 17 eQ, mg_al K qch 7 ch, mg_ai K qbt 64 (su_pt (li_bc 6) mg_z 64), mg_ai K qpg 80 pp, mg_al K qz 1 od]) rfl rfl (k_Mo_see l D K mh qor qfa qmo qwt qrt qnw qsn qlt qkn qft qbf qbh qjt qot qsm qpt qpr qch qbt qpg flt (nf + nc) nf nc nm pl sn kn p1 m1 o1 t1 (hm4) (by omega) (by omega) (by omega) (ho1) (ht1)) g_La_93 ⟨by decide, by decide⟩ ⟨rfl, rfl⟩ rfl rfl rfl hl.1 (rest := []) (As := [.int (nI (p1)), .int (nI (m1)), .int (nI (o1)), .int (nI (t1))]) rfl (Nat.le_of_ble_eq_true rfl) d_La_law_439 ⟨by omega, by omega⟩ (fun _ => rfl) (fun _ => mg_pqe rfl) rfl ?_
      intro _ H locs hp4 hw
      refine mg_aload_n X 443 d_La_law_442 (lv_at hl 3 rfl) rfl ?_
      refine mg_callVi X hK hw hA 446 [24] 24 (fun _ => [mg_ob aL 5 [.ref (h), .ref (hM), .ref (hF), .ref (aS), .ref (qp), .int (nI (pl))], mg_ob h 1 [.ref (qf), .ref (qm), .ref (qr), .int (nI (nf)), .int (nI (nc))], mg_ai K qf 6 fa, mg_ai K qm 6 mo, mg_ai K qr 6 rk, mg_ob hM 2 [.ref (qw), .ref (qra), .ref (qo), .ref (qt), .int (nI (nm)), .int (nI (if ol (m1 * 6 + p1) = 0 then sg + 1 else sg))], mg_ai K qw 12 wt, mg_ai K qra 3 rt, mg_ai K qo 24 (va_up ol (m1 * 6 + p1) o1), mg_ai K qt 24 (va_up tl (m1 * 6 + p1) t1), mg_ob hF 3 [.ref (h), .ref (hM), .ref (qtb), .ref (ql)], mg_ai K qtb 256 (fi_tb tb (fi_fit wt (va_up ol (m1 * 6 + p1) o1) (va_up tl (m1 * 6 + p1) t1) fa mo rk nf nc m1) m1 (2 ^ (2 * nc))), mg_ai K ql 6 (fun _ => 0), mg_ob aS 4 [.ref (h), .ref (hM), .ref (hF), .ref (qsr), .ref (aB), .ref (aE), .ref (aQ), .ref (aT)], mg_ai K qsr 3 sr, mg_ob aB 0 [.ref (qB)], mg_al K qB (64 * 6) dB, mg_ob aE 0 [.ref (qE)], mg_al K qE (64 * 6) dE, mg_ob aQ 0 [.ref (qQ)], mg_al K qQ (64 * 6) dQ, mg_ob aT 0 [.ref (qT)], mg_al K qT (4 * 6) dT, mg_ac K qp 54 pg, mg_ob mh 6 [.int (nI (0)), .int (nI (nf + nc)), .int (nI (nf)), .int (nI (nc)), .ref (qor), .ref (qfa), .ref (qmo), .int (nI (nm)), .ref (qwt), .ref (qrt), .ref (qnw), .ref (qsn), .ref (qlt), .ref (qkn), .ref (qft), .ref (qbf), .ref (qbh), .ref (qjt), .ref (qot), .ref (qsm), .ref (qpt), .ref (qpr), .ref (qch), .ref (qbt), .int (nI (pl)), .ref (qpg)], mg_ai K qor 6 rk, mg_ai K qfa 6 fa, mg_ai K qmo 6 mo, mg_ai K qwt 16 mw, mg_ai K qrt 4 mr, mg_ai K qnw 4 nw, mg_ai K qsn 24 (va_up sn (4 * p1 + m1) (mo_cd o1 t1)), mg_ai K qlt 6 lt, mg_az K qkn 4 (va_up kn m1 0), mg_ai K qft 256 ftb, mg_al K qbf 2048 eB, mg_al K qbh 2048 eE, mg_al K qjt 8 eJ, mg_al K qot 8 eO, mg_al K qsm 8 eS, mg_al K qpt 8 eP, mg_al K qpr 17 eQ, mg_al K qch 7 ch, mg_ai K qbt 64 (su_pt (li_bc 6) mg_z 64), mg_ai K qpg 80 pp, mg_al K qz 1 od]) rfl rfl (k_Mo_thrown l D K mh qor qfa qmo qwt qrt qnw qsn qlt qkn qft qbf qbh qjt qot qsm qpt qpr qch qbt qpg 0 (nf + nc) nf nc nm pl ) g_La_76 ⟨by decide, by decide⟩ ⟨rfl, rfl⟩ rfl rfl rfl hl.1 (rest := []) (As := []) rfl (Nat.le_of_ble_eq_true rfl) d_La_law_443 ⟨by omega, by omega⟩ (fun _ => rfl) (fun _ => mg_pqe rfl) rfl ?_
      intro r _ H locs hp6 hw
      subst hp6
      refine mg_iload X 448 d_La_law_446 (lv_at hl 0 rfl) rfl ?_
      refine mg_ieqs X 453 (rfl) d_La_law_448 (by decide) ?_
      refine mg_goto X 1170 d_La_law_453 (by decide) ?_
      have hl : lv_has ls 7 [(0, .ref (b)), (1, .ref (aL)), (2, .ref (mh)), (3, .ref (qz)), (4, .int (nI (i)))] := lv_sub hl [1, 2, 3, 4, 5] rfl
      exact kk pl nf nc nm (if ol (m1 * 6 + p1) = 0 then sg + 1 else sg) (nf + nc) 0 fa mo rk wt rt (va_up ol (m1 * 6 + p1) o1) (va_up tl (m1 * 6 + p1) t1) (fi_tb tb (fi_fit wt (va_up ol (m1 * 6 + p1) o1) (va_up tl (m1 * 6 + p1) t1) fa mo rk nf nc m1) m1 (2 ^ (2 * nc))) dB VB dE VE dQ VQ dT VT pg mw mr (va_up sn (4 * p1 + m1) (mo_cd o1 t1)) (va_up kn m1 0) ftb eB UB eE UE eJ UJ eO UO eS US eP UP eQ UQ pp sr nw lt ch od ls H locs _ _ (by omega) (by omega) ⟨hF0, sn_put hS ho1 ht1, hm4, hW8, by rw [hsg]; exact (sn_put_n (by omega) (by omega)).symm, cl_one hq2 htb (fun i w hi hne => fi_fit_put (by omega) (by omega) hne), hrt, mo_sn_put hsn (by omega) (by omega), hwt, mo_kn_one hkn (fun i w hi hne => fi_fit_put (by omega) (by omega) hne), rfl, hpl, hpg, hRB, hRE, hRQ, hRT, gRB, gRE, gRJ, gRO, gRS, gRP, gRQ⟩ hw hl
    ·
      refine mg_aload_n X 385 d_La_law_384 (lv_at hl 1 rfl) rfl ?_
      refine mg_aload_n X 386 d_La_law_385 (lv_at hl 0 rfl) rfl ?_
      refine mg_iload X 388 d_La_law_386 (lv_at hl 4 rfl) rfl ?_
      refine mg_iconst X 389 1 d_La_law_388 mg_ci_1 rfl ?_
      refine mg_iadd X 390 (nI (i + 1)) d_La_law_389 (nI_add _ _) rfl ?_
      refine mg_sld X hw hXs hbl hbA hL30 391 ((nI (p1))) (by omega) hx1 d_La_law_390 rfl ?_
      refine mg_aload_n X 392 d_La_law_391 (lv_at hl 0 rfl) rfl ?_
      refine mg_iload X 394 d_La_law_392 (lv_at hl 4 rfl) rfl ?_
      refine mg_iconst X 395 2 d_La_law_394 mg_ci_2 rfl ?_
      refine mg_iadd X 396 (nI (i + 2)) d_La_law_395 (nI_add _ _) rfl ?_
      refine mg_sld X hw hXs hbl hbA hL30 397 ((nI (m1))) (by omega) hx2 d_La_law_396 rfl ?_
      refine mg_aload_n X 398 d_La_law_397 (lv_at hl 0 rfl) rfl ?_
      refine mg_iload X 400 d_La_law_398 (lv_at hl 4 rfl) rfl ?_
      refine mg_iconst X 401 3 d_La_law_400 mg_ci_3 rfl ?_
      refine mg_iadd X 402 (nI (i + 3)) d_La_law_401 (nI_add _ _) rfl ?_
      refine mg_sld X hw hXs hbl hbA hL30 403 ((x3)) (by omega) hx3 d_La_law_402 rfl ?_
      refine mg_aload_n X 404 d_La_law_403 (lv_at hl 0 rfl) rfl ?_
      refine mg_iload X 406 d_La_law_404 (lv_at hl 4 rfl) rfl ?_
      refine mg_iconst X 407 4 d_La_law_406 mg_ci_4 rfl ?_
      refine mg_iadd X 408 (nI (i + 4)) d_La_law_407 (nI_add _ _) rfl ?_
      refine mg_sld X hw hXs hbl hbA hL30 409 ((x4)) (by omega) hx4 d_La_law_408 rfl ?_
      refine mg_callWi X hK hw hA hSt 412 [0, 1, 5] (fun _ => [mg_ob aL 5 [.ref (h), .ref (hM), .ref (hF), .ref (aS), .ref (qp), .int (nI (pl))], mg_ob h 1 [.ref (qf), .ref (qm), .ref (qr), .int (nI (nf)), .int (nI (nc))], mg_ai K qf 6 fa, mg_ai K qm 6 mo, mg_ai K qr 6 rk, mg_ob hM 2 [.ref (qw), .ref (qra), .ref (qo), .ref (qt), .int (nI (nm)), .int (nI (sg))], mg_ai K qw 12 wt, mg_ai K qra 3 rt, mg_ai K qo 24 ol, mg_ai K qt 24 tl, mg_ob hF 3 [.ref (h), .ref (hM), .ref (qtb), .ref (ql)], mg_ai K qtb 256 tb, mg_ai K ql 6 (fun _ => 0), mg_ob aS 4 [.ref (h), .ref (hM), .ref (hF), .ref (qsr), .ref (aB), .ref (aE), .ref (aQ), .ref (aT)], mg_ai K qsr 3 sr, mg_ob aB 0 [.ref (qB)], mg_al K qB (64 * 6) dB, mg_ob aE 0 [.ref (qE)], mg_al K qE (64 * 6) dE, mg_ob aQ 0 [.ref (qQ)], mg_al K qQ (64 * 6) dQ, mg_ob aT 0 [.ref (qT)], mg_al K qT (4 * 6) dT, mg_ac K qp 54 pg, mg_ob mh 6 [.int (nI (flt)), .int (nI (nf + nc)), .int (nI (nf)), .int (nI (nc)), .ref (qor), .ref (qfa), .ref (qmo), .int (nI (nm)), .ref (qwt), .ref (qrt), .ref (qnw), .ref (qsn), .ref (qlt), .ref (qkn), .ref (qft), .ref (qbf), .ref (qbh), .ref (qjt), .ref (qot), .ref (qsm), .ref (qpt), .ref (qpr), .ref (qch), .ref (qbt), .int (nI (pl)), .ref (qpg)], mg_ai K qor 6 rk, mg_ai K qfa 6 fa, mg_ai K qmo 6 mo, mg_ai K qwt 16 mw, mg_ai K qrt 4 mr, mg_ai K qnw 4 nw, mg_ai K qsn 24 sn, mg_ai K qlt 6 lt, mg_az K qkn 4 kn, mg_ai K qft 256 ftb, mg_al K qbf 2048 eB, mg_al K qbh 2048 eE, mg_al K qjt 8 eJ, mg_al K qot 8 eO, mg_al K qsm 8 eS, mg_al K qpt 8 eP, mg_al K qpr 17 eQ, mg_al K qch 7 ch, mg_ai K qbt 64 (su_pt (li_bc 6) mg_z 64), mg_ai K qpg 80 pp, mg_al K qz 1 od]) (k_La_seeX2 l D K aL h hM hF aS qp pl qf qm qr nf nc qw qra qo qt nm sg p1 m1 x3 x4 (hl0) (hq1) (hq2) (by omega) (by omega) (by omega) (by omega) (h8)) gw_La_90 ⟨by decide, by decide⟩ ⟨rfl, rfl⟩ rfl rfl rfl hl.1 (rest := []) (As := [.ref (aL), .int (nI (p1)), .int (nI (m1)), .int (x3), .int (x4)]) rfl (Nat.le_of_ble_eq_true rfl) d_La_law_409 ⟨by omega, by omega⟩ (fun _ => rfl) (fun _ => mg_pqe rfl) rfl ?_
      intro r _ H locs hp8 hw
      subst hp8
      refine mg_istore X 414 [(5, .int (nI (2))), (0, .ref (b)), (1, .ref (aL)), (2, .ref (mh)), (3, .ref (qz)), (4, .int (nI (i)))] d_La_law_412 hl (by decide) rfl rfl (fun ls hl => ?_)
      refine mg_aload_n X 415 d_La_law_414 (lv_at hl 3 rfl) rfl ?_
      refine mg_aload_n X 416 d_La_law_415 (lv_at hl 1 rfl) rfl ?_
      refine mg_iload X 418 d_La_law_416 (lv_at hl 5 rfl) rfl ?_
      refine mg_iconst X 419 1 d_La_law_418 mg_ci_1 rfl ?_
      refine mg_iadd X 420 (nI (i + 1)) d_La_law_419 (nI_add _ _) rfl ?_
      refine mg_sld X hw hXs hbl hbA hL30 421 ((nI (p1))) (by omega) hx1 d_La_law_420 rfl ?_
      refine mg_aload_n X 422 d_La_law_421 (lv_at hl 1 rfl) rfl ?_
      refine mg_iload X 424 d_La_law_422 (lv_at hl 5 rfl) rfl ?_
      refine mg_iconst X 425 2 d_La_law_424 mg_ci_2 rfl ?_
      refine mg_iadd X 426 (nI (i + 2)) d_La_law_425 (nI_add _ _) rfl ?_
      refine mg_sld X hw hXs hbl hbA hL30 427 ((nI (m1))) (by omega) hx2 d_La_law_426 rfl ?_
      refine mg_aload_n X 428 d_La_law_427 (lv_at hl 1 rfl) rfl ?_
      refine mg_iload X 430 d_La_law_428 (lv_at hl 5 rfl) rfl ?_
      refine mg_iconst X 431 3 d_La_law_430 mg_ci_3 rfl ?_
      refine mg_iadd X 432 (nI (i + 3)) d_La_law_431 (nI_add _ _) rfl ?_
      refine mg_sld X hw hXs hbl hbA hL30 433 ((x3)) (by omega) hx3 d_La_law_432 rfl ?_
      refine mg_aload_n X 434 d_La_law_433 (lv_at hl 1 rfl) rfl ?_
      refine mg_iload X 436 d_La_law_434 (lv_at hl 5 rfl) rfl ?_
      refine mg_iconst X 437 4 d_La_law_436 mg_ci_4 rfl ?_
      refine mg_iadd X 438 (nI (i + 4)) d_La_law_437 (nI_add _ _) rfl ?_
      refine mg_sld X hw hXs hbl hbA hL30 439 ((x4)) (by omega) hx4 d_La_law_438 rfl ?_
      refine mg_callVv X hK hw hA 442 [24] 24 (fun _ => [mg_ob aL 5 [.ref (h), .ref (hM), .ref (hF), .ref (aS), .ref (qp), .int (nI (pl))], mg_ob h 1 [.ref (qf), .ref (qm), .ref (qr), .int (nI (nf)), .int (nI (nc))], mg_ai K qf 6 fa, mg_ai K qm 6 mo, mg_ai K qr 6 rk, mg_ob hM 2 [.ref (qw), .ref (qra), .ref (qo), .ref (qt), .int (nI (nm)), .int (nI (sg))], mg_ai K qw 12 wt, mg_ai K qra 3 rt, mg_ai K qo 24 ol, mg_ai K qt 24 tl, mg_ob hF 3 [.ref (h), .ref (hM), .ref (qtb), .ref (ql)], mg_ai K qtb 256 tb, mg_ai K ql 6 (fun _ => 0), mg_ob aS 4 [.ref (h), .ref (hM), .ref (hF), .ref (qsr), .ref (aB), .ref (aE), .ref (aQ), .ref (aT)], mg_ai K qsr 3 sr, mg_ob aB 0 [.ref (qB)], mg_al K qB (64 * 6) dB, mg_ob aE 0 [.ref (qE)], mg_al K qE (64 * 6) dE, mg_ob aQ 0 [.ref (qQ)], mg_al K qQ (64 * 6) dQ, mg_ob aT 0 [.ref (qT)], mg_al K qT (4 * 6) dT, mg_ac K qp 54 pg, mg_ob mh 6 [.int (nI (2)), .int (nI (nf + nc)), .int (nI (nf)), .int (nI (nc)), .ref (qor), .ref (qfa), .ref (qmo), .int (nI (nm)), .ref (qwt), .ref (qrt), .ref (qnw), .ref (qsn), .ref (qlt), .ref (qkn), .ref (qft), .ref (qbf), .ref (qbh), .ref (qjt), .ref (qot), .ref (qsm), .ref (qpt), .ref (qpr), .ref (qch), .ref (qbt), .int (nI (pl)), .ref (qpg)], mg_ai K qor 6 rk, mg_ai K qfa 6 fa, mg_ai K qmo 6 mo, mg_ai K qwt 16 mw, mg_ai K qrt 4 mr, mg_ai K qnw 4 nw, mg_ai K qsn 24 sn, mg_ai K qlt 6 lt, mg_az K qkn 4 kn, mg_ai K qft 256 ftb, mg_al K qbf 2048 eB, mg_al K qbh 2048 eE, mg_al K qjt 8 eJ, mg_al K qot 8 eO, mg_al K qsm 8 eS, mg_al K qpt 8 eP, mg_al K qpr 17 eQ, mg_al K qch 7 ch, mg_ai K qbt 64 (su_pt (li_bc 6) mg_z 64), mg_ai K qpg 80 pp, mg_al K qz 1 od]) rfl rfl (k_Mo_seeN2 l D K mh qor qfa qmo qwt qrt qnw qsn qlt qkn qft qbf qbh qjt qot qsm qpt qpr qch qbt qpg flt (nf + nc) nf nc nm pl p1 m1 x3 x4 (hm4) (by omega) (by omega) (by omega) (h8)) g_La_93 ⟨by decide, by decide⟩ ⟨rfl, rfl⟩ rfl rfl rfl hl.1 (rest := []) (As := [.int (nI (p1)), .int (nI (m1)), .int (x3), .int (x4)]) rfl (Nat.le_of_ble_eq_true rfl) d_La_law_439 ⟨by omega, by omega⟩ (fun _ => rfl) (fun _ => mg_pqe rfl) rfl ?_
      intro _ H locs hp10 hw
      refine mg_aload_n X 443 d_La_law_442 (lv_at hl 3 rfl) rfl ?_
      refine mg_callVi X hK hw hA 446 [24] 24 (fun _ => [mg_ob aL 5 [.ref (h), .ref (hM), .ref (hF), .ref (aS), .ref (qp), .int (nI (pl))], mg_ob h 1 [.ref (qf), .ref (qm), .ref (qr), .int (nI (nf)), .int (nI (nc))], mg_ai K qf 6 fa, mg_ai K qm 6 mo, mg_ai K qr 6 rk, mg_ob hM 2 [.ref (qw), .ref (qra), .ref (qo), .ref (qt), .int (nI (nm)), .int (nI (sg))], mg_ai K qw 12 wt, mg_ai K qra 3 rt, mg_ai K qo 24 ol, mg_ai K qt 24 tl, mg_ob hF 3 [.ref (h), .ref (hM), .ref (qtb), .ref (ql)], mg_ai K qtb 256 tb, mg_ai K ql 6 (fun _ => 0), mg_ob aS 4 [.ref (h), .ref (hM), .ref (hF), .ref (qsr), .ref (aB), .ref (aE), .ref (aQ), .ref (aT)], mg_ai K qsr 3 sr, mg_ob aB 0 [.ref (qB)], mg_al K qB (64 * 6) dB, mg_ob aE 0 [.ref (qE)], mg_al K qE (64 * 6) dE, mg_ob aQ 0 [.ref (qQ)], mg_al K qQ (64 * 6) dQ, mg_ob aT 0 [.ref (qT)], mg_al K qT (4 * 6) dT, mg_ac K qp 54 pg, mg_ob mh 6 [.int (nI (2)), .int (nI (nf + nc)), .int (nI (nf)), .int (nI (nc)), .ref (qor), .ref (qfa), .ref (qmo), .int (nI (nm)), .ref (qwt), .ref (qrt), .ref (qnw), .ref (qsn), .ref (qlt), .ref (qkn), .ref (qft), .ref (qbf), .ref (qbh), .ref (qjt), .ref (qot), .ref (qsm), .ref (qpt), .ref (qpr), .ref (qch), .ref (qbt), .int (nI (pl)), .ref (qpg)], mg_ai K qor 6 rk, mg_ai K qfa 6 fa, mg_ai K qmo 6 mo, mg_ai K qwt 16 mw, mg_ai K qrt 4 mr, mg_ai K qnw 4 nw, mg_ai K qsn 24 sn, mg_ai K qlt 6 lt, mg_az K qkn 4 kn, mg_ai K qft 256 ftb, mg_al K qbf 2048 eB, mg_al K qbh 2048 eE, mg_al K qjt 8 eJ, mg_al K qot 8 eO, mg_al K qsm 8 eS, mg_al K qpt 8 eP, mg_al K qpr 17 eQ, mg_al K qch 7 ch, mg_ai K qbt 64 (su_pt (li_bc 6) mg_z 64), mg_ai K qpg 80 pp, mg_al K qz 1 od]) rfl rfl (k_Mo_thrown l D K mh qor qfa qmo qwt qrt qnw qsn qlt qkn qft qbf qbh qjt qot qsm qpt qpr qch qbt qpg 2 (nf + nc) nf nc nm pl ) g_La_76 ⟨by decide, by decide⟩ ⟨rfl, rfl⟩ rfl rfl rfl hl.1 (rest := []) (As := []) rfl (Nat.le_of_ble_eq_true rfl) d_La_law_443 ⟨by omega, by omega⟩ (fun _ => rfl) (fun _ => mg_pqe rfl) rfl ?_
      intro r _ H locs hp12 hw
      subst hp12
      refine mg_iload X 448 d_La_law_446 (lv_at hl 0 rfl) rfl ?_
      refine mg_ieqs X 453 (rfl) d_La_law_448 (by decide) ?_
      refine mg_goto X 1170 d_La_law_453 (by decide) ?_
      have hl : lv_has ls 7 [(0, .ref (b)), (1, .ref (aL)), (2, .ref (mh)), (3, .ref (qz)), (4, .int (nI (i)))] := lv_sub hl [1, 2, 3, 4, 5] rfl
      exact kk pl nf nc nm sg (nf + nc) 2 fa mo rk wt rt ol tl tb dB VB dE VE dQ VQ dT VT pg mw mr sn kn ftb eB UB eE UE eJ UJ eO UO eS US eP UP eQ UQ pp sr nw lt ch od ls H locs _ _ (by omega) (by omega) ⟨hF0, hS, hm4, hW8, hsg, htb, hrt, hsn, hwt, hkn, rfl, hpl, hpg, hRB, hRE, hRQ, hRT, gRB, gRE, gRJ, gRO, gRS, gRP, gRQ⟩ hw hl
  ·
    refine mg_aload_n X 385 d_La_law_384 (lv_at hl 1 rfl) rfl ?_
    refine mg_aload_n X 386 d_La_law_385 (lv_at hl 0 rfl) rfl ?_
    refine mg_iload X 388 d_La_law_386 (lv_at hl 4 rfl) rfl ?_
    refine mg_iconst X 389 1 d_La_law_388 mg_ci_1 rfl ?_
    refine mg_iadd X 390 (nI (i + 1)) d_La_law_389 (nI_add _ _) rfl ?_
    refine mg_sld X hw hXs hbl hbA hL30 391 ((x1)) (by omega) hx1 d_La_law_390 rfl ?_
    refine mg_aload_n X 392 d_La_law_391 (lv_at hl 0 rfl) rfl ?_
    refine mg_iload X 394 d_La_law_392 (lv_at hl 4 rfl) rfl ?_
    refine mg_iconst X 395 2 d_La_law_394 mg_ci_2 rfl ?_
    refine mg_iadd X 396 (nI (i + 2)) d_La_law_395 (nI_add _ _) rfl ?_
    refine mg_sld X hw hXs hbl hbA hL30 397 ((x2)) (by omega) hx2 d_La_law_396 rfl ?_
    refine mg_aload_n X 398 d_La_law_397 (lv_at hl 0 rfl) rfl ?_
    refine mg_iload X 400 d_La_law_398 (lv_at hl 4 rfl) rfl ?_
    refine mg_iconst X 401 3 d_La_law_400 mg_ci_3 rfl ?_
    refine mg_iadd X 402 (nI (i + 3)) d_La_law_401 (nI_add _ _) rfl ?_
    refine mg_sld X hw hXs hbl hbA hL30 403 ((x3)) (by omega) hx3 d_La_law_402 rfl ?_
    refine mg_aload_n X 404 d_La_law_403 (lv_at hl 0 rfl) rfl ?_
    refine mg_iload X 406 d_La_law_404 (lv_at hl 4 rfl) rfl ?_
    refine mg_iconst X 407 4 d_La_law_406 mg_ci_4 rfl ?_
    refine mg_iadd X 408 (nI (i + 4)) d_La_law_407 (nI_add _ _) rfl ?_
    refine mg_sld X hw hXs hbl hbA hL30 409 ((x4)) (by omega) hx4 d_La_law_408 rfl ?_
    refine mg_callWi X hK hw hA hSt 412 [0, 1, 5] (fun _ => [mg_ob aL 5 [.ref (h), .ref (hM), .ref (hF), .ref (aS), .ref (qp), .int (nI (pl))], mg_ob h 1 [.ref (qf), .ref (qm), .ref (qr), .int (nI (nf)), .int (nI (nc))], mg_ai K qf 6 fa, mg_ai K qm 6 mo, mg_ai K qr 6 rk, mg_ob hM 2 [.ref (qw), .ref (qra), .ref (qo), .ref (qt), .int (nI (nm)), .int (nI (sg))], mg_ai K qw 12 wt, mg_ai K qra 3 rt, mg_ai K qo 24 ol, mg_ai K qt 24 tl, mg_ob hF 3 [.ref (h), .ref (hM), .ref (qtb), .ref (ql)], mg_ai K qtb 256 tb, mg_ai K ql 6 (fun _ => 0), mg_ob aS 4 [.ref (h), .ref (hM), .ref (hF), .ref (qsr), .ref (aB), .ref (aE), .ref (aQ), .ref (aT)], mg_ai K qsr 3 sr, mg_ob aB 0 [.ref (qB)], mg_al K qB (64 * 6) dB, mg_ob aE 0 [.ref (qE)], mg_al K qE (64 * 6) dE, mg_ob aQ 0 [.ref (qQ)], mg_al K qQ (64 * 6) dQ, mg_ob aT 0 [.ref (qT)], mg_al K qT (4 * 6) dT, mg_ac K qp 54 pg, mg_ob mh 6 [.int (nI (flt)), .int (nI (nf + nc)), .int (nI (nf)), .int (nI (nc)), .ref (qor), .ref (qfa), .ref (qmo), .int (nI (nm)), .ref (qwt), .ref (qrt), .ref (qnw), .ref (qsn), .ref (qlt), .ref (qkn), .ref (qft), .ref (qbf), .ref (qbh), .ref (qjt), .ref (qot), .ref (qsm), .ref (qpt), .ref (qpr), .ref (qch), .ref (qbt), .int (nI (pl)), .ref (qpg)], mg_ai K qor 6 rk, mg_ai K qfa 6 fa, mg_ai K qmo 6 mo, mg_ai K qwt 16 mw, mg_ai K qrt 4 mr, mg_ai K qnw 4 nw, mg_ai K qsn 24 sn, mg_ai K qlt 6 lt, mg_az K qkn 4 kn, mg_ai K qft 256 ftb, mg_al K qbf 2048 eB, mg_al K qbh 2048 eE, mg_al K qjt 8 eJ, mg_al K qot 8 eO, mg_al K qsm 8 eS, mg_al K qpt 8 eP, mg_al K qpr 17 eQ, mg_al K qch 7 ch, mg_ai K qbt 64 (su_pt (li_bc 6) mg_z 64), mg_ai K qpg 80 pp, mg_al K qz 1 od]) (k_La_seeX1 l D K aL h hM hF aS qp pl qf qm qr nf nc qw qra qo qt nm sg x1 x2 x3 x4 (hl0) (hq1) (hq2) (by omega) (by omega) (h9)) gw_La_90 ⟨by decide, by decide⟩ ⟨rfl, rfl⟩ rfl rfl rfl hl.1 (rest := []) (As := [.ref (aL), .int (x1), .int (x2), .int (x3), .int (x4)]) rfl (Nat.le_of_ble_eq_true rfl) d_La_law_409 ⟨by omega, by omega⟩ (fun _ => rfl) (fun _ => mg_pqe rfl) rfl ?_
    intro r _ H locs hp14 hw
    subst hp14
    refine mg_istore X 414 [(5, .int (nI (1))), (0, .ref (b)), (1, .ref (aL)), (2, .ref (mh)), (3, .ref (qz)), (4, .int (nI (i)))] d_La_law_412 hl (by decide) rfl rfl (fun ls hl => ?_)
    refine mg_aload_n X 415 d_La_law_414 (lv_at hl 3 rfl) rfl ?_
    refine mg_aload_n X 416 d_La_law_415 (lv_at hl 1 rfl) rfl ?_
    refine mg_iload X 418 d_La_law_416 (lv_at hl 5 rfl) rfl ?_
    refine mg_iconst X 419 1 d_La_law_418 mg_ci_1 rfl ?_
    refine mg_iadd X 420 (nI (i + 1)) d_La_law_419 (nI_add _ _) rfl ?_
    refine mg_sld X hw hXs hbl hbA hL30 421 ((x1)) (by omega) hx1 d_La_law_420 rfl ?_
    refine mg_aload_n X 422 d_La_law_421 (lv_at hl 1 rfl) rfl ?_
    refine mg_iload X 424 d_La_law_422 (lv_at hl 5 rfl) rfl ?_
    refine mg_iconst X 425 2 d_La_law_424 mg_ci_2 rfl ?_
    refine mg_iadd X 426 (nI (i + 2)) d_La_law_425 (nI_add _ _) rfl ?_
    refine mg_sld X hw hXs hbl hbA hL30 427 ((x2)) (by omega) hx2 d_La_law_426 rfl ?_
    refine mg_aload_n X 428 d_La_law_427 (lv_at hl 1 rfl) rfl ?_
    refine mg_iload X 430 d_La_law_428 (lv_at hl 5 rfl) rfl ?_
    refine mg_iconst X 431 3 d_La_law_430 mg_ci_3 rfl ?_
    refine mg_iadd X 432 (nI (i + 3)) d_La_law_431 (nI_add _ _) rfl ?_
    refine mg_sld X hw hXs hbl hbA hL30 433 ((x3)) (by omega) hx3 d_La_law_432 rfl ?_
    refine mg_aload_n X 434 d_La_law_433 (lv_at hl 1 rfl) rfl ?_
    refine mg_iload X 436 d_La_law_434 (lv_at hl 5 rfl) rfl ?_
    refine mg_iconst X 437 4 d_La_law_436 mg_ci_4 rfl ?_
    refine mg_iadd X 438 (nI (i + 4)) d_La_law_437 (nI_add _ _) rfl ?_
    refine mg_sld X hw hXs hbl hbA hL30 439 ((x4)) (by omega) hx4 d_La_law_438 rfl ?_
    refine mg_callVv X hK hw hA 442 [24] 24 (fun _ => [mg_ob aL 5 [.ref (h), .ref (hM), .ref (hF), .ref (aS), .ref (qp), .int (nI (pl))], mg_ob h 1 [.ref (qf), .ref (qm), .ref (qr), .int (nI (nf)), .int (nI (nc))], mg_ai K qf 6 fa, mg_ai K qm 6 mo, mg_ai K qr 6 rk, mg_ob hM 2 [.ref (qw), .ref (qra), .ref (qo), .ref (qt), .int (nI (nm)), .int (nI (sg))], mg_ai K qw 12 wt, mg_ai K qra 3 rt, mg_ai K qo 24 ol, mg_ai K qt 24 tl, mg_ob hF 3 [.ref (h), .ref (hM), .ref (qtb), .ref (ql)], mg_ai K qtb 256 tb, mg_ai K ql 6 (fun _ => 0), mg_ob aS 4 [.ref (h), .ref (hM), .ref (hF), .ref (qsr), .ref (aB), .ref (aE), .ref (aQ), .ref (aT)], mg_ai K qsr 3 sr, mg_ob aB 0 [.ref (qB)], mg_al K qB (64 * 6) dB, mg_ob aE 0 [.ref (qE)], mg_al K qE (64 * 6) dE, mg_ob aQ 0 [.ref (qQ)], mg_al K qQ (64 * 6) dQ, mg_ob aT 0 [.ref (qT)], mg_al K qT (4 * 6) dT, mg_ac K qp 54 pg, mg_ob mh 6 [.int (nI (1)), .int (nI (nf + nc)), .int (nI (nf)), .int (nI (nc)), .ref (qor), .ref (qfa), .ref (qmo), .int (nI (nm)), .ref (qwt), .ref (qrt), .ref (qnw), .ref (qsn), .ref (qlt), .ref (qkn), .ref (qft), .ref (qbf), .ref (qbh), .ref (qjt), .ref (qot), .ref (qsm), .ref (qpt), .ref (qpr), .ref (qch), .ref (qbt), .int (nI (pl)), .ref (qpg)], mg_ai K qor 6 rk, mg_ai K qfa 6 fa, mg_ai K qmo 6 mo, mg_ai K qwt 16 mw, mg_ai K qrt 4 mr, mg_ai K qnw 4 nw, mg_ai K qsn 24 sn, mg_ai K qlt 6 lt, mg_az K qkn 4 kn, mg_ai K qft 256 ftb, mg_al K qbf 2048 eB, mg_al K qbh 2048 eE, mg_al K qjt 8 eJ, mg_al K qot 8 eO, mg_al K qsm 8 eS, mg_al K qpt 8 eP, mg_al K qpr 17 eQ, mg_al K qch 7 ch, mg_ai K qbt 64 (su_pt (li_bc 6) mg_z 64), mg_ai K qpg 80 pp, mg_al K qz 1 od]) rfl rfl (k_Mo_seeN1 l D K mh qor qfa qmo qwt qrt qnw qsn qlt qkn qft qbf qbh qjt qot qsm qpt qpr qch qbt qpg flt (nf + nc) nf nc nm pl x1 x2 x3 x4 (hm4) (by omega) (h9)) g_La_93 ⟨by decide, by decide⟩ ⟨rfl, rfl⟩ rfl rfl rfl hl.1 (rest := []) (As := [.int (x1), .int (x2), .int (x3), .int (x4)]) rfl (Nat.le_of_ble_eq_true rfl) d_La_law_439 ⟨by omega, by omega⟩ (fun _ => rfl) (fun _ => mg_pqe rfl) rfl ?_
    intro _ H locs hp16 hw
    refine mg_aload_n X 443 d_La_law_442 (lv_at hl 3 rfl) rfl ?_
    refine mg_callVi X hK hw hA 446 [24] 24 (fun _ => [mg_ob aL 5 [.ref (h), .ref (hM), .ref (hF), .ref (aS), .ref (qp), .int (nI (pl))], mg_ob h 1 [.ref (qf), .ref (qm), .ref (qr), .int (nI (nf)), .int (nI (nc))], mg_ai K qf 6 fa, mg_ai K qm 6 mo, mg_ai K qr 6 rk, mg_ob hM 2 [.ref (qw), .ref (qra), .ref (qo), .ref (qt), .int (nI (nm)), .int (nI (sg))], mg_ai K qw 12 wt, mg_ai K qra 3 rt, mg_ai K qo 24 ol, mg_ai K qt 24 tl, mg_ob hF 3 [.ref (h), .ref (hM), .ref (qtb), .ref (ql)], mg_ai K qtb 256 tb, mg_ai K ql 6 (fun _ => 0), mg_ob aS 4 [.ref (h), .ref (hM), .ref (hF), .ref (qsr), .ref (aB), .ref (aE), .ref (aQ), .ref (aT)], mg_ai K qsr 3 sr, mg_ob aB 0 [.ref (qB)], mg_al K qB (64 * 6) dB, mg_ob aE 0 [.ref (qE)], mg_al K qE (64 * 6) dE, mg_ob aQ 0 [.ref (qQ)], mg_al K qQ (64 * 6) dQ, mg_ob aT 0 [.ref (qT)], mg_al K qT (4 * 6) dT, mg_ac K qp 54 pg, mg_ob mh 6 [.int (nI (1)), .int (nI (nf + nc)), .int (nI (nf)), .int (nI (nc)), .ref (qor), .ref (qfa), .ref (qmo), .int (nI (nm)), .ref (qwt), .ref (qrt), .ref (qnw), .ref (qsn), .ref (qlt), .ref (qkn), .ref (qft), .ref (qbf), .ref (qbh), .ref (qjt), .ref (qot), .ref (qsm), .ref (qpt), .ref (qpr), .ref (qch), .ref (qbt), .int (nI (pl)), .ref (qpg)], mg_ai K qor 6 rk, mg_ai K qfa 6 fa, mg_ai K qmo 6 mo, mg_ai K qwt 16 mw, mg_ai K qrt 4 mr, mg_ai K qnw 4 nw, mg_ai K qsn 24 sn, mg_ai K qlt 6 lt, mg_az K qkn 4 kn, mg_ai K qft 256 ftb, mg_al K qbf 2048 eB, mg_al K qbh 2048 eE, mg_al K qjt 8 eJ, mg_al K qot 8 eO, mg_al K qsm 8 eS, mg_al K qpt 8 eP, mg_al K qpr 17 eQ, mg_al K qch 7 ch, mg_ai K qbt 64 (su_pt (li_bc 6) mg_z 64), mg_ai K qpg 80 pp, mg_al K qz 1 od]) rfl rfl (k_Mo_thrown l D K mh qor qfa qmo qwt qrt qnw qsn qlt qkn qft qbf qbh qjt qot qsm qpt qpr qch qbt qpg 1 (nf + nc) nf nc nm pl ) g_La_76 ⟨by decide, by decide⟩ ⟨rfl, rfl⟩ rfl rfl rfl hl.1 (rest := []) (As := []) rfl (Nat.le_of_ble_eq_true rfl) d_La_law_443 ⟨by omega, by omega⟩ (fun _ => rfl) (fun _ => mg_pqe rfl) rfl ?_
    intro r _ H locs hp18 hw
    subst hp18
    refine mg_iload X 448 d_La_law_446 (lv_at hl 0 rfl) rfl ?_
    refine mg_ieqs X 453 (rfl) d_La_law_448 (by decide) ?_
    refine mg_goto X 1170 d_La_law_453 (by decide) ?_
    have hl : lv_has ls 7 [(0, .ref (b)), (1, .ref (aL)), (2, .ref (mh)), (3, .ref (qz)), (4, .int (nI (i)))] := lv_sub hl [1, 2, 3, 4, 5] rfl
    exact kk pl nf nc nm sg (nf + nc) 1 fa mo rk wt rt ol tl tb dB VB dE VE dQ VQ dT VT pg mw mr sn kn ftb eB UB eE UE eJ UJ eO UO eS US eP UP eQ UQ pp sr nw lt ch od ls H locs _ _ (by omega) (by omega) ⟨hF0, hS, hm4, hW8, hsg, htb, hrt, hsn, hwt, hkn, rfl, hpl, hpg, hRB, hRE, hRQ, hRT, gRB, gRE, gRJ, gRO, gRS, gRP, gRQ⟩ hw hl
