/-! Ints of which nothing is known: equal or not, in a table or out of it. -/
section MJ
variable {p : Program} {l : Launch} {e : Env} {R : Room} {s : State} {m : MethodId} {args : Array Value} {below : List Frame} {meth : Method} {c : Code} {H : Heap} {locs : List Loc} {cells slots : Nat} {Q : State → Prop}
variable {cc : ByteArray} {nL pc : Nat} {own : String} {ls : Array Slot} {rest : List Value}
theorem mg_reif_eq (X : CallFix p m c cc nL s args mg_T own) (tgt pc' : Nat) {x : Int32} {off : Int} (hdg : decode cc pc = .ok (.ifCond .eq off, 3)) (ht : (pc : Int) + off = (tgt : Int)) (hq : pc + 3 = pc') (kt : x = nI 0 → W p l e R s m args below meth c H locs cells slots Q (F0 m tgt ls rest)) (kf : x ≠ nI 0 → W p l e R s m args below meth c H locs cells slots Q (F0 m pc' ls rest)) : W p l e R s m args below meth c H locs cells slots Q (F0 m pc ls (.int x :: rest)) := by
  subst hq
  exact lv_if_eq X.1 X.2.1 hdg ht kt kf
theorem mg_reic_ne (X : CallFix p m c cc nL s args mg_T own) (tgt pc' : Nat) {x y : Int32} {off : Int} (hdg : decode cc pc = .ok (.if_icmp .ne off, 3)) (ht : (pc : Int) + off = (tgt : Int)) (hq : pc + 3 = pc') (kt : x ≠ y → W p l e R s m args below meth c H locs cells slots Q (F0 m tgt ls rest)) (kf : x = y → W p l e R s m args below meth c H locs cells slots Q (F0 m pc' ls rest)) : W p l e R s m args below meth c H locs cells slots Q (F0 m pc ls (.int y :: .int x :: rest)) := by
  subst hq
  exact lv_icmp_ne X.1 X.2.1 hdg ht kt kf
theorem mg_tsin (X : CallFix p m c cc nL s args mg_T own) (tgt : Nat) {dflt lo hi : Int} {offs : Array Int} {len : Nat} {x : Int32} {off : Int} (hdg : decode cc pc = .ok (.tableswitch dflt lo hi offs, len)) (h1 : ¬ x.toInt < lo) (h2 : ¬ hi < x.toInt) (ho : offs[(x.toInt - lo).toNat]? = some off) (ht : (pc : Int) + off = (tgt : Int)) (kk : W p l e R s m args below meth c H locs cells slots Q (F0 m tgt ls rest)) : W p l e R s m args below meth c H locs cells slots Q (F0 m pc ls (.int x :: rest)) :=
  lv_tableIn X.1 X.2.1 hdg h1 h2 ho ht kk
theorem mg_tsout (X : CallFix p m c cc nL s args mg_T own) (tgt : Nat) {dflt lo hi : Int} {offs : Array Int} {len : Nat} {x : Int32} (hdg : decode cc pc = .ok (.tableswitch dflt lo hi offs, len)) (h : x.toInt < lo ∨ hi < x.toInt) (ht : (pc : Int) + dflt = (tgt : Int)) (kk : W p l e R s m args below meth c H locs cells slots Q (F0 m tgt ls rest)) : W p l e R s m args below meth c H locs cells slots Q (F0 m pc ls (.int x :: rest)) :=
  lv_tableOut X.1 X.2.1 hdg h ht kk
theorem mg_out {x : Int32} {n : Nat} (hn : n < 2 ^ 31) (h : ¬ mg_lt x (n + 1)) : x.toInt < 0 ∨ (n : Int) < x.toInt := by
  by_cases hx : x < 0
  · exact Or.inl (Int32.lt_iff_toInt_lt.mp hx)
  · obtain ⟨j, hj, e⟩ := nI_of hx
    subst e
    refine Or.inr ?_
    have h1 : n < j := Nat.not_le.mp (fun q => h (mg_lt_in (by omega)))
    have h2 : nI n < nI j := Int32.not_le.mp (fun q => absurd ((nI_leI hj hn).mp q) (by omega))
    have h3 := Int32.lt_iff_toInt_lt.mp h2
    rw [nI_toInt hn] at h3
    exact h3
/-- three weights -/
def mg_w3 (a b c : Int32) : Prop := ∃ i j k, a = nI i ∧ b = nI j ∧ c = nI k ∧ i + j + k = 8
/-- what count answers -/
def mg_cnt (x : Int32) (np nf nc nm : Nat) : Nat := if x = nI 0 then np else if x = nI 1 then nf else if x = nI 2 then nc else if x = nI 3 then nm else if x = nI 4 then 2 ^ (2 * nc) else if x = nI 5 then 2 * nc + 6 * nf * nm + 8 * nc * (nm - 1) else 4294967295
theorem mg_cntN {x : Int32} (h : ¬ mg_lt x 6) (np nf nc nm : Nat) : mg_cnt x np nf nc nm = 4294967295 := by
  have k : ∀ j, j < 6 → ¬ x = nI j := fun j hj e => h ⟨j, hj, e⟩
  unfold mg_cnt
  rw [if_neg (k 0 (by omega)), if_neg (k 1 (by omega)), if_neg (k 2 (by omega)), if_neg (k 3 (by omega)), if_neg (k 4 (by omega)), if_neg (k 5 (by omega))]
end MJ
theorem mg_nc {x : Nat} (hx : x < 65536) : narrow .char (.int (nI x)) = .int (nI x) := by
  have h := mg_nar_c hx
  exact congrArg Value.int h
theorem mg_i2c {p : Program} {l : Launch} {e : Env} {R : Room} {s : State} {m : MethodId} {args : Array Value} {below : List Frame} {meth : Method} {c : Code} {H : Heap} {locs : List Loc} {cells slots : Nat} {Q : State → Prop} {cc : ByteArray} {nL pc : Nat} {own : String} {ls : Array Slot} {rest : List Value} (X : CallFix p m c cc nL s args mg_T own) (pc' : Nat) {a : Nat} (hdg : decode cc pc = .ok (.i2c, 1)) (ha : a < 65536) (hq : pc + 1 = pc') (kk : W p l e R s m args below meth c H locs cells slots Q (F0 m pc' ls (.int (nI a) :: rest))) : W p l e R s m args below meth c H locs cells slots Q (F0 m pc ls (.int (nI a) :: rest)) := by
  subst hq
  have h1 : (nI a).toBitVec.toNat = a % 2 ^ 32 := rfl
  refine lv_i2c X.1 X.2.1 hdg (v := nI a) ?_ kk
  rw [pk_char, h1, Nat.mod_eq_of_lt (show a < 2 ^ 32 by omega), Nat.mod_eq_of_lt ha]
