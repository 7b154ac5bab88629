/-! Helpers of the law: handlers' facts, ints as longs. -/
theorem lk_IS : Cond.classLink R_La 13 xIS ∈ mg_T := mg_in 229 (by decide +kernel) (by decide +kernel)
theorem lk_IO : Cond.classLink R_La 19 xIO ∈ mg_T := mg_in 347 (by decide +kernel) (by decide +kernel)
theorem lk_IA : Cond.classLink R_La 25 xIA ∈ mg_T := mg_in 378 (by decide +kernel) (by decide +kernel)
theorem mg_inX {w : Cond} (i : Nat) (h : lw_tbl[i]? = some w) (hg : mg_xw w = true) : w ∈ mg_XW := List.mem_filter.mpr ⟨List.mem_of_getElem? h, hg⟩
theorem ca_IS : Cond.castable xIS xIS ∈ mg_XW := mg_inX 236 (by decide +kernel) (by decide +kernel)
theorem ca_IO : Cond.castable xIO xIO ∈ mg_XW := mg_inX 358 (by decide +kernel) (by decide +kernel)
theorem ca_IA : Cond.castable xIA xIA ∈ mg_XW := mg_inX 391 (by decide +kernel) (by decide +kernel)
def mg_sx (v : Nat) : Nat := (nI v).toInt64.toBitVec.toNat
theorem mg_sx_eq (v : Nat) : (nI v).toInt64 = lN (mg_sx v) := by
  apply Int64.toBitVec_inj.mp
  apply BitVec.eq_of_toNat_eq
  show _ = (BitVec.ofNat 64 (nI v).toInt64.toBitVec.toNat).toNat
  rw [BitVec.toNat_ofNat]
  exact (Nat.mod_eq_of_lt (nI v).toInt64.toBitVec.isLt).symm
section MZ
variable {p : Program} {l : Launch} {e : Env} {R : Room} {s : State} {m : MethodId} {args : Array Value} {below : List Frame} {meth : Method} {c : Code} {H : Heap} {locs : List Loc} {cells slots : Nat} {Q : State → Prop}
variable {cc : ByteArray} {nL pc : Nat} {own : String} {ls : Array Slot} {rest : List Value}
theorem mg_i2ls (X : CallFix p m c cc nL s args mg_T own) (pc' : Nat) {a : Nat} (hdg : decode cc pc = .ok (.i2l, 1)) (hq : pc + 1 = pc') (kk : W p l e R s m args below meth c H locs cells slots Q (F0 m pc' ls (.long (lN (mg_sx a)) :: rest))) : W p l e R s m args below meth c H locs cells slots Q (F0 m pc ls (.int (nI a) :: rest)) := by
  subst hq
  exact lv_i2l X.1 X.2.1 hdg (mg_sx_eq a) kk
end MZ
