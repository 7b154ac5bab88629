section
-- ===== PART A: goes FIRST, ahead of the names: the tables' words, and 'selects' of the private methods out of them =====
/-- a private method of a class that the tables say can be made, by its rows of tables_1 -/
def lw_okq (q : MethodName × Nat) : Prop := (q.1.cls ≠ "java/lang/invoke/MethodHandle" ∧ q.1.cls ≠ "java/lang/invoke/VarHandle") ∧ Cond.instantiable q.1.cls q.2 ∈ tables_1 ∧ Cond.privateMethod q.1 ∈ tables_1 ∧ Cond.instanceMethod q.1 ∈ tables_1
theorem lw_p0 : lw_okq (⟨"LinkedMarkers", "exponent", "()I"⟩, 6) := ⟨⟨by decide +kernel, by decide +kernel⟩, List.mem_of_getElem? (i := 15) (by decide +kernel), List.mem_of_getElem? (i := 178) (by decide +kernel), List.mem_of_getElem? (i := 179) (by decide +kernel)⟩
theorem lw_p1 : lw_okq (⟨"java/lang/Throwable", "fillInStackTrace", "(I)Ljava/lang/Throwable;"⟩, 6) := ⟨⟨by decide +kernel, by decide +kernel⟩, List.mem_of_getElem? (i := 240) (by decide +kernel), List.mem_of_getElem? (i := 238) (by decide +kernel), List.mem_of_getElem? (i := 239) (by decide +kernel)⟩
theorem lw_p2 : lw_okq (⟨"LinkedMarkers$Fits", "sumFrom", "(III)I"⟩, 4) := ⟨⟨by decide +kernel, by decide +kernel⟩, List.mem_of_getElem? (i := 80) (by decide +kernel), List.mem_of_getElem? (i := 279) (by decide +kernel), List.mem_of_getElem? (i := 280) (by decide +kernel)⟩
theorem lw_p3 : lw_okq (⟨"LinkedMarkers$Fits", "weightOfLetters", "(I)I"⟩, 4) := ⟨⟨by decide +kernel, by decide +kernel⟩, List.mem_of_getElem? (i := 80) (by decide +kernel), List.mem_of_getElem? (i := 284) (by decide +kernel), List.mem_of_getElem? (i := 285) (by decide +kernel)⟩
theorem lw_p4 : lw_okq (⟨"LinkedMarkers$Fits", "sumWith", "(IIIII)I"⟩, 4) := ⟨⟨by decide +kernel, by decide +kernel⟩, List.mem_of_getElem? (i := 80) (by decide +kernel), List.mem_of_getElem? (i := 304) (by decide +kernel), List.mem_of_getElem? (i := 305) (by decide +kernel)⟩
theorem lw_p5 : lw_okq (⟨"LinkedMarkers$Sums", "comeFromBefore", "(I)V"⟩, 8) := ⟨⟨by decide +kernel, by decide +kernel⟩, List.mem_of_getElem? (i := 99) (by decide +kernel), List.mem_of_getElem? (i := 463) (by decide +kernel), List.mem_of_getElem? (i := 464) (by decide +kernel)⟩
theorem lw_p6 : lw_okq (⟨"LinkedMarkers$Sums", "fillWithOnes", "(LLinkedMarkers$Amounts;)V"⟩, 8) := ⟨⟨by decide +kernel, by decide +kernel⟩, List.mem_of_getElem? (i := 99) (by decide +kernel), List.mem_of_getElem? (i := 467) (by decide +kernel), List.mem_of_getElem? (i := 468) (by decide +kernel)⟩
theorem lw_p7 : lw_okq (⟨"LinkedMarkers$Sums", "multiplyByFits", "(LLinkedMarkers$Amounts;I)V"⟩, 8) := ⟨⟨by decide +kernel, by decide +kernel⟩, List.mem_of_getElem? (i := 99) (by decide +kernel), List.mem_of_getElem? (i := 476) (by decide +kernel), List.mem_of_getElem? (i := 477) (by decide +kernel)⟩
theorem lw_p8 : lw_okq (⟨"LinkedMarkers$Sums", "crossGap", "(LLinkedMarkers$Amounts;I)V"⟩, 8) := ⟨⟨by decide +kernel, by decide +kernel⟩, List.mem_of_getElem? (i := 99) (by decide +kernel), List.mem_of_getElem? (i := 486) (by decide +kernel), List.mem_of_getElem? (i := 487) (by decide +kernel)⟩
theorem lw_p9 : lw_okq (⟨"LinkedMarkers$Sums", "addUp", "(ILLinkedMarkers$Amounts;)V"⟩, 8) := ⟨⟨by decide +kernel, by decide +kernel⟩, List.mem_of_getElem? (i := 99) (by decide +kernel), List.mem_of_getElem? (i := 495) (by decide +kernel), List.mem_of_getElem? (i := 496) (by decide +kernel)⟩
theorem lw_p10 : lw_okq (⟨"LinkedMarkers$Sums", "comeFromBehind", "(I)V"⟩, 8) := ⟨⟨by decide +kernel, by decide +kernel⟩, List.mem_of_getElem? (i := 99) (by decide +kernel), List.mem_of_getElem? (i := 574) (by decide +kernel), List.mem_of_getElem? (i := 575) (by decide +kernel)⟩
theorem lw_p11 : lw_okq (⟨"LinkedMarkersModel", "isAnySeen", "()Z"⟩, 26) := ⟨⟨by decide +kernel, by decide +kernel⟩, List.mem_of_getElem? (i := 614) (by decide +kernel), List.mem_of_getElem? (i := 711) (by decide +kernel), List.mem_of_getElem? (i := 712) (by decide +kernel)⟩
theorem lw_p12 : lw_okq (⟨"LinkedMarkersModel", "refused", "(I)Z"⟩, 26) := ⟨⟨by decide +kernel, by decide +kernel⟩, List.mem_of_getElem? (i := 614) (by decide +kernel), List.mem_of_getElem? (i := 715) (by decide +kernel), List.mem_of_getElem? (i := 716) (by decide +kernel)⟩
theorem lw_p13 : lw_okq (⟨"LinkedMarkersModel", "forget", "()V"⟩, 26) := ⟨⟨by decide +kernel, by decide +kernel⟩, List.mem_of_getElem? (i := 614) (by decide +kernel), List.mem_of_getElem? (i := 719) (by decide +kernel), List.mem_of_getElem? (i := 720) (by decide +kernel)⟩
theorem lw_p14 : lw_okq (⟨"LinkedMarkersModel", "isPerson", "(I)Z"⟩, 26) := ⟨⟨by decide +kernel, by decide +kernel⟩, List.mem_of_getElem? (i := 614) (by decide +kernel), List.mem_of_getElem? (i := 727) (by decide +kernel), List.mem_of_getElem? (i := 728) (by decide +kernel)⟩
theorem lw_p15 : lw_okq (⟨"LinkedMarkersModel", "isGap", "(I)Z"⟩, 26) := ⟨⟨by decide +kernel, by decide +kernel⟩, List.mem_of_getElem? (i := 614) (by decide +kernel), List.mem_of_getElem? (i := 739) (by decide +kernel), List.mem_of_getElem? (i := 740) (by decide +kernel)⟩
def lw_privs_1 : List (MethodName × Nat) := [(⟨"LinkedMarkers", "exponent", "()I"⟩, 6), (⟨"java/lang/Throwable", "fillInStackTrace", "(I)Ljava/lang/Throwable;"⟩, 6), (⟨"LinkedMarkers$Fits", "sumFrom", "(III)I"⟩, 4), (⟨"LinkedMarkers$Fits", "weightOfLetters", "(I)I"⟩, 4), (⟨"LinkedMarkers$Fits", "sumWith", "(IIIII)I"⟩, 4), (⟨"LinkedMarkers$Sums", "comeFromBefore", "(I)V"⟩, 8), (⟨"LinkedMarkers$Sums", "fillWithOnes", "(LLinkedMarkers$Amounts;)V"⟩, 8), (⟨"LinkedMarkers$Sums", "multiplyByFits", "(LLinkedMarkers$Amounts;I)V"⟩, 8), (⟨"LinkedMarkers$Sums", "crossGap", "(LLinkedMarkers$Amounts;I)V"⟩, 8), (⟨"LinkedMarkers$Sums", "addUp", "(ILLinkedMarkers$Amounts;)V"⟩, 8), (⟨"LinkedMarkers$Sums", "comeFromBehind", "(I)V"⟩, 8), (⟨"LinkedMarkersModel", "isAnySeen", "()Z"⟩, 26), (⟨"LinkedMarkersModel", "refused", "(I)Z"⟩, 26), (⟨"LinkedMarkersModel", "forget", "()V"⟩, 26), (⟨"LinkedMarkersModel", "isPerson", "(I)Z"⟩, 26), (⟨"LinkedMarkersModel", "isGap", "(I)Z"⟩, 26)]
theorem lw_r1 : ∀ q ∈ lw_privs_1, lw_okq q := List.forall_mem_cons.mpr ⟨lw_p0, List.forall_mem_cons.mpr ⟨lw_p1, List.forall_mem_cons.mpr ⟨lw_p2, List.forall_mem_cons.mpr ⟨lw_p3, List.forall_mem_cons.mpr ⟨lw_p4, List.forall_mem_cons.mpr ⟨lw_p5, List.forall_mem_cons.mpr ⟨lw_p6, List.forall_mem_cons.mpr ⟨lw_p7, List.forall_mem_cons.mpr ⟨lw_p8, List.forall_mem_cons.mpr ⟨lw_p9, List.forall_mem_cons.mpr ⟨lw_p10, List.forall_mem_cons.mpr ⟨lw_p11, List.forall_mem_cons.mpr ⟨lw_p12, List.forall_mem_cons.mpr ⟨lw_p13, List.forall_mem_cons.mpr ⟨lw_p14, List.forall_mem_cons.mpr ⟨lw_p15, fun _ h => absurd h List.not_mem_nil⟩⟩⟩⟩⟩⟩⟩⟩⟩⟩⟩⟩⟩⟩⟩⟩
theorem lw_p16 : lw_okq (⟨"LinkedMarkersModel", "isMarker", "(I)Z"⟩, 26) := ⟨⟨by decide +kernel, by decide +kernel⟩, List.mem_of_getElem? (i := 614) (by decide +kernel), List.mem_of_getElem? (i := 747) (by decide +kernel), List.mem_of_getElem? (i := 748) (by decide +kernel)⟩
theorem lw_p17 : lw_okq (⟨"LinkedMarkersModel", "ways", "()I"⟩, 26) := ⟨⟨by decide +kernel, by decide +kernel⟩, List.mem_of_getElem? (i := 614) (by decide +kernel), List.mem_of_getElem? (i := 762) (by decide +kernel), List.mem_of_getElem? (i := 763) (by decide +kernel)⟩
theorem lw_p18 : lw_okq (⟨"LinkedMarkersModel", "isWay", "(I)Z"⟩, 26) := ⟨⟨by decide +kernel, by decide +kernel⟩, List.mem_of_getElem? (i := 614) (by decide +kernel), List.mem_of_getElem? (i := 770) (by decide +kernel), List.mem_of_getElem? (i := 771) (by decide +kernel)⟩
theorem lw_p19 : lw_okq (⟨"LinkedMarkersModel", "originOf", "(III)I"⟩, 26) := ⟨⟨by decide +kernel, by decide +kernel⟩, List.mem_of_getElem? (i := 614) (by decide +kernel), List.mem_of_getElem? (i := 774) (by decide +kernel), List.mem_of_getElem? (i := 775) (by decide +kernel)⟩
theorem lw_p20 : lw_okq (⟨"LinkedMarkersModel", "fitOf", "(II)I"⟩, 26) := ⟨⟨by decide +kernel, by decide +kernel⟩, List.mem_of_getElem? (i := 614) (by decide +kernel), List.mem_of_getElem? (i := 782) (by decide +kernel), List.mem_of_getElem? (i := 783) (by decide +kernel)⟩
theorem lw_p21 : lw_okq (⟨"LinkedMarkersModel", "reckonFit", "(II)I"⟩, 26) := ⟨⟨by decide +kernel, by decide +kernel⟩, List.mem_of_getElem? (i := 614) (by decide +kernel), List.mem_of_getElem? (i := 786) (by decide +kernel), List.mem_of_getElem? (i := 787) (by decide +kernel)⟩
theorem lw_p22 : lw_okq (⟨"LinkedMarkersModel", "isSo", "(II)Z"⟩, 26) := ⟨⟨by decide +kernel, by decide +kernel⟩, List.mem_of_getElem? (i := 614) (by decide +kernel), List.mem_of_getElem? (i := 790) (by decide +kernel), List.mem_of_getElem? (i := 791) (by decide +kernel)⟩
theorem lw_p23 : lw_okq (⟨"LinkedMarkersModel", "useRates", "()V"⟩, 26) := ⟨⟨by decide +kernel, by decide +kernel⟩, List.mem_of_getElem? (i := 614) (by decide +kernel), List.mem_of_getElem? (i := 798) (by decide +kernel), List.mem_of_getElem? (i := 799) (by decide +kernel)⟩
theorem lw_p24 : lw_okq (⟨"LinkedMarkersModel", "reckon", "([J)V"⟩, 26) := ⟨⟨by decide +kernel, by decide +kernel⟩, List.mem_of_getElem? (i := 614) (by decide +kernel), List.mem_of_getElem? (i := 802) (by decide +kernel), List.mem_of_getElem? (i := 803) (by decide +kernel)⟩
theorem lw_p25 : lw_okq (⟨"LinkedMarkersModel", "reckonBefore", "()V"⟩, 26) := ⟨⟨by decide +kernel, by decide +kernel⟩, List.mem_of_getElem? (i := 614) (by decide +kernel), List.mem_of_getElem? (i := 806) (by decide +kernel), List.mem_of_getElem? (i := 807) (by decide +kernel)⟩
theorem lw_p26 : lw_okq (⟨"LinkedMarkersModel", "reckonChanges", "(I)V"⟩, 26) := ⟨⟨by decide +kernel, by decide +kernel⟩, List.mem_of_getElem? (i := 614) (by decide +kernel), List.mem_of_getElem? (i := 810) (by decide +kernel), List.mem_of_getElem? (i := 811) (by decide +kernel)⟩
theorem lw_p27 : lw_okq (⟨"LinkedMarkersModel", "quotient", "([JJ[J)I"⟩, 26) := ⟨⟨by decide +kernel, by decide +kernel⟩, List.mem_of_getElem? (i := 614) (by decide +kernel), List.mem_of_getElem? (i := 832) (by decide +kernel), List.mem_of_getElem? (i := 833) (by decide +kernel)⟩
theorem lw_p28 : lw_okq (⟨"LinkedMarkersModel", "chance", "(IIII)I"⟩, 26) := ⟨⟨by decide +kernel, by decide +kernel⟩, List.mem_of_getElem? (i := 614) (by decide +kernel), List.mem_of_getElem? (i := 851) (by decide +kernel), List.mem_of_getElem? (i := 852) (by decide +kernel)⟩
theorem lw_p29 : lw_okq (⟨"LinkedMarkersModel", "reckonAll", "()V"⟩, 26) := ⟨⟨by decide +kernel, by decide +kernel⟩, List.mem_of_getElem? (i := 614) (by decide +kernel), List.mem_of_getElem? (i := 855) (by decide +kernel), List.mem_of_getElem? (i := 856) (by decide +kernel)⟩
theorem lw_p30 : lw_okq (⟨"LinkedMarkersModel", "reckonBehind", "()V"⟩, 26) := ⟨⟨by decide +kernel, by decide +kernel⟩, List.mem_of_getElem? (i := 614) (by decide +kernel), List.mem_of_getElem? (i := 859) (by decide +kernel), List.mem_of_getElem? (i := 860) (by decide +kernel)⟩
theorem lw_p31 : lw_okq (⟨"LinkedMarkersModel", "isSame", "(III)Z"⟩, 26) := ⟨⟨by decide +kernel, by decide +kernel⟩, List.mem_of_getElem? (i := 614) (by decide +kernel), List.mem_of_getElem? (i := 863) (by decide +kernel), List.mem_of_getElem? (i := 864) (by decide +kernel)⟩
def lw_privs_2 : List (MethodName × Nat) := [(⟨"LinkedMarkersModel", "isMarker", "(I)Z"⟩, 26), (⟨"LinkedMarkersModel", "ways", "()I"⟩, 26), (⟨"LinkedMarkersModel", "isWay", "(I)Z"⟩, 26), (⟨"LinkedMarkersModel", "originOf", "(III)I"⟩, 26), (⟨"LinkedMarkersModel", "fitOf", "(II)I"⟩, 26), (⟨"LinkedMarkersModel", "reckonFit", "(II)I"⟩, 26), (⟨"LinkedMarkersModel", "isSo", "(II)Z"⟩, 26), (⟨"LinkedMarkersModel", "useRates", "()V"⟩, 26), (⟨"LinkedMarkersModel", "reckon", "([J)V"⟩, 26), (⟨"LinkedMarkersModel", "reckonBefore", "()V"⟩, 26), (⟨"LinkedMarkersModel", "reckonChanges", "(I)V"⟩, 26), (⟨"LinkedMarkersModel", "quotient", "([JJ[J)I"⟩, 26), (⟨"LinkedMarkersModel", "chance", "(IIII)I"⟩, 26), (⟨"LinkedMarkersModel", "reckonAll", "()V"⟩, 26), (⟨"LinkedMarkersModel", "reckonBehind", "()V"⟩, 26), (⟨"LinkedMarkersModel", "isSame", "(III)Z"⟩, 26)]
theorem lw_r2 : ∀ q ∈ lw_privs_2, lw_okq q := List.forall_mem_cons.mpr ⟨lw_p16, List.forall_mem_cons.mpr ⟨lw_p17, List.forall_mem_cons.mpr ⟨lw_p18, List.forall_mem_cons.mpr ⟨lw_p19, List.forall_mem_cons.mpr ⟨lw_p20, List.forall_mem_cons.mpr ⟨lw_p21, List.forall_mem_cons.mpr ⟨lw_p22, List.forall_mem_cons.mpr ⟨lw_p23, List.forall_mem_cons.mpr ⟨lw_p24, List.forall_mem_cons.mpr ⟨lw_p25, List.forall_mem_cons.mpr ⟨lw_p26, List.forall_mem_cons.mpr ⟨lw_p27, List.forall_mem_cons.mpr ⟨lw_p28, List.forall_mem_cons.mpr ⟨lw_p29, List.forall_mem_cons.mpr ⟨lw_p30, List.forall_mem_cons.mpr ⟨lw_p31, fun _ h => absurd h List.not_mem_nil⟩⟩⟩⟩⟩⟩⟩⟩⟩⟩⟩⟩⟩⟩⟩⟩
theorem lw_p32 : lw_okq (⟨"LinkedMarkersModel", "multiply", "([JI[JI)V"⟩, 26) := ⟨⟨by decide +kernel, by decide +kernel⟩, List.mem_of_getElem? (i := 614) (by decide +kernel), List.mem_of_getElem? (i := 867) (by decide +kernel), List.mem_of_getElem? (i := 868) (by decide +kernel)⟩
def lw_privs_3 : List (MethodName × Nat) := [(⟨"LinkedMarkersModel", "multiply", "([JI[JI)V"⟩, 26)]
theorem lw_r3 : ∀ q ∈ lw_privs_3, lw_okq q := List.forall_mem_cons.mpr ⟨lw_p32, fun _ h => absurd h List.not_mem_nil⟩
def lw_privs : List (MethodName × Nat) := lw_privs_1 ++ (lw_privs_2 ++ (lw_privs_3))
def lw_tbl : List Cond := k2_sels lw_privs ++ tables_1
theorem lw_privs_ok : ∀ q ∈ lw_privs, lw_okq q := by
  show ∀ q ∈ lw_privs_1 ++ (lw_privs_2 ++ (lw_privs_3)), lw_okq q
  exact List.forall_mem_append.mpr ⟨lw_r1, List.forall_mem_append.mpr ⟨lw_r2, lw_r3⟩⟩
end
section
/-! Sums of natural numbers, and sums over xor. -/
def zs_sum : Nat → (Nat → Nat) → Nat
  | 0, _ => 0
  | n + 1, f => zs_sum n f + f n
theorem zs_0 (f : Nat → Nat) : zs_sum 0 f = 0 := rfl
theorem zs_s (n : Nat) (f : Nat → Nat) : zs_sum (n + 1) f = zs_sum n f + f n := rfl
theorem zs_congr {n : Nat} {f g : Nat → Nat} (h : ∀ i, i < n → f i = g i) : zs_sum n f = zs_sum n g := by
  induction n with
  | zero => rfl
  | succ n ih => rw [zs_s, zs_s, ih (fun i hi => h i (by omega)), h n (by omega)]
theorem zs_add (n : Nat) (f g : Nat → Nat) : zs_sum n (fun i => f i + g i) = zs_sum n f + zs_sum n g := by
  induction n with
  | zero => rfl
  | succ n ih => rw [zs_s, zs_s, zs_s, ih]; omega
theorem zs_mul (n c : Nat) (f : Nat → Nat) : zs_sum n (fun i => c * f i) = c * zs_sum n f := by
  induction n with
  | zero => rfl
  | succ n ih => rw [zs_s, zs_s, ih, Nat.mul_add]
theorem zs_mulr (n c : Nat) (f : Nat → Nat) : zs_sum n (fun i => f i * c) = zs_sum n f * c := by
  induction n with
  | zero => rw [zs_0, zs_0, Nat.zero_mul]
  | succ n ih => rw [zs_s, zs_s, ih, Nat.add_mul]
theorem zs_zero (n : Nat) : zs_sum n (fun _ => 0) = 0 := by
  induction n with
  | zero => rfl
  | succ n ih => rw [zs_s, ih]
theorem zs_const (n c : Nat) : zs_sum n (fun _ => c) = n * c := by
  induction n with
  | zero => rw [zs_0, Nat.zero_mul]
  | succ n ih => rw [zs_s, ih, Nat.add_mul, Nat.one_mul]
theorem zs_swap (n m : Nat) (f : Nat → Nat → Nat) : zs_sum n (fun i => zs_sum m (fun j => f i j)) = zs_sum m (fun j => zs_sum n (fun i => f i j)) := by
  induction n with
  | zero => exact (zs_zero m).symm
  | succ n ih =>
    rw [zs_s, ih, ← zs_add]
    rfl
theorem zs_app (n m : Nat) (f : Nat → Nat) : zs_sum (n + m) f = zs_sum n f + zs_sum m (fun i => f (n + i)) := by
  induction m with
  | zero => rfl
  | succ m ih => rw [← Nat.add_assoc, zs_s, ih, zs_s, Nat.add_assoc]
theorem zs_le {n : Nat} {f g : Nat → Nat} (h : ∀ i, i < n → f i ≤ g i) : zs_sum n f ≤ zs_sum n g := by
  induction n with
  | zero => exact Nat.le_refl _
  | succ n ih =>
    have h1 := ih (fun i hi => h i (by omega))
    have h2 := h n (by omega)
    rw [zs_s, zs_s]
    omega
theorem zs_one {n k : Nat} {f : Nat → Nat} (hk : k < n) : f k ≤ zs_sum n f := by
  induction n with
  | zero => omega
  | succ n ih =>
    rw [zs_s]
    by_cases h : k = n
    · subst h; omega
    · have := ih (by omega)
      omega
theorem zs_mono {n m : Nat} {f : Nat → Nat} (h : n ≤ m) : zs_sum n f ≤ zs_sum m f := by
  obtain ⟨d, rfl⟩ := Nat.exists_eq_add_of_le h
  rw [zs_app]
  exact Nat.le_add_right _ _
/-- the bit b set on top of a number below 2^b -/
theorem zx_top {b x : Nat} (hx : x < 2 ^ b) : 2 ^ b + x = 2 ^ b ^^^ x := by
  apply Nat.eq_of_testBit_eq
  intro i
  rw [Nat.testBit_xor, Nat.testBit_two_pow]
  by_cases h : b = i
  · subst h
    rw [Nat.testBit_two_pow_add_eq, Nat.testBit_lt_two_pow hx]
    simp
  · by_cases h2 : i < b
    · rw [Nat.testBit_two_pow_add_gt h2]
      simp [h]
    · have h3 : b < i := by omega
      have h4 : 2 ^ (b + 1) ≤ 2 ^ i := Nat.pow_le_pow_right (by omega) h3
      have h5 : 2 ^ b + x < 2 ^ i := by rw [Nat.pow_succ] at h4; omega
      have h6 : x < 2 ^ i := by rw [Nat.pow_succ] at h4; omega
      rw [Nat.testBit_lt_two_pow h5, Nat.testBit_lt_two_pow h6]
      simp [h]
theorem zx_comm (a b : Nat) : a ^^^ b = b ^^^ a := Nat.xor_comm a b
theorem zx_inv (a b : Nat) : a ^^^ (a ^^^ b) = b := by rw [← Nat.xor_assoc, Nat.xor_self, Nat.zero_xor]
theorem zx_split (b : Nat) (h : Nat → Nat) : zs_sum (2 ^ (b + 1)) h = zs_sum (2 ^ b) h + zs_sum (2 ^ b) (fun x => h (2 ^ b ^^^ x)) := by
  rw [Nat.pow_succ, Nat.mul_two, zs_app]
  congr 1
  exact zs_congr (fun i hi => by rw [zx_top hi])
theorem zx_low {b w : Nat} (hw : w < 2 ^ (b + 1)) : w < 2 ^ b ∨ ∃ v, v < 2 ^ b ∧ w = 2 ^ b ^^^ v := by
  by_cases h : w < 2 ^ b
  · exact Or.inl h
  · refine Or.inr ⟨w - 2 ^ b, ?_, ?_⟩
    · rw [Nat.pow_succ] at hw; omega
    · rw [← zx_top (by rw [Nat.pow_succ] at hw; omega)]; omega
/-- a sum over all numbers below 2^b doesn't change when they are all xored with one of them -/
theorem zx_shift (b : Nat) : ∀ (h : Nat → Nat) (w : Nat), w < 2 ^ b → zs_sum (2 ^ b) (fun u => h (u ^^^ w)) = zs_sum (2 ^ b) h := by
  induction b with
  | zero =>
    intro h w hw
    have : w = 0 := by simpa using hw
    subst this
    exact zs_congr (fun i _ => by rw [Nat.xor_zero])
  | succ b ih =>
    intro h w hw
    rw [zx_split, zx_split b h]
    rcases zx_low hw with h1 | ⟨v, hv, rfl⟩
    · rw [ih h w h1]
      congr 1
      rw [← ih (fun x => h (2 ^ b ^^^ x)) w h1]
      exact zs_congr (fun i _ => by rw [Nat.xor_assoc])
    · rw [← ih h v hv, ← ih (fun x => h (2 ^ b ^^^ x)) v hv, Nat.add_comm]
      congr 1
      · exact zs_congr (fun i _ => by
          rw [zx_comm (2 ^ b) i, Nat.xor_assoc, zx_inv])
      · exact zs_congr (fun i _ => by
          rw [← Nat.xor_assoc, ← Nat.xor_assoc, zx_comm i])
/-! How a way may change over a gap: a bit at a time, and all at once. -/
def jn_kx (k : Nat) : Nat → Nat → Nat
  | 0, _ => 1
  | b + 1, x => jn_kx k b x * (if x.testBit b = true then k else 16 - k)
/-- what reaches w when each of b bits may have changed -/
def jn_cr (k b : Nat) (v : Nat → Nat) (w : Nat) : Nat := zs_sum (2 ^ b) (fun x => v (w ^^^ x) * jn_kx k b x)
/-- one bit -/
def jn_bp (k b : Nat) (v : Nat → Nat) (w : Nat) : Nat := (16 - k) * v w + k * v (w ^^^ 2 ^ b)
def jn_ps (k : Nat) : Nat → (Nat → Nat) → Nat → Nat
  | 0, v => v
  | b + 1, v => jn_bp k b (jn_ps k b v)
theorem jn_kx_lo {k b x : Nat} : ∀ {j : Nat}, j ≤ b → jn_kx k j (2 ^ b ^^^ x) = jn_kx k j x := by
  intro j
  induction j with
  | zero => intro _; rfl
  | succ j ih =>
    intro h
    show jn_kx k j (2 ^ b ^^^ x) * _ = jn_kx k j x * _
    rw [ih (by omega), Nat.testBit_xor, Nat.testBit_two_pow_of_ne (by omega), Bool.false_xor]
theorem jn_ps_eq (k : Nat) (v : Nat → Nat) : ∀ (b w : Nat), jn_ps k b v w = jn_cr k b v w := by
  intro b
  induction b with
  | zero =>
    intro w
    show v w = 0 + v (w ^^^ 0) * 1
    rw [Nat.xor_zero]; omega
  | succ b ih =>
    intro w
    show (16 - k) * jn_ps k b v w + k * jn_ps k b v (w ^^^ 2 ^ b) = jn_cr k (b + 1) v w
    rw [ih, ih]
    unfold jn_cr
    rw [zx_split, ← zs_mul, ← zs_mul]
    congr 1
    · refine zs_congr (fun x hx => ?_)
      show _ = v (w ^^^ x) * (jn_kx k b x * (if x.testBit b = true then k else 16 - k))
      rw [Nat.testBit_lt_two_pow hx]
      simp only [Bool.false_eq_true, if_false]
      rw [Nat.mul_comm (16 - k), Nat.mul_assoc]
    · refine zs_congr (fun x hx => ?_)
      show _ = v (w ^^^ (2 ^ b ^^^ x)) * (jn_kx k b (2 ^ b ^^^ x) * (if (2 ^ b ^^^ x).testBit b = true then k else 16 - k))
      rw [jn_kx_lo (Nat.le_refl b), Nat.testBit_xor, Nat.testBit_two_pow_self, Nat.testBit_lt_two_pow hx]
      simp only [Bool.true_xor, Bool.not_false, if_true]
      rw [Nat.mul_comm k, Nat.mul_assoc, Nat.xor_assoc]
/-- the sum over the other way instead of over the change -/
theorem jn_cr_by (k b : Nat) (v : Nat → Nat) {w : Nat} (hw : w < 2 ^ b) : jn_cr k b v w = zs_sum (2 ^ b) (fun u => v u * jn_kx k b (u ^^^ w)) := by
  unfold jn_cr
  rw [← zx_shift b (fun x => v (w ^^^ x) * jn_kx k b x) w hw]
  exact zs_congr (fun u _ => by
    show v (w ^^^ (u ^^^ w)) * _ = _
    rw [zx_comm u w, zx_inv])
/-- the change is the same in both directions -/
theorem jn_cr_adj (k b : Nat) (f g : Nat → Nat) : zs_sum (2 ^ b) (fun w => jn_cr k b f w * g w) = zs_sum (2 ^ b) (fun w => f w * jn_cr k b g w) := by
  have h1 : zs_sum (2 ^ b) (fun w => jn_cr k b f w * g w) = zs_sum (2 ^ b) (fun w => zs_sum (2 ^ b) (fun x => f (w ^^^ x) * jn_kx k b x * g w)) :=
    zs_congr (fun w _ => (zs_mulr _ _ _).symm)
  have h2 : zs_sum (2 ^ b) (fun w => f w * jn_cr k b g w) = zs_sum (2 ^ b) (fun w => zs_sum (2 ^ b) (fun x => f w * (g (w ^^^ x) * jn_kx k b x))) :=
    zs_congr (fun w _ => (zs_mul _ _ _).symm)
  rw [h1, h2, zs_swap, zs_swap (2 ^ b) (2 ^ b) (fun w x => f w * (g (w ^^^ x) * jn_kx k b x))]
  refine zs_congr (fun x hx => ?_)
  rw [← zx_shift b (fun w => f w * (g (w ^^^ x) * jn_kx k b x)) x hx]
  refine zs_congr (fun w _ => ?_)
  show f (w ^^^ x) * jn_kx k b x * g w = f (w ^^^ x) * (g (w ^^^ x ^^^ x) * jn_kx k b x)
  rw [Nat.xor_assoc, Nat.xor_self, Nat.xor_zero, Nat.mul_assoc, Nat.mul_comm (jn_kx k b x)]
theorem jn_cr_congr {k b : Nat} {v v' : Nat → Nat} {w : Nat} (hw : w < 2 ^ b) (h : ∀ u, u < 2 ^ b → v u = v' u) : jn_cr k b v w = jn_cr k b v' w := by
  unfold jn_cr
  exact zs_congr (fun x hx => by rw [h _ (Nat.xor_lt_two_pow hw hx)])
/-- all changes together -/
theorem jn_kx_sum {k : Nat} (hk : k ≤ 16) : ∀ b, zs_sum (2 ^ b) (jn_kx k b) = 16 ^ b := by
  intro b
  induction b with
  | zero => rfl
  | succ b ih =>
    rw [zx_split]
    have h1 : zs_sum (2 ^ b) (jn_kx k (b + 1)) = zs_sum (2 ^ b) (jn_kx k b) * (16 - k) := by
      rw [← zs_mulr]
      refine zs_congr (fun x hx => ?_)
      show jn_kx k b x * _ = _
      rw [Nat.testBit_lt_two_pow hx]
      simp
    have h2 : zs_sum (2 ^ b) (fun x => jn_kx k (b + 1) (2 ^ b ^^^ x)) = zs_sum (2 ^ b) (jn_kx k b) * k := by
      rw [← zs_mulr]
      refine zs_congr (fun x hx => ?_)
      show jn_kx k b (2 ^ b ^^^ x) * _ = _
      rw [jn_kx_lo (Nat.le_refl b), Nat.testBit_xor, Nat.testBit_two_pow_self, Nat.testBit_lt_two_pow hx]
      simp
    rw [h1, h2, ih, ← Nat.mul_add, Nat.sub_add_cancel hk, Nat.pow_succ]
theorem jn_cr_le {k b M : Nat} {v : Nat → Nat} {w : Nat} (hk : k ≤ 16) (hw : w < 2 ^ b) (h : ∀ u, u < 2 ^ b → v u ≤ M) : jn_cr k b v w ≤ M * 16 ^ b := by
  unfold jn_cr
  rw [← jn_kx_sum hk b, ← zs_mul]
  exact zs_le (fun x hx => Nat.mul_le_mul_right _ (h _ (Nat.xor_lt_two_pow hw hx)))
/-- at rate 8 every change weighs the same; at any rate at most 2^b times that -/
theorem jn_kx_8 : ∀ (b x : Nat), jn_kx 8 b x = 8 ^ b := by
  intro b
  induction b with
  | zero => intro _; rfl
  | succ b ih =>
    intro x
    show jn_kx 8 b x * _ = _
    rw [ih, Nat.pow_succ]
    by_cases h : x.testBit b = true
    · rw [if_pos h]
    · rw [if_neg h]
theorem jn_kx_16 {k : Nat} (hk : k ≤ 16) : ∀ (b x : Nat), jn_kx k b x ≤ 16 ^ b := by
  intro b
  induction b with
  | zero => intro _; exact Nat.le_refl _
  | succ b ih =>
    intro x
    show jn_kx k b x * _ ≤ _
    rw [Nat.pow_succ]
    refine Nat.mul_le_mul (ih x) ?_
    by_cases h : x.testBit b = true
    · rw [if_pos h]; exact hk
    · rw [if_neg h]; omega
theorem jn_cr_8 {k b : Nat} (hk : k ≤ 16) {v v' : Nat → Nat} {c w : Nat} (hw : w < 2 ^ b) (h : ∀ u, u < 2 ^ b → v u ≤ c * v' u) : jn_cr k b v w ≤ c * 2 ^ b * jn_cr 8 b v' w := by
  unfold jn_cr
  rw [← zs_mul]
  refine zs_le (fun x hx => ?_)
  have h1 := h _ (Nat.xor_lt_two_pow hw hx)
  have h2 : jn_kx k b x ≤ 2 ^ b * jn_kx 8 b x := by
    rw [jn_kx_8, ← Nat.mul_pow]
    exact jn_kx_16 hk b x
  calc v (w ^^^ x) * jn_kx k b x ≤ (c * v' (w ^^^ x)) * (2 ^ b * jn_kx 8 b x) := Nat.mul_le_mul h1 h2
    _ = c * 2 ^ b * (v' (w ^^^ x) * jn_kx 8 b x) := by
      simp only [Nat.mul_comm, Nat.mul_left_comm, Nat.mul_assoc]
/-! The line of markers: B bits, M markers, the rate r m of the gap behind marker m, the fit ft m w. -/
def jn_al (B : Nat) (r : Nat → Nat) (ft : Nat → Nat → Nat) : Nat → Nat → Nat
  | 0, _ => 1
  | m + 1, w => jn_cr (r m) B (fun u => jn_al B r ft m u * ft m u) w
/-- JOINT of M + 1 markers -/
def jn_J (B : Nat) (r : Nat → Nat) (ft : Nat → Nat → Nat) (M : Nat) : Nat := zs_sum (2 ^ B) (fun w => jn_al B r ft M w * ft M w)
/-- from the last marker M back: d steps -/
def jn_be (B : Nat) (r : Nat → Nat) (ft : Nat → Nat → Nat) (M : Nat) : Nat → Nat → Nat
  | 0, _ => 1
  | d + 1, w => jn_cr (r (M - (d + 1))) B (fun u => jn_be B r ft M d u * ft (M - d) u) w
/-- the part of JOINT that has the way w at marker m -/
def jn_pt (B : Nat) (r : Nat → Nat) (ft : Nat → Nat → Nat) (M m w : Nat) : Nat := jn_al B r ft m w * jn_be B r ft M (M - m) w * ft m w
theorem jn_pt_sum (B : Nat) (r : Nat → Nat) (ft : Nat → Nat → Nat) (M : Nat) : ∀ d, d ≤ M → zs_sum (2 ^ B) (fun w => jn_pt B r ft M (M - d) w) = jn_J B r ft M := by
  intro d
  induction d with
  | zero =>
    intro _
    refine zs_congr (fun w _ => ?_)
    show jn_al B r ft (M - 0) w * jn_be B r ft M (M - (M - 0)) w * ft (M - 0) w = _
    rw [Nat.sub_zero, Nat.sub_self]
    show jn_al B r ft M w * 1 * ft M w = _
    rw [Nat.mul_one]
  | succ d ih =>
    intro h
    rw [← ih (by omega)]
    have e1 : M - (M - (d + 1)) = d + 1 := by omega
    have e2 : M - (M - d) = d := by omega
    have e3 : M - d = (M - (d + 1)) + 1 := by omega
    have h1 : zs_sum (2 ^ B) (fun w => jn_pt B r ft M (M - (d + 1)) w) = zs_sum (2 ^ B) (fun w => (jn_al B r ft (M - (d + 1)) w * ft (M - (d + 1)) w) * jn_cr (r (M - (d + 1))) B (fun u => jn_be B r ft M d u * ft (M - d) u) w) := by
      refine zs_congr (fun w _ => ?_)
      unfold jn_pt
      rw [e1]
      show jn_al B r ft (M - (d + 1)) w * jn_cr (r (M - (d + 1))) B (fun u => jn_be B r ft M d u * ft (M - d) u) w * ft (M - (d + 1)) w = _
      rw [Nat.mul_assoc, Nat.mul_comm (jn_cr _ _ _ _), ← Nat.mul_assoc]
    rw [h1, ← jn_cr_adj]
    refine zs_congr (fun w _ => ?_)
    unfold jn_pt
    rw [e2, e3]
    show jn_al B r ft (M - (d + 1) + 1) w * (jn_be B r ft M d w * ft (M - (d + 1) + 1) w) = _
    rw [Nat.mul_assoc]
theorem jn_pt_all {B : Nat} {r : Nat → Nat} {ft : Nat → Nat → Nat} {M m : Nat} (h : m ≤ M) : zs_sum (2 ^ B) (fun w => jn_pt B r ft M m w) = jn_J B r ft M := by
  have := jn_pt_sum B r ft M (M - m) (by omega)
  rwa [show M - (M - m) = m by omega] at this
end
section
/-! A number by its places in base B: k places of the row d from s on. -/
def nb_val (B : Nat) (d : Nat → Nat) (s : Nat) : Nat → Nat
  | 0 => 0
  | k + 1 => nb_val B d s k + d (s + k) * B ^ k
theorem nb_0 (B : Nat) (d : Nat → Nat) (s : Nat) : nb_val B d s 0 = 0 := rfl
theorem nb_s (B : Nat) (d : Nat → Nat) (s k : Nat) : nb_val B d s (k + 1) = nb_val B d s k + d (s + k) * B ^ k := rfl
theorem nb_congr {B : Nat} {d d' : Nat → Nat} {s s' k : Nat} (h : ∀ j, j < k → d (s + j) = d' (s' + j)) : nb_val B d s k = nb_val B d' s' k := by
  induction k with
  | zero => rfl
  | succ k ih => rw [nb_s, nb_s, ih (fun j hj => h j (by omega)), h k (by omega)]
theorem nb_lt {B : Nat} {d : Nat → Nat} {s k : Nat} (h : ∀ j, j < k → d (s + j) < B) : nb_val B d s k < B ^ k := by
  induction k with
  | zero => show 0 < 1; omega
  | succ k ih =>
    have h1 := ih (fun j hj => h j (by omega))
    have h2 := h k (by omega)
    rw [nb_s, Nat.pow_succ]
    have h3 : (d (s + k) + 1) * B ^ k ≤ B * B ^ k := Nat.mul_le_mul_right _ h2
    rw [Nat.add_mul, Nat.one_mul, Nat.mul_comm B] at h3
    omega
theorem nb_zero {B : Nat} {d : Nat → Nat} {s k : Nat} (h : ∀ j, j < k → d (s + j) = 0) : nb_val B d s k = 0 := by
  induction k with
  | zero => rfl
  | succ k ih => rw [nb_s, ih (fun j hj => h j (by omega)), h k (by omega), Nat.zero_mul]
theorem nb_is0 {B : Nat} {d : Nat → Nat} {s k : Nat} (hB : 0 < B) (h : nb_val B d s k = 0) : ∀ j, j < k → d (s + j) = 0 := by
  induction k with
  | zero => intro j hj; omega
  | succ k ih =>
    rw [nb_s] at h
    intro j hj
    have h1 : nb_val B d s k = 0 := by omega
    have h2 : d (s + k) * B ^ k = 0 := by omega
    by_cases e : j = k
    · subst e
      rcases Nat.mul_eq_zero.mp h2 with h3 | h3
      · exact h3
      · exact absurd h3 (Nat.ne_of_gt (Nat.pow_pos hB))
    · exact ih h1 j (by omega)
/-- the places above p alike, the place p less: the number is less -/
theorem nb_less {B : Nat} {a b : Nat → Nat} {s t p k : Nat} (hp : p < k) (ha : ∀ j, j < k → a (s + j) < B) (hab : ∀ j, p < j → j < k → a (s + j) = b (t + j)) (hl : a (s + p) < b (t + p)) : nb_val B a s k < nb_val B b t k := by
  induction k with
  | zero => omega
  | succ k ih =>
    rw [nb_s, nb_s]
    by_cases e : p = k
    · subst e
      have h1 := nb_lt (B := B) (d := a) (s := s) (k := p) (fun j hj => ha j (by omega))
      have h3 : (a (s + p) + 1) * B ^ p ≤ b (t + p) * B ^ p := Nat.mul_le_mul_right _ hl
      rw [Nat.add_mul, Nat.one_mul] at h3
      omega
    · have h1 := ih (by omega) (fun j hj => ha j (by omega)) (fun j h1 h2 => hab j h1 (by omega))
      rw [hab k (by omega) (by omega)]
      omega
theorem nb_inj {B : Nat} {a b : Nat → Nat} {s t k : Nat} (h : ∀ j, j < k → a (s + j) = b (t + j)) : nb_val B a s k = nb_val B b t k := nb_congr h
/-- the place i of a number -/
theorem nb_at {B : Nat} {d : Nat → Nat} {s k i : Nat} (h : ∀ j, j < k → d (s + j) < B) (hi : i < k) : nb_val B d s k / B ^ i % B = d (s + i) := by
  induction k with
  | zero => omega
  | succ k ih =>
    have hB : 0 < B := Nat.lt_of_le_of_lt (Nat.zero_le _) (h k (by omega))
    rw [nb_s]
    by_cases e : i = k
    · subst e
      rw [Nat.add_mul_div_right _ _ (Nat.pow_pos hB), Nat.div_eq_of_lt (nb_lt (fun j hj => h j (by omega))), Nat.zero_add]
      exact Nat.mod_eq_of_lt (h i (by omega))
    · have hik : i < k := by omega
      obtain ⟨e2, rfl⟩ : ∃ q, k = i + 1 + q := ⟨k - (i + 1), by omega⟩
      have h2 : d (s + (i + 1 + e2)) * B ^ (i + 1 + e2) = (d (s + (i + 1 + e2)) * B ^ e2 * B) * B ^ i := by
        rw [Nat.pow_add, Nat.pow_add, Nat.pow_one]
        simp only [Nat.mul_comm, Nat.mul_left_comm, Nat.mul_assoc]
      rw [h2, Nat.add_mul_div_right _ _ (Nat.pow_pos hB), Nat.add_mul_mod_self_right]
      exact ih (fun j hj => h j (by omega)) hik
/-- nothing is carried out of the top -/
theorem nb_top {x cy M t : Nat} (h : x + cy * M = t) (ht : t < M) : x = t := by
  rcases Nat.eq_zero_or_pos cy with h1 | h1
  · rw [h1, Nat.zero_mul] at h; omega
  · have h2 : 1 * M ≤ cy * M := Nat.mul_le_mul_right _ h1
    omega
/-- a row of numbers of P places each: how a new number is put there -/
theorem nb_up_out {B : Nat} {d : Nat → Nat} {s k i x : Nat} (h : i < s ∨ s + k ≤ i) : nb_val B (va_up d i x) s k = nb_val B d s k :=
  nb_congr (fun j hj => va_up_ne d x (by omega))
/-! Amounts: rows of numbers of six places in base 10^9. -/
theorem nb_carry {B : Nat} (u : Nat → Nat) (s k t : Nat) : nb_val B (va_up u (s + k) (t % B)) s (k + 1) + (t / B) * B ^ (k + 1) = nb_val B u s k + t * B ^ k := by
  rw [nb_s, va_up_self, nb_up_out (Or.inr (Nat.le_refl _)), Nat.pow_succ]
  have h1 : t = t % B + t / B * B := by rw [Nat.mul_comm]; exact (Nat.mod_add_div t B).symm
  have h2 : t / B * (B ^ k * B) = t / B * B * B ^ k := by
    rw [Nat.mul_comm (B ^ k) B, ← Nat.mul_assoc]
  have h3 : t * B ^ k = t % B * B ^ k + t / B * B * B ^ k := by
    rw [← Nat.add_mul, ← h1]
  omega
def am_ok (n : Nat) (d : Nat → Nat) : Prop := ∀ k, k < n * 6 → d k < 1000000000
def am_v (d : Nat → Nat) (i : Nat) : Nat := nb_val 1000000000 d (i * 6) 6
def am_R (n : Nat) (d V : Nat → Nat) : Prop := am_ok n d ∧ ∀ j, j < n → am_v d j = V j
/-- u is d but for the places of the number i below k -/
def am_W (n i k : Nat) (d u : Nat → Nat) : Prop := am_ok n u ∧ ∀ j, j < n * 6 → j < i * 6 ∨ i * 6 + k ≤ j → u j = d j
theorem am_W0 {n i : Nat} {d : Nat → Nat} (h : am_ok n d) : am_W n i 0 d d := ⟨h, fun _ _ _ => rfl⟩
theorem am_WS {n i k x : Nat} {d u : Nat → Nat} (h : am_W n i k d u) (hi : i < n) (hk : k < 6) (hx : x < 1000000000) : am_W n i (k + 1) d (va_up u (i * 6 + k) x) := by
  refine ⟨fun j hj => ?_, fun j hj hc => ?_⟩
  · by_cases e : j = i * 6 + k
    · rw [e, va_up_self]; exact hx
    · rw [va_up_ne _ _ e]; exact h.1 j hj
  · rw [va_up_ne _ _ (by omega)]
    exact h.2 j hj (by omega)
theorem am_Wat {n i k : Nat} {d u : Nat → Nat} (h : am_W n i k d u) (hi : i < n) (hk : k < 6) : u (i * 6 + k) = d (i * 6 + k) := h.2 _ (by omega) (Or.inr (Nat.le_refl _))
theorem am_WF {n i x : Nat} {d u V : Nat → Nat} (h : am_W n i 6 d u) (hR : am_R n d V) (hx : am_v u i = x) : am_R n u (va_up V i x) := by
  refine ⟨h.1, fun j hj => ?_⟩
  by_cases e : j = i
  · subst e; rw [va_up_self]; exact hx
  · rw [va_up_ne _ _ e, ← hR.2 j hj]
    exact nb_congr (fun q hq => h.2 _ (by omega) (by omega))
theorem am_lt {n i : Nat} {d : Nat → Nat} (h : am_ok n d) (hi : i < n) : am_v d i < 1000000000 ^ 6 := nb_lt (fun j hj => h _ (by omega))
/-- set -/
def am_setI (n i v k : Nat) (d u : Nat → Nat) : Prop := am_W n i k d u ∧ 1 ≤ k ∧ nb_val 1000000000 u (i * 6) k = v
theorem am_set1 {n i v : Nat} {d : Nat → Nat} (h : am_ok n d) (hi : i < n) (hv : v < 1000000000) : am_setI n i v 1 d (va_up d (i * 6) v) := by
  refine ⟨am_WS (am_W0 h) hi (by omega) hv, by omega, ?_⟩
  show 0 + va_up d (i * 6) v (i * 6 + 0) * 1000000000 ^ 0 = v
  rw [Nat.add_zero, va_up_self]; omega
theorem am_setS {n i v k : Nat} {d u : Nat → Nat} (h : am_setI n i v k d u) (hi : i < n) (hk : k < 6) : am_setI n i v (k + 1) d (va_up u (i * 6 + k) 0) := by
  refine ⟨am_WS h.1 hi hk (by omega), by omega, ?_⟩
  rw [nb_s, va_up_self, Nat.zero_mul, Nat.add_zero, nb_up_out (Or.inr (Nat.le_refl _))]
  exact h.2.2
theorem am_setF {n i v : Nat} {d u V : Nat → Nat} (h : am_setI n i v 6 d u) (hR : am_R n d V) : am_R n u (va_up V i v) := am_WF h.1 hR h.2.2
/-- copy -/
def am_cpI (n to fr k : Nat) (d u : Nat → Nat) : Prop := am_W n to k d u ∧ ∀ j, j < k → u (to * 6 + j) = d (fr * 6 + j)
theorem am_cp0 {n to fr : Nat} {d : Nat → Nat} (h : am_ok n d) : am_cpI n to fr 0 d d := ⟨am_W0 h, fun j hj => by omega⟩
theorem am_cp_at {n to fr k : Nat} {d u : Nat → Nat} (h : am_cpI n to fr k d u) (hf : fr < n) (hk : k < 6) : u (fr * 6 + k) = d (fr * 6 + k) := by
  by_cases e : fr = to
  · subst e; exact am_Wat h.1 hf hk
  · exact h.1.2 _ (by omega) (by omega)
theorem am_cpS {n to fr k : Nat} {d u : Nat → Nat} (h : am_cpI n to fr k d u) (ht : to < n) (hf : fr < n) (hk : k < 6) : am_cpI n to fr (k + 1) d (va_up u (to * 6 + k) (u (fr * 6 + k))) := by
  refine ⟨am_WS h.1 ht hk (h.1.1 _ (by omega)), fun j hj => ?_⟩
  by_cases e : j = k
  · subst e; rw [va_up_self]; exact am_cp_at h hf hk
  · rw [va_up_ne _ _ (by omega)]; exact h.2 j (by omega)
theorem am_cpF {n to fr : Nat} {d u V : Nat → Nat} (h : am_cpI n to fr 6 d u) (hR : am_R n d V) (hf : fr < n) : am_R n u (va_up V to (V fr)) :=
  am_WF h.1 hR ((nb_congr h.2).trans (hR.2 fr hf))
/-- add -/
def am_adI (n to fr k cy : Nat) (d u d2 : Nat → Nat) : Prop := am_W n to k d u ∧ nb_val 1000000000 u (to * 6) k + cy * 1000000000 ^ k = nb_val 1000000000 d (to * 6) k + nb_val 1000000000 d2 (fr * 6) k ∧ cy ≤ 1
theorem am_ad0 {n to fr : Nat} {d d2 : Nat → Nat} (h : am_ok n d) : am_adI n to fr 0 0 d d d2 := ⟨am_W0 h, rfl, by omega⟩
theorem am_adS {n n2 to fr k cy : Nat} {d u d2 : Nat → Nat} (h : am_adI n to fr k cy d u d2) (h2 : am_ok n2 d2) (ht : to < n) (hf : fr < n2) (hk : k < 6) :
    am_adI n to fr (k + 1) ((u (to * 6 + k) + d2 (fr * 6 + k) + cy) / 1000000000) d (va_up u (to * 6 + k) ((u (to * 6 + k) + d2 (fr * 6 + k) + cy) % 1000000000)) d2 := by
  have b1 := h.1.1 (to * 6 + k) (by omega)
  have b2 := h2 (fr * 6 + k) (by omega)
  have b3 := h.2.2
  refine ⟨am_WS h.1 ht hk (Nat.mod_lt _ (by omega)), ?_, by omega⟩
  rw [nb_carry, nb_s, nb_s, ← am_Wat h.1 ht hk]
  have h3 := h.2.1
  rw [Nat.add_mul, Nat.add_mul]
  omega
theorem am_adF {n n2 to fr cy : Nat} {d u d2 V V2 : Nat → Nat} (h : am_adI n to fr 6 cy d u d2) (hR : am_R n d V) (hR2 : am_R n2 d2 V2) (ht : to < n) (hf : fr < n2) (hl : V to + V2 fr < 1000000000 ^ 6) : am_R n u (va_up V to (V to + V2 fr)) := by
  refine am_WF h.1 hR ?_
  rw [← hR.2 to ht, ← hR2.2 fr hf] at hl ⊢
  exact nb_top h.2.1 hl
/-- multiply -/
def am_muI (n i f k cy : Nat) (d u : Nat → Nat) : Prop := am_W n i k d u ∧ nb_val 1000000000 u (i * 6) k + cy * 1000000000 ^ k = nb_val 1000000000 d (i * 6) k * f ∧ cy ≤ f
theorem am_mu0 {n i f : Nat} {d : Nat → Nat} (h : am_ok n d) : am_muI n i f 0 0 d d := ⟨am_W0 h, by rw [nb_0]; omega, by omega⟩
theorem am_mu_lt {n i f k cy : Nat} {d u : Nat → Nat} (h : am_muI n i f k cy d u) (hi : i < n) (hk : k < 6) (hf : f < 2147483648) : u (i * 6 + k) * f + cy < 2 ^ 63 := by
  have b1 := h.1.1 (i * 6 + k) (by omega)
  have b3 := h.2.2
  have h1 : u (i * 6 + k) * f ≤ 999999999 * f := Nat.mul_le_mul_right _ (by omega)
  omega
theorem am_muS {n i f k cy : Nat} {d u : Nat → Nat} (h : am_muI n i f k cy d u) (hi : i < n) (hk : k < 6) :
    am_muI n i f (k + 1) ((u (i * 6 + k) * f + cy) / 1000000000) d (va_up u (i * 6 + k) ((u (i * 6 + k) * f + cy) % 1000000000)) := by
  have b1 := h.1.1 (i * 6 + k) (by omega)
  have b3 := h.2.2
  refine ⟨am_WS h.1 hi hk (Nat.mod_lt _ (by omega)), ?_, ?_⟩
  · rw [nb_carry, nb_s, ← am_Wat h.1 hi hk]
    have h3 := h.2.1
    rw [Nat.add_mul, Nat.add_mul (nb_val _ _ _ _), ← h3, Nat.mul_assoc, Nat.mul_assoc, Nat.mul_comm f]
    omega
  · have h1 : u (i * 6 + k) * f ≤ 999999999 * f := Nat.mul_le_mul_right _ (by omega)
    omega
theorem am_muF {n i f cy : Nat} {d u V : Nat → Nat} (h : am_muI n i f 6 cy d u) (hR : am_R n d V) (hi : i < n) (hl : V i * f < 1000000000 ^ 6) : am_R n u (va_up V i (V i * f)) := by
  refine am_WF h.1 hR ?_
  rw [← hR.2 i hi] at hl ⊢
  exact nb_top h.2.1 hl
end
section
/-! Amounts: product, blend, compare. -/
/-- the column p of a product -/
def am_cv (l r : Nat → Nat) (s p : Nat) : Nat := zs_sum (p + 1) (fun j => l (s + j) * r (s + p - j))
def am_cs (l r : Nat → Nat) (s : Nat) : Nat → Nat
  | 0 => 0
  | k + 1 => am_cs l r s k + am_cv l r s k * 1000000000 ^ k
theorem am_cs6 (l r : Nat → Nat) (s : Nat) : ∃ x, nb_val 1000000000 l s 6 * nb_val 1000000000 r s 6 = am_cs l r s 6 + x * 1000000000 ^ 6 := by
  refine ⟨l (s + 1) * r (s + 5) + l (s + 2) * r (s + 4) + l (s + 3) * r (s + 3) + l (s + 4) * r (s + 2) + l (s + 5) * r (s + 1) + (l (s + 2) * r (s + 5) + l (s + 3) * r (s + 4) + l (s + 4) * r (s + 3) + l (s + 5) * r (s + 2)) * 1000000000 + (l (s + 3) * r (s + 5) + l (s + 4) * r (s + 4) + l (s + 5) * r (s + 3)) * 1000000000 ^ 2 + (l (s + 4) * r (s + 5) + l (s + 5) * r (s + 4)) * 1000000000 ^ 3 + l (s + 5) * r (s + 5) * 1000000000 ^ 4, ?_⟩
  have e : ∀ p j, s + p - j = s + (p - j) ∨ p < j := fun p j => by omega
  simp only [nb_val, am_cs, am_cv, zs_sum, Nat.add_zero, Nat.sub_zero, Nat.zero_add]
  have e1 : ∀ q, s + (q + 1) - 1 = s + q := fun q => by omega
  rw [show s + 1 - 1 = s by omega, show s + 2 - 1 = s + 1 by omega, show s + 2 - 2 = s by omega, show s + 3 - 1 = s + 2 by omega, show s + 3 - 2 = s + 1 by omega, show s + 3 - 3 = s by omega,
    show s + 4 - 1 = s + 3 by omega, show s + 4 - 2 = s + 2 by omega, show s + 4 - 3 = s + 1 by omega, show s + 4 - 4 = s by omega,
    show s + 5 - 1 = s + 4 by omega, show s + 5 - 2 = s + 3 by omega, show s + 5 - 3 = s + 2 by omega, show s + 5 - 4 = s + 1 by omega, show s + 5 - 5 = s by omega]
  generalize l s = a0, l (s + 1) = a1, l (s + 2) = a2, l (s + 3) = a3, l (s + 4) = a4, l (s + 5) = a5
  generalize r s = b0, r (s + 1) = b1, r (s + 2) = b2, r (s + 3) = b3, r (s + 4) = b4, r (s + 5) = b5
  grind
def am_prI (n i k col : Nat) (d u l r : Nat → Nat) : Prop := am_W n i k d u ∧ nb_val 1000000000 u (i * 6) k + col * 1000000000 ^ k = am_cs l r (i * 6) k ∧ col ≤ 7000000000
theorem am_pr0 {n i : Nat} {d l r : Nat → Nat} (h : am_ok n d) : am_prI n i 0 0 d d l r := ⟨am_W0 h, rfl, by omega⟩
/-- inside a column: j products summed -/
def am_prC (s k col j cj : Nat) (l r : Nat → Nat) : Prop := cj = col + zs_sum j (fun q => l (s + q) * r (s + k - q))
theorem am_prC0 (s k col : Nat) (l r : Nat → Nat) : am_prC s k col 0 col l r := rfl
theorem am_prCS {s k col j cj : Nat} {l r : Nat → Nat} (h : am_prC s k col j cj l r) : am_prC s k col (j + 1) (cj + l (s + j) * r (s + k - j)) l r := by
  unfold am_prC at h ⊢
  rw [zs_s, h]; omega
theorem am_prC_le {n i k col j cj : Nat} {l r : Nat → Nat} (hl : am_ok n l) (hr : am_ok n r) (hi : i < n) (hk : k < 6) (hj : j ≤ k + 1) (hc : col ≤ 7000000000) (h : am_prC (i * 6) k col j cj l r) : cj ≤ 7000000000 + j * 1000000000000000000 := by
  unfold am_prC at h
  have h1 : zs_sum j (fun q => l (i * 6 + q) * r (i * 6 + k - q)) ≤ zs_sum j (fun _ => 1000000000000000000) := zs_le (fun q hq => by
    have a1 := hl (i * 6 + q) (by omega)
    have a2 := hr (i * 6 + k - q) (by omega)
    exact Nat.le_trans (Nat.mul_le_mul (Nat.le_of_lt a1) (Nat.le_of_lt a2)) (by decide))
  rw [zs_const] at h1
  omega
theorem am_pr_mul {n i k j : Nat} {l r : Nat → Nat} (hl : am_ok n l) (hr : am_ok n r) (hi : i < n) (hk : k < 6) (hj : j ≤ k) : l (i * 6 + j) * r (i * 6 + k - j) ≤ 1000000000000000000 := by
  have a1 := hl (i * 6 + j) (by omega)
  have a2 := hr (i * 6 + k - j) (by omega)
  exact Nat.le_trans (Nat.mul_le_mul (Nat.le_of_lt a1) (Nat.le_of_lt a2)) (by decide)
theorem am_prS {n i k col cj : Nat} {d u l r : Nat → Nat} (h : am_prI n i k col d u l r) (hl : am_ok n l) (hr : am_ok n r) (hi : i < n) (hk : k < 6) (hC : am_prC (i * 6) k col (k + 1) cj l r) :
    am_prI n i (k + 1) (cj / 1000000000) d (va_up u (i * 6 + k) (cj % 1000000000)) l r := by
  have hb := am_prC_le hl hr hi hk (Nat.le_refl _) h.2.2 hC
  refine ⟨am_WS h.1 hi hk (Nat.mod_lt _ (by omega)), ?_, by omega⟩
  rw [nb_carry]
  show _ = am_cs l r (i * 6) k + am_cv l r (i * 6) k * 1000000000 ^ k
  have h3 := h.2.1
  have h4 : cj = col + am_cv l r (i * 6) k := hC
  rw [h4, Nat.add_mul]
  omega
theorem am_prF {n i col : Nat} {d u l r V Vl Vr : Nat → Nat} (h : am_prI n i 6 col d u l r) (hR : am_R n d V) (hl : am_R n l Vl) (hr : am_R n r Vr) (hi : i < n) (hb : Vl i * Vr i < 1000000000 ^ 6) : am_R n u (va_up V i (Vl i * Vr i)) := by
  refine am_WF h.1 hR ?_
  obtain ⟨x, hx⟩ := am_cs6 l r (i * 6)
  rw [← hl.2 i hi, ← hr.2 i hi] at hb ⊢
  refine nb_top (cy := col + x) (M := 1000000000 ^ 6) ?_ hb
  have h2 := h.2.1
  show nb_val 1000000000 u (i * 6) 6 + (col + x) * 1000000000 ^ 6 = nb_val 1000000000 l (i * 6) 6 * nb_val 1000000000 r (i * 6) 6
  rw [hx, ← h2, Nat.add_mul, Nat.add_assoc]
/-- blend: two numbers o, t of one row at once -/
def am_blI (n o t r k c1 c2 : Nat) (d u : Nat → Nat) : Prop := am_ok n u ∧ (∀ j, j < n * 6 → j < o * 6 ∨ o * 6 + k ≤ j → j < t * 6 ∨ t * 6 + k ≤ j → u j = d j) ∧
  nb_val 1000000000 u (o * 6) k + c1 * 1000000000 ^ k = (16 - r) * nb_val 1000000000 d (o * 6) k + r * nb_val 1000000000 d (t * 6) k ∧
  nb_val 1000000000 u (t * 6) k + c2 * 1000000000 ^ k = r * nb_val 1000000000 d (o * 6) k + (16 - r) * nb_val 1000000000 d (t * 6) k ∧ c1 ≤ 16 ∧ c2 ≤ 16
theorem am_bl0 {n o t r : Nat} {d : Nat → Nat} (h : am_ok n d) : am_blI n o t r 0 0 0 d d := ⟨h, fun _ _ _ _ => rfl, rfl, rfl, by omega, by omega⟩
theorem am_bl_lt {n o t r k c1 c2 : Nat} {d u : Nat → Nat} (h : am_blI n o t r k c1 c2 d u) (ho : o < n) (ht : t < n) (hr : r ≤ 16) (hk : k < 6) : (16 - r) * u (o * 6 + k) + r * u (t * 6 + k) + c1 < 2 ^ 63 ∧ r * u (o * 6 + k) + (16 - r) * u (t * 6 + k) + c2 < 2 ^ 63 := by
  obtain ⟨h1, h2, h3, h4, h5, h6⟩ := h
  have b1 := h1 (o * 6 + k) (by omega)
  have b2 := h1 (t * 6 + k) (by omega)
  have x1 : (16 - r) * u (o * 6 + k) ≤ 16 * 999999999 := Nat.mul_le_mul (by omega) (by omega)
  have x2 : r * u (t * 6 + k) ≤ 16 * 999999999 := Nat.mul_le_mul hr (by omega)
  have x3 : r * u (o * 6 + k) ≤ 16 * 999999999 := Nat.mul_le_mul hr (by omega)
  have x4 : (16 - r) * u (t * 6 + k) ≤ 16 * 999999999 := Nat.mul_le_mul (by omega) (by omega)
  omega
theorem am_blS {n o t r k c1 c2 : Nat} {d u : Nat → Nat} (h : am_blI n o t r k c1 c2 d u) (ho : o < n) (ht : t < n) (hot : o ≠ t) (hr : r ≤ 16) (hk : k < 6) :
    am_blI n o t r (k + 1) (((16 - r) * u (o * 6 + k) + r * u (t * 6 + k) + c1) / 1000000000) ((r * u (o * 6 + k) + (16 - r) * u (t * 6 + k) + c2) / 1000000000) d
      (va_up (va_up u (o * 6 + k) (((16 - r) * u (o * 6 + k) + r * u (t * 6 + k) + c1) % 1000000000)) (t * 6 + k) ((r * u (o * 6 + k) + (16 - r) * u (t * 6 + k) + c2) % 1000000000)) := by
  obtain ⟨h1, h2, h3, h4, h5, h6⟩ := h
  have b1 := h1 (o * 6 + k) (by omega)
  have b2 := h1 (t * 6 + k) (by omega)
  have q1 : u (o * 6 + k) = d (o * 6 + k) := h2 _ (by omega) (by omega) (by omega)
  have q2 : u (t * 6 + k) = d (t * 6 + k) := h2 _ (by omega) (by omega) (by omega)
  have m1 : (16 - r) * u (o * 6 + k) + r * u (t * 6 + k) ≤ 16 * 999999999 := by
    have a1 : (16 - r) * u (o * 6 + k) ≤ (16 - r) * 999999999 := Nat.mul_le_mul_left _ (by omega)
    have a2 : r * u (t * 6 + k) ≤ r * 999999999 := Nat.mul_le_mul_left _ (by omega)
    have a3 : (16 - r) * 999999999 + r * 999999999 = 16 * 999999999 := by rw [← Nat.add_mul, Nat.sub_add_cancel hr]
    omega
  have m2 : r * u (o * 6 + k) + (16 - r) * u (t * 6 + k) ≤ 16 * 999999999 := by
    have a1 : (16 - r) * u (t * 6 + k) ≤ (16 - r) * 999999999 := Nat.mul_le_mul_left _ (by omega)
    have a2 : r * u (o * 6 + k) ≤ r * 999999999 := Nat.mul_le_mul_left _ (by omega)
    have a3 : (16 - r) * 999999999 + r * 999999999 = 16 * 999999999 := by rw [← Nat.add_mul, Nat.sub_add_cancel hr]
    omega
  refine ⟨fun j hj => ?_, fun j hj e1 e2 => ?_, ?_, ?_, by omega, by omega⟩
  · by_cases e2 : j = t * 6 + k
    · rw [e2, va_up_self]; exact Nat.mod_lt _ (by omega)
    · rw [va_up_ne _ _ e2]
      by_cases e1 : j = o * 6 + k
      · rw [e1, va_up_self]; exact Nat.mod_lt _ (by omega)
      · rw [va_up_ne _ _ e1]; exact h1 j hj
  · rw [va_up_ne _ _ (by omega), va_up_ne _ _ (by omega)]
    exact h2 j hj (by omega) (by omega)
  · rw [nb_up_out (by omega), nb_carry, nb_s, nb_s, ← q1, ← q2]
    simp only [Nat.add_mul, Nat.mul_add, ← Nat.mul_assoc]
    omega
  · rw [show va_up (va_up u (o * 6 + k) (((16 - r) * u (o * 6 + k) + r * u (t * 6 + k) + c1) % 1000000000)) (t * 6 + k) ((r * u (o * 6 + k) + (16 - r) * u (t * 6 + k) + c2) % 1000000000) = va_up (va_up u (o * 6 + k) (((16 - r) * u (o * 6 + k) + r * u (t * 6 + k) + c1) % 1000000000)) (t * 6 + k) ((r * u (o * 6 + k) + (16 - r) * u (t * 6 + k) + c2) % 1000000000) from rfl, nb_carry, nb_up_out (by omega), nb_s, nb_s, ← q1, ← q2]
    simp only [Nat.add_mul, Nat.mul_add, ← Nat.mul_assoc]
    omega
theorem am_blF {n o t r c1 c2 : Nat} {d u V : Nat → Nat} (h : am_blI n o t r 6 c1 c2 d u) (hR : am_R n d V) (ho : o < n) (ht : t < n) (hl1 : (16 - r) * V o + r * V t < 1000000000 ^ 6) (hl2 : r * V o + (16 - r) * V t < 1000000000 ^ 6) :
    am_R n u (va_up (va_up V o ((16 - r) * V o + r * V t)) t (r * V o + (16 - r) * V t)) := by
  obtain ⟨h1, h2, h3, h4, -, -⟩ := h
  rw [← hR.2 o ho, ← hR.2 t ht] at hl1 hl2 ⊢
  have z1 : am_v u o = (16 - r) * am_v d o + r * am_v d t := nb_top h3 hl1
  have z2 : am_v u t = r * am_v d o + (16 - r) * am_v d t := nb_top h4 hl2
  refine ⟨h1, fun j hj => ?_⟩
  by_cases q2 : j = t
  · subst q2; rw [va_up_self]; exact z2
  · rw [va_up_ne _ _ q2]
    by_cases q1 : j = o
    · subst q1; rw [va_up_self]; exact z1
    · rw [va_up_ne _ _ q1, ← hR.2 j hj]
      exact nb_congr (fun q hq => h2 _ (by omega) (by omega) (by omega))
/-- what a comparison answers: 1, 0, or -1 as 2^32 - 1 -/
def mg_cmp (a b : Nat) : Nat := if a < b then 4294967295 else if a = b then 0 else 1
theorem am_cmp_lt {n o t p : Nat} {d V : Nat → Nat} (hR : am_R n d V) (ho : o < n) (ht : t < n) (hp : p < 6) (he : ∀ j, p < j → j < 6 → d (o * 6 + j) = d (t * 6 + j)) (hl : d (o * 6 + p) < d (t * 6 + p)) : mg_cmp (V o) (V t) = 4294967295 := by
  have h : am_v d o < am_v d t := nb_less hp (fun j hj => hR.1 _ (by omega)) he hl
  rw [hR.2 o ho, hR.2 t ht] at h
  exact if_pos h
theorem am_cmp_gt {n o t p : Nat} {d V : Nat → Nat} (hR : am_R n d V) (ho : o < n) (ht : t < n) (hp : p < 6) (he : ∀ j, p < j → j < 6 → d (o * 6 + j) = d (t * 6 + j)) (hl : d (t * 6 + p) < d (o * 6 + p)) : mg_cmp (V o) (V t) = 1 := by
  have h : am_v d t < am_v d o := nb_less hp (fun j hj => hR.1 _ (by omega)) (fun j a b => (he j a b).symm) hl
  rw [hR.2 o ho, hR.2 t ht] at h
  unfold mg_cmp
  rw [if_neg (by omega), if_neg (by omega)]
theorem am_cmp_eq {n o t : Nat} {d V : Nat → Nat} (hR : am_R n d V) (ho : o < n) (ht : t < n) (he : ∀ j, j < 6 → d (o * 6 + j) = d (t * 6 + j)) : mg_cmp (V o) (V t) = 0 := by
  have h : am_v d o = am_v d t := nb_congr he
  rw [hR.2 o ho, hR.2 t ht] at h
  unfold mg_cmp
  rw [if_neg (by omega), if_pos h]
theorem am_zero {n i : Nat} {d V : Nat → Nat} (hR : am_R n d V) (hi : i < n) (h : ∀ j, j < 6 → d (i * 6 + j) = 0) : V i = 0 := by
  rw [← hR.2 i hi]
  exact nb_zero h
theorem am_nonzero {n i k : Nat} {d V : Nat → Nat} (hR : am_R n d V) (hi : i < n) (hk : k < 6) (h : d (i * 6 + k) ≠ 0) : V i ≠ 0 := fun e => by
  rw [← hR.2 i hi] at e
  exact h (nb_is0 (by decide) e k hk)
end
