section
-- ===== PART A: goes FIRST, ahead of the names: the tables' words, and 'selects' of the private methods out of them =====
/-- a private method of a class that the tables say can be made, by its rows of tables_1 -/
def lw_okq (q : MethodName × Nat) : Prop := (q.1.cls ≠ "java/lang/invoke/MethodHandle" ∧ q.1.cls ≠ "java/lang/invoke/VarHandle") ∧ Cond.instantiable q.1.cls q.2 ∈ tables_1 ∧ Cond.privateMethod q.1 ∈ tables_1 ∧ Cond.instanceMethod q.1 ∈ tables_1
theorem lw_p0 : lw_okq (⟨"LinkedMarkers", "exponent", "()I"⟩, 6) := ⟨⟨by decide +kernel, by decide +kernel⟩, List.mem_of_getElem? (i := 15) (by decide +kernel), List.mem_of_getElem? (i := 178) (by decide +kernel), List.mem_of_getElem? (i := 179) (by decide +kernel)⟩
theorem lw_p1 : lw_okq (⟨"java/lang/Throwable", "fillInStackTrace", "(I)Ljava/lang/Throwable;"⟩, 6) := ⟨⟨by decide +kernel, by decide +kernel⟩, List.mem_of_getElem? (i := 240) (by decide +kernel), List.mem_of_getElem? (i := 238) (by decide +kernel), List.mem_of_getElem? (i := 239) (by decide +kernel)⟩
theorem lw_p2 : lw_okq (⟨"LinkedMarkers$Fits", "sumFrom", "(III)I"⟩, 4) := ⟨⟨by decide +kernel, by decide +kernel⟩, List.mem_of_getElem? (i := 80) (by decide +kernel), List.mem_of_getElem? (i := 279) (by decide +kernel), List.mem_of_getElem? (i := 280) (by decide +kernel)⟩
theorem lw_p3 : lw_okq (⟨"LinkedMarkers$Fits", "weightOfLetters", "(I)I"⟩, 4) := ⟨⟨by decide +kernel, by decide +kernel⟩, List.mem_of_getElem? (i := 80) (by decide +kernel), List.mem_of_getElem? (i := 284) (by decide +kernel), List.mem_of_getElem? (i := 285) (by decide +kernel)⟩
theorem lw_p4 : lw_okq (⟨"LinkedMarkers$Fits", "sumWith", "(IIIII)I"⟩, 4) := ⟨⟨by decide +kernel, by decide +kernel⟩, List.mem_of_getElem? (i := 80) (by decide +kernel), List.mem_of_getElem? (i := 304) (by decide +kernel), List.mem_of_getElem? (i := 305) (by decide +kernel)⟩
theorem lw_p5 : lw_okq (⟨"LinkedMarkers$Sums", "comeFromBefore", "(I)V"⟩, 8) := ⟨⟨by decide +kernel, by decide +kernel⟩, List.mem_of_getElem? (i := 99) (by decide +kernel), List.mem_of_getElem? (i := 463) (by decide +kernel), List.mem_of_getElem? (i := 464) (by decide +kernel)⟩
theorem lw_p6 : lw_okq (⟨"LinkedMarkers$Sums", "fillWithOnes", "(LLinkedMarkers$Amounts;)V"⟩, 8) := ⟨⟨by decide +kernel, by decide +kernel⟩, List.mem_of_getElem? (i := 99) (by decide +kernel), List.mem_of_getElem? (i := 467) (by decide +kernel), List.mem_of_getElem? (i := 468) (by decide +kernel)⟩
theorem lw_p7 : lw_okq (⟨"LinkedMarkers$Sums", "multiplyByFits", "(LLinkedMarkers$Amounts;I)V"⟩, 8) := ⟨⟨by decide +kernel, by decide +kernel⟩, List.mem_of_getElem? (i := 99) (by decide +kernel), List.mem_of_getElem? (i := 476) (by decide +kernel), List.mem_of_getElem? (i := 477) (by decide +kernel)⟩
theorem lw_p8 : lw_okq (⟨"LinkedMarkers$Sums", "crossGap", "(LLinkedMarkers$Amounts;I)V"⟩, 8) := ⟨⟨by decide +kernel, by decide +kernel⟩, List.mem_of_getElem? (i := 99) (by decide +kernel), List.mem_of_getElem? (i := 486) (by decide +kernel), List.mem_of_getElem? (i := 487) (by decide +kernel)⟩
theorem lw_p9 : lw_okq (⟨"LinkedMarkers$Sums", "addUp", "(ILLinkedMarkers$Amounts;)V"⟩, 8) := ⟨⟨by decide +kernel, by decide +kernel⟩, List.mem_of_getElem? (i := 99) (by decide +kernel), List.mem_of_getElem? (i := 495) (by decide +kernel), List.mem_of_getElem? (i := 496) (by decide +kernel)⟩
theorem lw_p10 : lw_okq (⟨"LinkedMarkers$Sums", "comeFromBehind", "(I)V"⟩, 8) := ⟨⟨by decide +kernel, by decide +kernel⟩, List.mem_of_getElem? (i := 99) (by decide +kernel), List.mem_of_getElem? (i := 574) (by decide +kernel), List.mem_of_getElem? (i := 575) (by decide +kernel)⟩
theorem lw_p11 : lw_okq (⟨"LinkedMarkersModel", "isAnySeen", "()Z"⟩, 26) := ⟨⟨by decide +kernel, by decide +kernel⟩, List.mem_of_getElem? (i := 614) (by decide +kernel), List.mem_of_getElem? (i := 711) (by decide +kernel), List.mem_of_getElem? (i := 712) (by decide +kernel)⟩
theorem lw_p12 : lw_okq (⟨"LinkedMarkersModel", "refused", "(I)Z"⟩, 26) := ⟨⟨by decide +kernel, by decide +kernel⟩, List.mem_of_getElem? (i := 614) (by decide +kernel), List.mem_of_getElem? (i := 715) (by decide +kernel), List.mem_of_getElem? (i := 716) (by decide +kernel)⟩
theorem lw_p13 : lw_okq (⟨"LinkedMarkersModel", "forget", "()V"⟩, 26) := ⟨⟨by decide +kernel, by decide +kernel⟩, List.mem_of_getElem? (i := 614) (by decide +kernel), List.mem_of_getElem? (i := 719) (by decide +kernel), List.mem_of_getElem? (i := 720) (by decide +kernel)⟩
theorem lw_p14 : lw_okq (⟨"LinkedMarkersModel", "isPerson", "(I)Z"⟩, 26) := ⟨⟨by decide +kernel, by decide +kernel⟩, List.mem_of_getElem? (i := 614) (by decide +kernel), List.mem_of_getElem? (i := 727) (by decide +kernel), List.mem_of_getElem? (i := 728) (by decide +kernel)⟩
theorem lw_p15 : lw_okq (⟨"LinkedMarkersModel", "isGap", "(I)Z"⟩, 26) := ⟨⟨by decide +kernel, by decide +kernel⟩, List.mem_of_getElem? (i := 614) (by decide +kernel), List.mem_of_getElem? (i := 739) (by decide +kernel), List.mem_of_getElem? (i := 740) (by decide +kernel)⟩
def lw_privs_1 : List (MethodName × Nat) := [(⟨"LinkedMarkers", "exponent", "()I"⟩, 6), (⟨"java/lang/Throwable", "fillInStackTrace", "(I)Ljava/lang/Throwable;"⟩, 6), (⟨"LinkedMarkers$Fits", "sumFrom", "(III)I"⟩, 4), (⟨"LinkedMarkers$Fits", "weightOfLetters", "(I)I"⟩, 4), (⟨"LinkedMarkers$Fits", "sumWith", "(IIIII)I"⟩, 4), (⟨"LinkedMarkers$Sums", "comeFromBefore", "(I)V"⟩, 8), (⟨"LinkedMarkers$Sums", "fillWithOnes", "(LLinkedMarkers$Amounts;)V"⟩, 8), (⟨"LinkedMarkers$Sums", "multiplyByFits", "(LLinkedMarkers$Amounts;I)V"⟩, 8), (⟨"LinkedMarkers$Sums", "crossGap", "(LLinkedMarkers$Amounts;I)V"⟩, 8), (⟨"LinkedMarkers$Sums", "addUp", "(ILLinkedMarkers$Amounts;)V"⟩, 8), (⟨"LinkedMarkers$Sums", "comeFromBehind", "(I)V"⟩, 8), (⟨"LinkedMarkersModel", "isAnySeen", "()Z"⟩, 26), (⟨"LinkedMarkersModel", "refused", "(I)Z"⟩, 26), (⟨"LinkedMarkersModel", "forget", "()V"⟩, 26), (⟨"LinkedMarkersModel", "isPerson", "(I)Z"⟩, 26), (⟨"LinkedMarkersModel", "isGap", "(I)Z"⟩, 26)]
theorem lw_r1 : ∀ q ∈ lw_privs_1, lw_okq q := List.forall_mem_cons.mpr ⟨lw_p0, List.forall_mem_cons.mpr ⟨lw_p1, List.forall_mem_cons.mpr ⟨lw_p2, List.forall_mem_cons.mpr ⟨lw_p3, List.forall_mem_cons.mpr ⟨lw_p4, List.forall_mem_cons.mpr ⟨lw_p5, List.forall_mem_cons.mpr ⟨lw_p6, List.forall_mem_cons.mpr ⟨lw_p7, List.forall_mem_cons.mpr ⟨lw_p8, List.forall_mem_cons.mpr ⟨lw_p9, List.forall_mem_cons.mpr ⟨lw_p10, List.forall_mem_cons.mpr ⟨lw_p11, List.forall_mem_cons.mpr ⟨lw_p12, List.forall_mem_cons.mpr ⟨lw_p13, List.forall_mem_cons.mpr ⟨lw_p14, List.forall_mem_cons.mpr ⟨lw_p15, fun _ h => absurd h List.not_mem_nil⟩⟩⟩⟩⟩⟩⟩⟩⟩⟩⟩⟩⟩⟩⟩⟩
theorem lw_p16 : lw_okq (⟨"LinkedMarkersModel", "isMarker", "(I)Z"⟩, 26) := ⟨⟨by decide +kernel, by decide +kernel⟩, List.mem_of_getElem? (i := 614) (by decide +kernel), List.mem_of_getElem? (i := 747) (by decide +kernel), List.mem_of_getElem? (i := 748) (by decide +kernel)⟩
theorem lw_p17 : lw_okq (⟨"LinkedMarkersModel", "ways", "()I"⟩, 26) := ⟨⟨by decide +kernel, by decide +kernel⟩, List.mem_of_getElem? (i := 614) (by decide +kernel), List.mem_of_getElem? (i := 762) (by decide +kernel), List.mem_of_getElem? (i := 763) (by decide +kernel)⟩
theorem lw_p18 : lw_okq (⟨"LinkedMarkersModel", "isWay", "(I)Z"⟩, 26) := ⟨⟨by decide +kernel, by decide +kernel⟩, List.mem_of_getElem? (i := 614) (by decide +kernel), List.mem_of_getElem? (i := 770) (by decide +kernel), List.mem_of_getElem? (i := 771) (by decide +kernel)⟩
theorem lw_p19 : lw_okq (⟨"LinkedMarkersModel", "originOf", "(III)I"⟩, 26) := ⟨⟨by decide +kernel, by decide +kernel⟩, List.mem_of_getElem? (i := 614) (by decide +kernel), List.mem_of_getElem? (i := 774) (by decide +kernel), List.mem_of_getElem? (i := 775) (by decide +kernel)⟩
theorem lw_p20 : lw_okq (⟨"LinkedMarkersModel", "fitOf", "(II)I"⟩, 26) := ⟨⟨by decide +kernel, by decide +kernel⟩, List.mem_of_getElem? (i := 614) (by decide +kernel), List.mem_of_getElem? (i := 782) (by decide +kernel), List.mem_of_getElem? (i := 783) (by decide +kernel)⟩
theorem lw_p21 : lw_okq (⟨"LinkedMarkersModel", "reckonFit", "(II)I"⟩, 26) := ⟨⟨by decide +kernel, by decide +kernel⟩, List.mem_of_getElem? (i := 614) (by decide +kernel), List.mem_of_getElem? (i := 786) (by decide +kernel), List.mem_of_getElem? (i := 787) (by decide +kernel)⟩
theorem lw_p22 : lw_okq (⟨"LinkedMarkersModel", "isSo", "(II)Z"⟩, 26) := ⟨⟨by decide +kernel, by decide +kernel⟩, List.mem_of_getElem? (i := 614) (by decide +kernel), List.mem_of_getElem? (i := 790) (by decide +kernel), List.mem_of_getElem? (i := 791) (by decide +kernel)⟩
theorem lw_p23 : lw_okq (⟨"LinkedMarkersModel", "useRates", "()V"⟩, 26) := ⟨⟨by decide +kernel, by decide +kernel⟩, List.mem_of_getElem? (i := 614) (by decide +kernel), List.mem_of_getElem? (i := 798) (by decide +kernel), List.mem_of_getElem? (i := 799) (by decide +kernel)⟩
theorem lw_p24 : lw_okq (⟨"LinkedMarkersModel", "reckon", "([J)V"⟩, 26) := ⟨⟨by decide +kernel, by decide +kernel⟩, List.mem_of_getElem? (i := 614) (by decide +kernel), List.mem_of_getElem? (i := 802) (by decide +kernel), List.mem_of_getElem? (i := 803) (by decide +kernel)⟩
theorem lw_p25 : lw_okq (⟨"LinkedMarkersModel", "reckonBefore", "()V"⟩, 26) := ⟨⟨by decide +kernel, by decide +kernel⟩, List.mem_of_getElem? (i := 614) (by decide +kernel), List.mem_of_getElem? (i := 806) (by decide +kernel), List.mem_of_getElem? (i := 807) (by decide +kernel)⟩
theorem lw_p26 : lw_okq (⟨"LinkedMarkersModel", "reckonChanges", "(I)V"⟩, 26) := ⟨⟨by decide +kernel, by decide +kernel⟩, List.mem_of_getElem? (i := 614) (by decide +kernel), List.mem_of_getElem? (i := 810) (by decide +kernel), List.mem_of_getElem? (i := 811) (by decide +kernel)⟩
theorem lw_p27 : lw_okq (⟨"LinkedMarkersModel", "quotient", "([JJ[J)I"⟩, 26) := ⟨⟨by decide +kernel, by decide +kernel⟩, List.mem_of_getElem? (i := 614) (by decide +kernel), List.mem_of_getElem? (i := 832) (by decide +kernel), List.mem_of_getElem? (i := 833) (by decide +kernel)⟩
theorem lw_p28 : lw_okq (⟨"LinkedMarkersModel", "chance", "(IIII)I"⟩, 26) := ⟨⟨by decide +kernel, by decide +kernel⟩, List.mem_of_getElem? (i := 614) (by decide +kernel), List.mem_of_getElem? (i := 851) (by decide +kernel), List.mem_of_getElem? (i := 852) (by decide +kernel)⟩
theorem lw_p29 : lw_okq (⟨"LinkedMarkersModel", "reckonAll", "()V"⟩, 26) := ⟨⟨by decide +kernel, by decide +kernel⟩, List.mem_of_getElem? (i := 614) (by decide +kernel), List.mem_of_getElem? (i := 855) (by decide +kernel), List.mem_of_getElem? (i := 856) (by decide +kernel)⟩
theorem lw_p30 : lw_okq (⟨"LinkedMarkersModel", "reckonBehind", "()V"⟩, 26) := ⟨⟨by decide +kernel, by decide +kernel⟩, List.mem_of_getElem? (i := 614) (by decide +kernel), List.mem_of_getElem? (i := 859) (by decide +kernel), List.mem_of_getElem? (i := 860) (by decide +kernel)⟩
theorem lw_p31 : lw_okq (⟨"LinkedMarkersModel", "isSame", "(III)Z"⟩, 26) := ⟨⟨by decide +kernel, by decide +kernel⟩, List.mem_of_getElem? (i := 614) (by decide +kernel), List.mem_of_getElem? (i := 863) (by decide +kernel), List.mem_of_getElem? (i := 864) (by decide +kernel)⟩
def lw_privs_2 : List (MethodName × Nat) := [(⟨"LinkedMarkersModel", "isMarker", "(I)Z"⟩, 26), (⟨"LinkedMarkersModel", "ways", "()I"⟩, 26), (⟨"LinkedMarkersModel", "isWay", "(I)Z"⟩, 26), (⟨"LinkedMarkersModel", "originOf", "(III)I"⟩, 26), (⟨"LinkedMarkersModel", "fitOf", "(II)I"⟩, 26), (⟨"LinkedMarkersModel", "reckonFit", "(II)I"⟩, 26), (⟨"LinkedMarkersModel", "isSo", "(II)Z"⟩, 26), (⟨"LinkedMarkersModel", "useRates", "()V"⟩, 26), (⟨"LinkedMarkersModel", "reckon", "([J)V"⟩, 26), (⟨"LinkedMarkersModel", "reckonBefore", "()V"⟩, 26), (⟨"LinkedMarkersModel", "reckonChanges", "(I)V"⟩, 26), (⟨"LinkedMarkersModel", "quotient", "([JJ[J)I"⟩, 26), (⟨"LinkedMarkersModel", "chance", "(IIII)I"⟩, 26), (⟨"LinkedMarkersModel", "reckonAll", "()V"⟩, 26), (⟨"LinkedMarkersModel", "reckonBehind", "()V"⟩, 26), (⟨"LinkedMarkersModel", "isSame", "(III)Z"⟩, 26)]
theorem lw_r2 : ∀ q ∈ lw_privs_2, lw_okq q := List.forall_mem_cons.mpr ⟨lw_p16, List.forall_mem_cons.mpr ⟨lw_p17, List.forall_mem_cons.mpr ⟨lw_p18, List.forall_mem_cons.mpr ⟨lw_p19, List.forall_mem_cons.mpr ⟨lw_p20, List.forall_mem_cons.mpr ⟨lw_p21, List.forall_mem_cons.mpr ⟨lw_p22, List.forall_mem_cons.mpr ⟨lw_p23, List.forall_mem_cons.mpr ⟨lw_p24, List.forall_mem_cons.mpr ⟨lw_p25, List.forall_mem_cons.mpr ⟨lw_p26, List.forall_mem_cons.mpr ⟨lw_p27, List.forall_mem_cons.mpr ⟨lw_p28, List.forall_mem_cons.mpr ⟨lw_p29, List.forall_mem_cons.mpr ⟨lw_p30, List.forall_mem_cons.mpr ⟨lw_p31, fun _ h => absurd h List.not_mem_nil⟩⟩⟩⟩⟩⟩⟩⟩⟩⟩⟩⟩⟩⟩⟩⟩
theorem lw_p32 : lw_okq (⟨"LinkedMarkersModel", "multiply", "([JI[JI)V"⟩, 26) := ⟨⟨by decide +kernel, by decide +kernel⟩, List.mem_of_getElem? (i := 614) (by decide +kernel), List.mem_of_getElem? (i := 867) (by decide +kernel), List.mem_of_getElem? (i := 868) (by decide +kernel)⟩
def lw_privs_3 : List (MethodName × Nat) := [(⟨"LinkedMarkersModel", "multiply", "([JI[JI)V"⟩, 26)]
theorem lw_r3 : ∀ q ∈ lw_privs_3, lw_okq q := List.forall_mem_cons.mpr ⟨lw_p32, fun _ h => absurd h List.not_mem_nil⟩
def lw_privs : List (MethodName × Nat) := lw_privs_1 ++ (lw_privs_2 ++ (lw_privs_3))
def lw_tbl : List Cond := k2_sels lw_privs ++ tables_1
theorem lw_privs_ok : ∀ q ∈ lw_privs, lw_okq q := by
  show ∀ q ∈ lw_privs_1 ++ (lw_privs_2 ++ (lw_privs_3)), lw_okq q
  exact List.forall_mem_append.mpr ⟨lw_r1, List.forall_mem_append.mpr ⟨lw_r2, lw_r3⟩⟩
end
section
/-! Sums of natural numbers, and sums over xor. -/
def zs_sum : Nat → (Nat → Nat) → Nat
  | 0, _ => 0
  | n + 1, f => zs_sum n f + f n
theorem zs_0 (f : Nat → Nat) : zs_sum 0 f = 0 := rfl
theorem zs_s (n : Nat) (f : Nat → Nat) : zs_sum (n + 1) f = zs_sum n f + f n := rfl
theorem zs_congr {n : Nat} {f g : Nat → Nat} (h : ∀ i, i < n → f i = g i) : zs_sum n f = zs_sum n g := by
  induction n with
  | zero => rfl
  | succ n ih => rw [zs_s, zs_s, ih (fun i hi => h i (by omega)), h n (by omega)]
theorem zs_add (n : Nat) (f g : Nat → Nat) : zs_sum n (fun i => f i + g i) = zs_sum n f + zs_sum n g := by
  induction n with
  | zero => rfl
  | succ n ih => rw [zs_s, zs_s, zs_s, ih]; omega
theorem zs_mul (n c : Nat) (f : Nat → Nat) : zs_sum n (fun i => c * f i) = c * zs_sum n f := by
  induction n with
  | zero => rfl
  | succ n ih => rw [zs_s, zs_s, ih, Nat.mul_add]
theorem zs_mulr (n c : Nat) (f : Nat → Nat) : zs_sum n (fun i => f i * c) = zs_sum n f * c := by
  induction n with
  | zero => rw [zs_0, zs_0, Nat.zero_mul]
  | succ n ih => rw [zs_s, zs_s, ih, Nat.add_mul]
theorem zs_zero (n : Nat) : zs_sum n (fun _ => 0) = 0 := by
  induction n with
  | zero => rfl
  | succ n ih => rw [zs_s, ih]
theorem zs_const (n c : Nat) : zs_sum n (fun _ => c) = n * c := by
  induction n with
  | zero => rw [zs_0, Nat.zero_mul]
  | succ n ih => rw [zs_s, ih, Nat.add_mul, Nat.one_mul]
theorem zs_swap (n m : Nat) (f : Nat → Nat → Nat) : zs_sum n (fun i => zs_sum m (fun j => f i j)) = zs_sum m (fun j => zs_sum n (fun i => f i j)) := by
  induction n with
  | zero => exact (zs_zero m).symm
  | succ n ih =>
    rw [zs_s, ih, ← zs_add]
    rfl
theorem zs_app (n m : Nat) (f : Nat → Nat) : zs_sum (n + m) f = zs_sum n f + zs_sum m (fun i => f (n + i)) := by
  induction m with
  | zero => rfl
  | succ m ih => rw [← Nat.add_assoc, zs_s, ih, zs_s, Nat.add_assoc]
theorem zs_le {n : Nat} {f g : Nat → Nat} (h : ∀ i, i < n → f i ≤ g i) : zs_sum n f ≤ zs_sum n g := by
  induction n with
  | zero => exact Nat.le_refl _
  | succ n ih =>
    have h1 := ih (fun i hi => h i (by omega))
    have h2 := h n (by omega)
    rw [zs_s, zs_s]
    omega
theorem zs_one {n k : Nat} {f : Nat → Nat} (hk : k < n) : f k ≤ zs_sum n f := by
  induction n with
  | zero => omega
  | succ n ih =>
    rw [zs_s]
    by_cases h : k = n
    · subst h; omega
    · have := ih (by omega)
      omega
theorem zs_mono {n m : Nat} {f : Nat → Nat} (h : n ≤ m) : zs_sum n f ≤ zs_sum m f := by
  obtain ⟨d, rfl⟩ := Nat.exists_eq_add_of_le h
  rw [zs_app]
  exact Nat.le_add_right _ _
/-- the bit b set on top of a number below 2^b -/
theorem zx_top {b x : Nat} (hx : x < 2 ^ b) : 2 ^ b + x = 2 ^ b ^^^ x := by
  apply Nat.eq_of_testBit_eq
  intro i
  rw [Nat.testBit_xor, Nat.testBit_two_pow]
  by_cases h : b = i
  · subst h
    rw [Nat.testBit_two_pow_add_eq, Nat.testBit_lt_two_pow hx]
    simp
  · by_cases h2 : i < b
    · rw [Nat.testBit_two_pow_add_gt h2]
      simp [h]
    · have h3 : b < i := by omega
      have h4 : 2 ^ (b + 1) ≤ 2 ^ i := Nat.pow_le_pow_right (by omega) h3
      have h5 : 2 ^ b + x < 2 ^ i := by rw [Nat.pow_succ] at h4; omega
      have h6 : x < 2 ^ i := by rw [Nat.pow_succ] at h4; omega
      rw [Nat.testBit_lt_two_pow h5, Nat.testBit_lt_two_pow h6]
      simp [h]
theorem zx_comm (a b : Nat) : a ^^^ b = b ^^^ a := Nat.xor_comm a b
theorem zx_inv (a b : Nat) : a ^^^ (a ^^^ b) = b := by rw [← Nat.xor_assoc, Nat.xor_self, Nat.zero_xor]
theorem zx_split (b : Nat) (h : Nat → Nat) : zs_sum (2 ^ (b + 1)) h = zs_sum (2 ^ b) h + zs_sum (2 ^ b) (fun x => h (2 ^ b ^^^ x)) := by
  rw [Nat.pow_succ, Nat.mul_two, zs_app]
  congr 1
  exact zs_congr (fun i hi => by rw [zx_top hi])
theorem zx_low {b w : Nat} (hw : w < 2 ^ (b + 1)) : w < 2 ^ b ∨ ∃ v, v < 2 ^ b ∧ w = 2 ^ b ^^^ v := by
  by_cases h : w < 2 ^ b
  · exact Or.inl h
  · refine Or.inr ⟨w - 2 ^ b, ?_, ?_⟩
    · rw [Nat.pow_succ] at hw; omega
    · rw [← zx_top (by rw [Nat.pow_succ] at hw; omega)]; omega
/-- a sum over all numbers below 2^b doesn't change when they are all xored with one of them -/
theorem zx_shift (b : Nat) : ∀ (h : Nat → Nat) (w : Nat), w < 2 ^ b → zs_sum (2 ^ b) (fun u => h (u ^^^ w)) = zs_sum (2 ^ b) h := by
  induction b with
  | zero =>
    intro h w hw
    have : w = 0 := by simpa using hw
    subst this
    exact zs_congr (fun i _ => by rw [Nat.xor_zero])
  | succ b ih =>
    intro h w hw
    rw [zx_split, zx_split b h]
    rcases zx_low hw with h1 | ⟨v, hv, rfl⟩
    · rw [ih h w h1]
      congr 1
      rw [← ih (fun x => h (2 ^ b ^^^ x)) w h1]
      exact zs_congr (fun i _ => by rw [Nat.xor_assoc])
    · rw [← ih h v hv, ← ih (fun x => h (2 ^ b ^^^ x)) v hv, Nat.add_comm]
      congr 1
      · exact zs_congr (fun i _ => by
          rw [zx_comm (2 ^ b) i, Nat.xor_assoc, zx_inv])
      · exact zs_congr (fun i _ => by
          rw [← Nat.xor_assoc, ← Nat.xor_assoc, zx_comm i])
/-! How a way may change over a gap: a bit at a time, and all at once. -/
def jn_kx (k : Nat) : Nat → Nat → Nat
  | 0, _ => 1
  | b + 1, x => jn_kx k b x * (if x.testBit b = true then k else 16 - k)
/-- what reaches w when each of b bits may have changed -/
def jn_cr (k b : Nat) (v : Nat → Nat) (w : Nat) : Nat := zs_sum (2 ^ b) (fun x => v (w ^^^ x) * jn_kx k b x)
/-- one bit -/
def jn_bp (k b : Nat) (v : Nat → Nat) (w : Nat) : Nat := (16 - k) * v w + k * v (w ^^^ 2 ^ b)
def jn_ps (k : Nat) : Nat → (Nat → Nat) → Nat → Nat
  | 0, v => v
  | b + 1, v => jn_bp k b (jn_ps k b v)
theorem jn_kx_lo {k b x : Nat} : ∀ {j : Nat}, j ≤ b → jn_kx k j (2 ^ b ^^^ x) = jn_kx k j x := by
  intro j
  induction j with
  | zero => intro _; rfl
  | succ j ih =>
    intro h
    show jn_kx k j (2 ^ b ^^^ x) * _ = jn_kx k j x * _
    rw [ih (by omega), Nat.testBit_xor, Nat.testBit_two_pow_of_ne (by omega), Bool.false_xor]
theorem jn_ps_eq (k : Nat) (v : Nat → Nat) : ∀ (b w : Nat), jn_ps k b v w = jn_cr k b v w := by
  intro b
  induction b with
  | zero =>
    intro w
    show v w = 0 + v (w ^^^ 0) * 1
    rw [Nat.xor_zero]; omega
  | succ b ih =>
    intro w
    show (16 - k) * jn_ps k b v w + k * jn_ps k b v (w ^^^ 2 ^ b) = jn_cr k (b + 1) v w
    rw [ih, ih]
    unfold jn_cr
    rw [zx_split, ← zs_mul, ← zs_mul]
    congr 1
    · refine zs_congr (fun x hx => ?_)
      show _ = v (w ^^^ x) * (jn_kx k b x * (if x.testBit b = true then k else 16 - k))
      rw [Nat.testBit_lt_two_pow hx]
      simp only [Bool.false_eq_true, if_false]
      rw [Nat.mul_comm (16 - k), Nat.mul_assoc]
    · refine zs_congr (fun x hx => ?_)
      show _ = v (w ^^^ (2 ^ b ^^^ x)) * (jn_kx k b (2 ^ b ^^^ x) * (if (2 ^ b ^^^ x).testBit b = true then k else 16 - k))
      rw [jn_kx_lo (Nat.le_refl b), Nat.testBit_xor, Nat.testBit_two_pow_self, Nat.testBit_lt_two_pow hx]
      simp only [Bool.true_xor, Bool.not_false, if_true]
      rw [Nat.mul_comm k, Nat.mul_assoc, Nat.xor_assoc]
/-- the sum over the other way instead of over the change -/
theorem jn_cr_by (k b : Nat) (v : Nat → Nat) {w : Nat} (hw : w < 2 ^ b) : jn_cr k b v w = zs_sum (2 ^ b) (fun u => v u * jn_kx k b (u ^^^ w)) := by
  unfold jn_cr
  rw [← zx_shift b (fun x => v (w ^^^ x) * jn_kx k b x) w hw]
  exact zs_congr (fun u _ => by
    show v (w ^^^ (u ^^^ w)) * _ = _
    rw [zx_comm u w, zx_inv])
/-- the change is the same in both directions -/
theorem jn_cr_adj (k b : Nat) (f g : Nat → Nat) : zs_sum (2 ^ b) (fun w => jn_cr k b f w * g w) = zs_sum (2 ^ b) (fun w => f w * jn_cr k b g w) := by
  have h1 : zs_sum (2 ^ b) (fun w => jn_cr k b f w * g w) = zs_sum (2 ^ b) (fun w => zs_sum (2 ^ b) (fun x => f (w ^^^ x) * jn_kx k b x * g w)) :=
    zs_congr (fun w _ => (zs_mulr _ _ _).symm)
  have h2 : zs_sum (2 ^ b) (fun w => f w * jn_cr k b g w) = zs_sum (2 ^ b) (fun w => zs_sum (2 ^ b) (fun x => f w * (g (w ^^^ x) * jn_kx k b x))) :=
    zs_congr (fun w _ => (zs_mul _ _ _).symm)
  rw [h1, h2, zs_swap, zs_swap (2 ^ b) (2 ^ b) (fun w x => f w * (g (w ^^^ x) * jn_kx k b x))]
  refine zs_congr (fun x hx => ?_)
  rw [← zx_shift b (fun w => f w * (g (w ^^^ x) * jn_kx k b x)) x hx]
  refine zs_congr (fun w _ => ?_)
  show f (w ^^^ x) * jn_kx k b x * g w = f (w ^^^ x) * (g (w ^^^ x ^^^ x) * jn_kx k b x)
  rw [Nat.xor_assoc, Nat.xor_self, Nat.xor_zero, Nat.mul_assoc, Nat.mul_comm (jn_kx k b x)]
theorem jn_cr_congr {k b : Nat} {v v' : Nat → Nat} {w : Nat} (hw : w < 2 ^ b) (h : ∀ u, u < 2 ^ b → v u = v' u) : jn_cr k b v w = jn_cr k b v' w := by
  unfold jn_cr
  exact zs_congr (fun x hx => by rw [h _ (Nat.xor_lt_two_pow hw hx)])
/-- all changes together -/
theorem jn_kx_sum {k : Nat} (hk : k ≤ 16) : ∀ b, zs_sum (2 ^ b) (jn_kx k b) = 16 ^ b := by
  intro b
  induction b with
  | zero => rfl
  | succ b ih =>
    rw [zx_split]
    have h1 : zs_sum (2 ^ b) (jn_kx k (b + 1)) = zs_sum (2 ^ b) (jn_kx k b) * (16 - k) := by
      rw [← zs_mulr]
      refine zs_congr (fun x hx => ?_)
      show jn_kx k b x * _ = _
      rw [Nat.testBit_lt_two_pow hx]
      simp
    have h2 : zs_sum (2 ^ b) (fun x => jn_kx k (b + 1) (2 ^ b ^^^ x)) = zs_sum (2 ^ b) (jn_kx k b) * k := by
      rw [← zs_mulr]
      refine zs_congr (fun x hx => ?_)
      show jn_kx k b (2 ^ b ^^^ x) * _ = _
      rw [jn_kx_lo (Nat.le_refl b), Nat.testBit_xor, Nat.testBit_two_pow_self, Nat.testBit_lt_two_pow hx]
      simp
    rw [h1, h2, ih, ← Nat.mul_add, Nat.sub_add_cancel hk, Nat.pow_succ]
theorem jn_cr_le {k b M : Nat} {v : Nat → Nat} {w : Nat} (hk : k ≤ 16) (hw : w < 2 ^ b) (h : ∀ u, u < 2 ^ b → v u ≤ M) : jn_cr k b v w ≤ M * 16 ^ b := by
  unfold jn_cr
  rw [← jn_kx_sum hk b, ← zs_mul]
  exact zs_le (fun x hx => Nat.mul_le_mul_right _ (h _ (Nat.xor_lt_two_pow hw hx)))
/-- at rate 8 every change weighs the same; at any rate at most 2^b times that -/
theorem jn_kx_8 : ∀ (b x : Nat), jn_kx 8 b x = 8 ^ b := by
  intro b
  induction b with
  | zero => intro _; rfl
  | succ b ih =>
    intro x
    show jn_kx 8 b x * _ = _
    rw [ih, Nat.pow_succ]
    by_cases h : x.testBit b = true
    · rw [if_pos h]
    · rw [if_neg h]
theorem jn_kx_16 {k : Nat} (hk : k ≤ 16) : ∀ (b x : Nat), jn_kx k b x ≤ 16 ^ b := by
  intro b
  induction b with
  | zero => intro _; exact Nat.le_refl _
  | succ b ih =>
    intro x
    show jn_kx k b x * _ ≤ _
    rw [Nat.pow_succ]
    refine Nat.mul_le_mul (ih x) ?_
    by_cases h : x.testBit b = true
    · rw [if_pos h]; exact hk
    · rw [if_neg h]; omega
theorem jn_cr_8 {k b : Nat} (hk : k ≤ 16) {v v' : Nat → Nat} {c w : Nat} (hw : w < 2 ^ b) (h : ∀ u, u < 2 ^ b → v u ≤ c * v' u) : jn_cr k b v w ≤ c * 2 ^ b * jn_cr 8 b v' w := by
  unfold jn_cr
  rw [← zs_mul]
  refine zs_le (fun x hx => ?_)
  have h1 := h _ (Nat.xor_lt_two_pow hw hx)
  have h2 : jn_kx k b x ≤ 2 ^ b * jn_kx 8 b x := by
    rw [jn_kx_8, ← Nat.mul_pow]
    exact jn_kx_16 hk b x
  calc v (w ^^^ x) * jn_kx k b x ≤ (c * v' (w ^^^ x)) * (2 ^ b * jn_kx 8 b x) := Nat.mul_le_mul h1 h2
    _ = c * 2 ^ b * (v' (w ^^^ x) * jn_kx 8 b x) := by
      simp only [Nat.mul_comm, Nat.mul_left_comm, Nat.mul_assoc]
/-! The line of markers: B bits, M markers, the rate r m of the gap behind marker m, the fit ft m w. -/
def jn_al (B : Nat) (r : Nat → Nat) (ft : Nat → Nat → Nat) : Nat → Nat → Nat
  | 0, _ => 1
  | m + 1, w => jn_cr (r m) B (fun u => jn_al B r ft m u * ft m u) w
/-- JOINT of M + 1 markers -/
def jn_J (B : Nat) (r : Nat → Nat) (ft : Nat → Nat → Nat) (M : Nat) : Nat := zs_sum (2 ^ B) (fun w => jn_al B r ft M w * ft M w)
/-- from the last marker M back: d steps -/
def jn_be (B : Nat) (r : Nat → Nat) (ft : Nat → Nat → Nat) (M : Nat) : Nat → Nat → Nat
  | 0, _ => 1
  | d + 1, w => jn_cr (r (M - (d + 1))) B (fun u => jn_be B r ft M d u * ft (M - d) u) w
/-- the part of JOINT that has the way w at marker m -/
def jn_pt (B : Nat) (r : Nat → Nat) (ft : Nat → Nat → Nat) (M m w : Nat) : Nat := jn_al B r ft m w * jn_be B r ft M (M - m) w * ft m w
theorem jn_pt_sum (B : Nat) (r : Nat → Nat) (ft : Nat → Nat → Nat) (M : Nat) : ∀ d, d ≤ M → zs_sum (2 ^ B) (fun w => jn_pt B r ft M (M - d) w) = jn_J B r ft M := by
  intro d
  induction d with
  | zero =>
    intro _
    refine zs_congr (fun w _ => ?_)
    show jn_al B r ft (M - 0) w * jn_be B r ft M (M - (M - 0)) w * ft (M - 0) w = _
    rw [Nat.sub_zero, Nat.sub_self]
    show jn_al B r ft M w * 1 * ft M w = _
    rw [Nat.mul_one]
  | succ d ih =>
    intro h
    rw [← ih (by omega)]
    have e1 : M - (M - (d + 1)) = d + 1 := by omega
    have e2 : M - (M - d) = d := by omega
    have e3 : M - d = (M - (d + 1)) + 1 := by omega
    have h1 : zs_sum (2 ^ B) (fun w => jn_pt B r ft M (M - (d + 1)) w) = zs_sum (2 ^ B) (fun w => (jn_al B r ft (M - (d + 1)) w * ft (M - (d + 1)) w) * jn_cr (r (M - (d + 1))) B (fun u => jn_be B r ft M d u * ft (M - d) u) w) := by
      refine zs_congr (fun w _ => ?_)
      unfold jn_pt
      rw [e1]
      show jn_al B r ft (M - (d + 1)) w * jn_cr (r (M - (d + 1))) B (fun u => jn_be B r ft M d u * ft (M - d) u) w * ft (M - (d + 1)) w = _
      rw [Nat.mul_assoc, Nat.mul_comm (jn_cr _ _ _ _), ← Nat.mul_assoc]
    rw [h1, ← jn_cr_adj]
    refine zs_congr (fun w _ => ?_)
    unfold jn_pt
    rw [e2, e3]
    show jn_al B r ft (M - (d + 1) + 1) w * (jn_be B r ft M d w * ft (M - (d + 1) + 1) w) = _
    rw [Nat.mul_assoc]
theorem jn_pt_all {B : Nat} {r : Nat → Nat} {ft : Nat → Nat → Nat} {M m : Nat} (h : m ≤ M) : zs_sum (2 ^ B) (fun w => jn_pt B r ft M m w) = jn_J B r ft M := by
  have := jn_pt_sum B r ft M (M - m) (by omega)
  rwa [show M - (M - m) = m by omega] at this
end
section
/-! A number by its places in base B: k places of the row d from s on. -/
def nb_val (B : Nat) (d : Nat → Nat) (s : Nat) : Nat → Nat
  | 0 => 0
  | k + 1 => nb_val B d s k + d (s + k) * B ^ k
theorem nb_0 (B : Nat) (d : Nat → Nat) (s : Nat) : nb_val B d s 0 = 0 := rfl
theorem nb_s (B : Nat) (d : Nat → Nat) (s k : Nat) : nb_val B d s (k + 1) = nb_val B d s k + d (s + k) * B ^ k := rfl
theorem nb_congr {B : Nat} {d d' : Nat → Nat} {s s' k : Nat} (h : ∀ j, j < k → d (s + j) = d' (s' + j)) : nb_val B d s k = nb_val B d' s' k := by
  induction k with
  | zero => rfl
  | succ k ih => rw [nb_s, nb_s, ih (fun j hj => h j (by omega)), h k (by omega)]
theorem nb_lt {B : Nat} {d : Nat → Nat} {s k : Nat} (h : ∀ j, j < k → d (s + j) < B) : nb_val B d s k < B ^ k := by
  induction k with
  | zero => show 0 < 1; omega
  | succ k ih =>
    have h1 := ih (fun j hj => h j (by omega))
    have h2 := h k (by omega)
    rw [nb_s, Nat.pow_succ]
    have h3 : (d (s + k) + 1) * B ^ k ≤ B * B ^ k := Nat.mul_le_mul_right _ h2
    rw [Nat.add_mul, Nat.one_mul, Nat.mul_comm B] at h3
    omega
theorem nb_zero {B : Nat} {d : Nat → Nat} {s k : Nat} (h : ∀ j, j < k → d (s + j) = 0) : nb_val B d s k = 0 := by
  induction k with
  | zero => rfl
  | succ k ih => rw [nb_s, ih (fun j hj => h j (by omega)), h k (by omega), Nat.zero_mul]
theorem nb_is0 {B : Nat} {d : Nat → Nat} {s k : Nat} (hB : 0 < B) (h : nb_val B d s k = 0) : ∀ j, j < k → d (s + j) = 0 := by
  induction k with
  | zero => intro j hj; omega
  | succ k ih =>
    rw [nb_s] at h
    intro j hj
    have h1 : nb_val B d s k = 0 := by omega
    have h2 : d (s + k) * B ^ k = 0 := by omega
    by_cases e : j = k
    · subst e
      rcases Nat.mul_eq_zero.mp h2 with h3 | h3
      · exact h3
      · exact absurd h3 (Nat.ne_of_gt (Nat.pow_pos hB))
    · exact ih h1 j (by omega)
/-- the places above p alike, the place p less: the number is less -/
theorem nb_less {B : Nat} {a b : Nat → Nat} {s t p k : Nat} (hp : p < k) (ha : ∀ j, j < k → a (s + j) < B) (hab : ∀ j, p < j → j < k → a (s + j) = b (t + j)) (hl : a (s + p) < b (t + p)) : nb_val B a s k < nb_val B b t k := by
  induction k with
  | zero => omega
  | succ k ih =>
    rw [nb_s, nb_s]
    by_cases e : p = k
    · subst e
      have h1 := nb_lt (B := B) (d := a) (s := s) (k := p) (fun j hj => ha j (by omega))
      have h3 : (a (s + p) + 1) * B ^ p ≤ b (t + p) * B ^ p := Nat.mul_le_mul_right _ hl
      rw [Nat.add_mul, Nat.one_mul] at h3
      omega
    · have h1 := ih (by omega) (fun j hj => ha j (by omega)) (fun j h1 h2 => hab j h1 (by omega))
      rw [hab k (by omega) (by omega)]
      omega
theorem nb_inj {B : Nat} {a b : Nat → Nat} {s t k : Nat} (h : ∀ j, j < k → a (s + j) = b (t + j)) : nb_val B a s k = nb_val B b t k := nb_congr h
/-- the place i of a number -/
theorem nb_at {B : Nat} {d : Nat → Nat} {s k i : Nat} (h : ∀ j, j < k → d (s + j) < B) (hi : i < k) : nb_val B d s k / B ^ i % B = d (s + i) := by
  induction k with
  | zero => omega
  | succ k ih =>
    have hB : 0 < B := Nat.lt_of_le_of_lt (Nat.zero_le _) (h k (by omega))
    rw [nb_s]
    by_cases e : i = k
    · subst e
      rw [Nat.add_mul_div_right _ _ (Nat.pow_pos hB), Nat.div_eq_of_lt (nb_lt (fun j hj => h j (by omega))), Nat.zero_add]
      exact Nat.mod_eq_of_lt (h i (by omega))
    · have hik : i < k := by omega
      obtain ⟨e2, rfl⟩ : ∃ q, k = i + 1 + q := ⟨k - (i + 1), by omega⟩
      have h2 : d (s + (i + 1 + e2)) * B ^ (i + 1 + e2) = (d (s + (i + 1 + e2)) * B ^ e2 * B) * B ^ i := by
        rw [Nat.pow_add, Nat.pow_add, Nat.pow_one]
        simp only [Nat.mul_comm, Nat.mul_left_comm, Nat.mul_assoc]
      rw [h2, Nat.add_mul_div_right _ _ (Nat.pow_pos hB), Nat.add_mul_mod_self_right]
      exact ih (fun j hj => h j (by omega)) hik
/-- nothing is carried out of the top -/
theorem nb_top {x cy M t : Nat} (h : x + cy * M = t) (ht : t < M) : x = t := by
  rcases Nat.eq_zero_or_pos cy with h1 | h1
  · rw [h1, Nat.zero_mul] at h; omega
  · have h2 : 1 * M ≤ cy * M := Nat.mul_le_mul_right _ h1
    omega
/-- a row of numbers of P places each: how a new number is put there -/
theorem nb_up_out {B : Nat} {d : Nat → Nat} {s k i x : Nat} (h : i < s ∨ s + k ≤ i) : nb_val B (va_up d i x) s k = nb_val B d s k :=
  nb_congr (fun j hj => va_up_ne d x (by omega))
/-! Amounts: rows of numbers of six places in base 10^9. -/
theorem nb_carry {B : Nat} (u : Nat → Nat) (s k t : Nat) : nb_val B (va_up u (s + k) (t % B)) s (k + 1) + (t / B) * B ^ (k + 1) = nb_val B u s k + t * B ^ k := by
  rw [nb_s, va_up_self, nb_up_out (Or.inr (Nat.le_refl _)), Nat.pow_succ]
  have h1 : t = t % B + t / B * B := by rw [Nat.mul_comm]; exact (Nat.mod_add_div t B).symm
  have h2 : t / B * (B ^ k * B) = t / B * B * B ^ k := by
    rw [Nat.mul_comm (B ^ k) B, ← Nat.mul_assoc]
  have h3 : t * B ^ k = t % B * B ^ k + t / B * B * B ^ k := by
    rw [← Nat.add_mul, ← h1]
  omega
def am_ok (n : Nat) (d : Nat → Nat) : Prop := ∀ k, k < n * 6 → d k < 1000000000
def am_v (d : Nat → Nat) (i : Nat) : Nat := nb_val 1000000000 d (i * 6) 6
def am_R (n : Nat) (d V : Nat → Nat) : Prop := am_ok n d ∧ ∀ j, j < n → am_v d j = V j
/-- u is d but for the places of the number i below k -/
def am_W (n i k : Nat) (d u : Nat → Nat) : Prop := am_ok n u ∧ ∀ j, j < n * 6 → j < i * 6 ∨ i * 6 + k ≤ j → u j = d j
theorem am_W0 {n i : Nat} {d : Nat → Nat} (h : am_ok n d) : am_W n i 0 d d := ⟨h, fun _ _ _ => rfl⟩
theorem am_WS {n i k x : Nat} {d u : Nat → Nat} (h : am_W n i k d u) (hi : i < n) (hk : k < 6) (hx : x < 1000000000) : am_W n i (k + 1) d (va_up u (i * 6 + k) x) := by
  refine ⟨fun j hj => ?_, fun j hj hc => ?_⟩
  · by_cases e : j = i * 6 + k
    · rw [e, va_up_self]; exact hx
    · rw [va_up_ne _ _ e]; exact h.1 j hj
  · rw [va_up_ne _ _ (by omega)]
    exact h.2 j hj (by omega)
theorem am_Wat {n i k : Nat} {d u : Nat → Nat} (h : am_W n i k d u) (hi : i < n) (hk : k < 6) : u (i * 6 + k) = d (i * 6 + k) := h.2 _ (by omega) (Or.inr (Nat.le_refl _))
theorem am_WF {n i x : Nat} {d u V : Nat → Nat} (h : am_W n i 6 d u) (hR : am_R n d V) (hx : am_v u i = x) : am_R n u (va_up V i x) := by
  refine ⟨h.1, fun j hj => ?_⟩
  by_cases e : j = i
  · subst e; rw [va_up_self]; exact hx
  · rw [va_up_ne _ _ e, ← hR.2 j hj]
    exact nb_congr (fun q hq => h.2 _ (by omega) (by omega))
theorem am_lt {n i : Nat} {d : Nat → Nat} (h : am_ok n d) (hi : i < n) : am_v d i < 1000000000 ^ 6 := nb_lt (fun j hj => h _ (by omega))
/-- set -/
def am_setI (n i v k : Nat) (d u : Nat → Nat) : Prop := am_W n i k d u ∧ 1 ≤ k ∧ nb_val 1000000000 u (i * 6) k = v
theorem am_set1 {n i v : Nat} {d : Nat → Nat} (h : am_ok n d) (hi : i < n) (hv : v < 1000000000) : am_setI n i v 1 d (va_up d (i * 6) v) := by
  refine ⟨am_WS (am_W0 h) hi (by omega) hv, by omega, ?_⟩
  show 0 + va_up d (i * 6) v (i * 6 + 0) * 1000000000 ^ 0 = v
  rw [Nat.add_zero, va_up_self]; omega
theorem am_setS {n i v k : Nat} {d u : Nat → Nat} (h : am_setI n i v k d u) (hi : i < n) (hk : k < 6) : am_setI n i v (k + 1) d (va_up u (i * 6 + k) 0) := by
  refine ⟨am_WS h.1 hi hk (by omega), by omega, ?_⟩
  rw [nb_s, va_up_self, Nat.zero_mul, Nat.add_zero, nb_up_out (Or.inr (Nat.le_refl _))]
  exact h.2.2
theorem am_setF {n i v : Nat} {d u V : Nat → Nat} (h : am_setI n i v 6 d u) (hR : am_R n d V) : am_R n u (va_up V i v) := am_WF h.1 hR h.2.2
/-- copy -/
def am_cpI (n to fr k : Nat) (d u : Nat → Nat) : Prop := am_W n to k d u ∧ ∀ j, j < k → u (to * 6 + j) = d (fr * 6 + j)
theorem am_cp0 {n to fr : Nat} {d : Nat → Nat} (h : am_ok n d) : am_cpI n to fr 0 d d := ⟨am_W0 h, fun j hj => by omega⟩
theorem am_cp_at {n to fr k : Nat} {d u : Nat → Nat} (h : am_cpI n to fr k d u) (hf : fr < n) (hk : k < 6) : u (fr * 6 + k) = d (fr * 6 + k) := by
  by_cases e : fr = to
  · subst e; exact am_Wat h.1 hf hk
  · exact h.1.2 _ (by omega) (by omega)
theorem am_cpS {n to fr k : Nat} {d u : Nat → Nat} (h : am_cpI n to fr k d u) (ht : to < n) (hf : fr < n) (hk : k < 6) : am_cpI n to fr (k + 1) d (va_up u (to * 6 + k) (u (fr * 6 + k))) := by
  refine ⟨am_WS h.1 ht hk (h.1.1 _ (by omega)), fun j hj => ?_⟩
  by_cases e : j = k
  · subst e; rw [va_up_self]; exact am_cp_at h hf hk
  · rw [va_up_ne _ _ (by omega)]; exact h.2 j (by omega)
theorem am_cpF {n to fr : Nat} {d u V : Nat → Nat} (h : am_cpI n to fr 6 d u) (hR : am_R n d V) (hf : fr < n) : am_R n u (va_up V to (V fr)) :=
  am_WF h.1 hR ((nb_congr h.2).trans (hR.2 fr hf))
/-- add -/
def am_adI (n to fr k cy : Nat) (d u d2 : Nat → Nat) : Prop := am_W n to k d u ∧ nb_val 1000000000 u (to * 6) k + cy * 1000000000 ^ k = nb_val 1000000000 d (to * 6) k + nb_val 1000000000 d2 (fr * 6) k ∧ cy ≤ 1
theorem am_ad0 {n to fr : Nat} {d d2 : Nat → Nat} (h : am_ok n d) : am_adI n to fr 0 0 d d d2 := ⟨am_W0 h, rfl, by omega⟩
theorem am_adS {n n2 to fr k cy : Nat} {d u d2 : Nat → Nat} (h : am_adI n to fr k cy d u d2) (h2 : am_ok n2 d2) (ht : to < n) (hf : fr < n2) (hk : k < 6) :
    am_adI n to fr (k + 1) ((u (to * 6 + k) + d2 (fr * 6 + k) + cy) / 1000000000) d (va_up u (to * 6 + k) ((u (to * 6 + k) + d2 (fr * 6 + k) + cy) % 1000000000)) d2 := by
  have b1 := h.1.1 (to * 6 + k) (by omega)
  have b2 := h2 (fr * 6 + k) (by omega)
  have b3 := h.2.2
  refine ⟨am_WS h.1 ht hk (Nat.mod_lt _ (by omega)), ?_, by omega⟩
  rw [nb_carry, nb_s, nb_s, ← am_Wat h.1 ht hk]
  have h3 := h.2.1
  rw [Nat.add_mul, Nat.add_mul]
  omega
theorem am_adF {n n2 to fr cy : Nat} {d u d2 V V2 : Nat → Nat} (h : am_adI n to fr 6 cy d u d2) (hR : am_R n d V) (hR2 : am_R n2 d2 V2) (ht : to < n) (hf : fr < n2) (hl : V to + V2 fr < 1000000000 ^ 6) : am_R n u (va_up V to (V to + V2 fr)) := by
  refine am_WF h.1 hR ?_
  rw [← hR.2 to ht, ← hR2.2 fr hf] at hl ⊢
  exact nb_top h.2.1 hl
/-- multiply -/
def am_muI (n i f k cy : Nat) (d u : Nat → Nat) : Prop := am_W n i k d u ∧ nb_val 1000000000 u (i * 6) k + cy * 1000000000 ^ k = nb_val 1000000000 d (i * 6) k * f ∧ cy ≤ f
theorem am_mu0 {n i f : Nat} {d : Nat → Nat} (h : am_ok n d) : am_muI n i f 0 0 d d := ⟨am_W0 h, by rw [nb_0]; omega, by omega⟩
theorem am_mu_lt {n i f k cy : Nat} {d u : Nat → Nat} (h : am_muI n i f k cy d u) (hi : i < n) (hk : k < 6) (hf : f < 2147483648) : u (i * 6 + k) * f + cy < 2 ^ 63 := by
  have b1 := h.1.1 (i * 6 + k) (by omega)
  have b3 := h.2.2
  have h1 : u (i * 6 + k) * f ≤ 999999999 * f := Nat.mul_le_mul_right _ (by omega)
  omega
theorem am_muS {n i f k cy : Nat} {d u : Nat → Nat} (h : am_muI n i f k cy d u) (hi : i < n) (hk : k < 6) :
    am_muI n i f (k + 1) ((u (i * 6 + k) * f + cy) / 1000000000) d (va_up u (i * 6 + k) ((u (i * 6 + k) * f + cy) % 1000000000)) := by
  have b1 := h.1.1 (i * 6 + k) (by omega)
  have b3 := h.2.2
  refine ⟨am_WS h.1 hi hk (Nat.mod_lt _ (by omega)), ?_, ?_⟩
  · rw [nb_carry, nb_s, ← am_Wat h.1 hi hk]
    have h3 := h.2.1
    rw [Nat.add_mul, Nat.add_mul (nb_val _ _ _ _), ← h3, Nat.mul_assoc, Nat.mul_assoc, Nat.mul_comm f]
    omega
  · have h1 : u (i * 6 + k) * f ≤ 999999999 * f := Nat.mul_le_mul_right _ (by omega)
    omega
theorem am_muF {n i f cy : Nat} {d u V : Nat → Nat} (h : am_muI n i f 6 cy d u) (hR : am_R n d V) (hi : i < n) (hl : V i * f < 1000000000 ^ 6) : am_R n u (va_up V i (V i * f)) := by
  refine am_WF h.1 hR ?_
  rw [← hR.2 i hi] at hl ⊢
  exact nb_top h.2.1 hl
end
section
/-! Amounts: product, blend, compare. -/
/-- the column p of a product -/
def am_cv (l r : Nat → Nat) (s p : Nat) : Nat := zs_sum (p + 1) (fun j => l (s + j) * r (s + p - j))
def am_cs (l r : Nat → Nat) (s : Nat) : Nat → Nat
  | 0 => 0
  | k + 1 => am_cs l r s k + am_cv l r s k * 1000000000 ^ k
theorem am_cs6 (l r : Nat → Nat) (s : Nat) : ∃ x, nb_val 1000000000 l s 6 * nb_val 1000000000 r s 6 = am_cs l r s 6 + x * 1000000000 ^ 6 := by
  refine ⟨l (s + 1) * r (s + 5) + l (s + 2) * r (s + 4) + l (s + 3) * r (s + 3) + l (s + 4) * r (s + 2) + l (s + 5) * r (s + 1) + (l (s + 2) * r (s + 5) + l (s + 3) * r (s + 4) + l (s + 4) * r (s + 3) + l (s + 5) * r (s + 2)) * 1000000000 + (l (s + 3) * r (s + 5) + l (s + 4) * r (s + 4) + l (s + 5) * r (s + 3)) * 1000000000 ^ 2 + (l (s + 4) * r (s + 5) + l (s + 5) * r (s + 4)) * 1000000000 ^ 3 + l (s + 5) * r (s + 5) * 1000000000 ^ 4, ?_⟩
  have e : ∀ p j, s + p - j = s + (p - j) ∨ p < j := fun p j => by omega
  simp only [nb_val, am_cs, am_cv, zs_sum, Nat.add_zero, Nat.sub_zero, Nat.zero_add]
  have e1 : ∀ q, s + (q + 1) - 1 = s + q := fun q => by omega
  rw [show s + 1 - 1 = s by omega, show s + 2 - 1 = s + 1 by omega, show s + 2 - 2 = s by omega, show s + 3 - 1 = s + 2 by omega, show s + 3 - 2 = s + 1 by omega, show s + 3 - 3 = s by omega,
    show s + 4 - 1 = s + 3 by omega, show s + 4 - 2 = s + 2 by omega, show s + 4 - 3 = s + 1 by omega, show s + 4 - 4 = s by omega,
    show s + 5 - 1 = s + 4 by omega, show s + 5 - 2 = s + 3 by omega, show s + 5 - 3 = s + 2 by omega, show s + 5 - 4 = s + 1 by omega, show s + 5 - 5 = s by omega]
  generalize l s = a0, l (s + 1) = a1, l (s + 2) = a2, l (s + 3) = a3, l (s + 4) = a4, l (s + 5) = a5
  generalize r s = b0, r (s + 1) = b1, r (s + 2) = b2, r (s + 3) = b3, r (s + 4) = b4, r (s + 5) = b5
  grind
def am_prI (n i k col : Nat) (d u l r : Nat → Nat) : Prop := am_W n i k d u ∧ nb_val 1000000000 u (i * 6) k + col * 1000000000 ^ k = am_cs l r (i * 6) k ∧ col ≤ 7000000000
theorem am_pr0 {n i : Nat} {d l r : Nat → Nat} (h : am_ok n d) : am_prI n i 0 0 d d l r := ⟨am_W0 h, rfl, by omega⟩
/-- inside a column: j products summed -/
def am_prC (s k col j cj : Nat) (l r : Nat → Nat) : Prop := cj = col + zs_sum j (fun q => l (s + q) * r (s + k - q))
theorem am_prC0 (s k col : Nat) (l r : Nat → Nat) : am_prC s k col 0 col l r := rfl
theorem am_prCS {s k col j cj : Nat} {l r : Nat → Nat} (h : am_prC s k col j cj l r) : am_prC s k col (j + 1) (cj + l (s + j) * r (s + k - j)) l r := by
  unfold am_prC at h ⊢
  rw [zs_s, h]; omega
theorem am_prC_le {n i k col j cj : Nat} {l r : Nat → Nat} (hl : am_ok n l) (hr : am_ok n r) (hi : i < n) (hk : k < 6) (hj : j ≤ k + 1) (hc : col ≤ 7000000000) (h : am_prC (i * 6) k col j cj l r) : cj ≤ 7000000000 + j * 1000000000000000000 := by
  unfold am_prC at h
  have h1 : zs_sum j (fun q => l (i * 6 + q) * r (i * 6 + k - q)) ≤ zs_sum j (fun _ => 1000000000000000000) := zs_le (fun q hq => by
    have a1 := hl (i * 6 + q) (by omega)
    have a2 := hr (i * 6 + k - q) (by omega)
    exact Nat.le_trans (Nat.mul_le_mul (Nat.le_of_lt a1) (Nat.le_of_lt a2)) (by decide))
  rw [zs_const] at h1
  omega
theorem am_pr_mul {n i k j : Nat} {l r : Nat → Nat} (hl : am_ok n l) (hr : am_ok n r) (hi : i < n) (hk : k < 6) (hj : j ≤ k) : l (i * 6 + j) * r (i * 6 + k - j) ≤ 1000000000000000000 := by
  have a1 := hl (i * 6 + j) (by omega)
  have a2 := hr (i * 6 + k - j) (by omega)
  exact Nat.le_trans (Nat.mul_le_mul (Nat.le_of_lt a1) (Nat.le_of_lt a2)) (by decide)
theorem am_prS {n i k col cj : Nat} {d u l r : Nat → Nat} (h : am_prI n i k col d u l r) (hl : am_ok n l) (hr : am_ok n r) (hi : i < n) (hk : k < 6) (hC : am_prC (i * 6) k col (k + 1) cj l r) :
    am_prI n i (k + 1) (cj / 1000000000) d (va_up u (i * 6 + k) (cj % 1000000000)) l r := by
  have hb := am_prC_le hl hr hi hk (Nat.le_refl _) h.2.2 hC
  refine ⟨am_WS h.1 hi hk (Nat.mod_lt _ (by omega)), ?_, by omega⟩
  rw [nb_carry]
  show _ = am_cs l r (i * 6) k + am_cv l r (i * 6) k * 1000000000 ^ k
  have h3 := h.2.1
  have h4 : cj = col + am_cv l r (i * 6) k := hC
  rw [h4, Nat.add_mul]
  omega
theorem am_prF {n i col : Nat} {d u l r V Vl Vr : Nat → Nat} (h : am_prI n i 6 col d u l r) (hR : am_R n d V) (hl : am_R n l Vl) (hr : am_R n r Vr) (hi : i < n) (hb : Vl i * Vr i < 1000000000 ^ 6) : am_R n u (va_up V i (Vl i * Vr i)) := by
  refine am_WF h.1 hR ?_
  obtain ⟨x, hx⟩ := am_cs6 l r (i * 6)
  rw [← hl.2 i hi, ← hr.2 i hi] at hb ⊢
  refine nb_top (cy := col + x) (M := 1000000000 ^ 6) ?_ hb
  have h2 := h.2.1
  show nb_val 1000000000 u (i * 6) 6 + (col + x) * 1000000000 ^ 6 = nb_val 1000000000 l (i * 6) 6 * nb_val 1000000000 r (i * 6) 6
  rw [hx, ← h2, Nat.add_mul, Nat.add_assoc]
/-- blend: two numbers o, t of one row at once -/
def am_blI (n o t r k c1 c2 : Nat) (d u : Nat → Nat) : Prop := am_ok n u ∧ (∀ j, j < n * 6 → j < o * 6 ∨ o * 6 + k ≤ j → j < t * 6 ∨ t * 6 + k ≤ j → u j = d j) ∧
  nb_val 1000000000 u (o * 6) k + c1 * 1000000000 ^ k = (16 - r) * nb_val 1000000000 d (o * 6) k + r * nb_val 1000000000 d (t * 6) k ∧
  nb_val 1000000000 u (t * 6) k + c2 * 1000000000 ^ k = r * nb_val 1000000000 d (o * 6) k + (16 - r) * nb_val 1000000000 d (t * 6) k ∧ c1 ≤ 16 ∧ c2 ≤ 16
theorem am_bl0 {n o t r : Nat} {d : Nat → Nat} (h : am_ok n d) : am_blI n o t r 0 0 0 d d := ⟨h, fun _ _ _ _ => rfl, rfl, rfl, by omega, by omega⟩
theorem am_bl_lt {n o t r k c1 c2 : Nat} {d u : Nat → Nat} (h : am_blI n o t r k c1 c2 d u) (ho : o < n) (ht : t < n) (hr : r ≤ 16) (hk : k < 6) : (16 - r) * u (o * 6 + k) + r * u (t * 6 + k) + c1 < 2 ^ 63 ∧ r * u (o * 6 + k) + (16 - r) * u (t * 6 + k) + c2 < 2 ^ 63 := by
  obtain ⟨h1, h2, h3, h4, h5, h6⟩ := h
  have b1 := h1 (o * 6 + k) (by omega)
  have b2 := h1 (t * 6 + k) (by omega)
  have x1 : (16 - r) * u (o * 6 + k) ≤ 16 * 999999999 := Nat.mul_le_mul (by omega) (by omega)
  have x2 : r * u (t * 6 + k) ≤ 16 * 999999999 := Nat.mul_le_mul hr (by omega)
  have x3 : r * u (o * 6 + k) ≤ 16 * 999999999 := Nat.mul_le_mul hr (by omega)
  have x4 : (16 - r) * u (t * 6 + k) ≤ 16 * 999999999 := Nat.mul_le_mul (by omega) (by omega)
  omega
theorem am_blS {n o t r k c1 c2 : Nat} {d u : Nat → Nat} (h : am_blI n o t r k c1 c2 d u) (ho : o < n) (ht : t < n) (hot : o ≠ t) (hr : r ≤ 16) (hk : k < 6) :
    am_blI n o t r (k + 1) (((16 - r) * u (o * 6 + k) + r * u (t * 6 + k) + c1) / 1000000000) ((r * u (o * 6 + k) + (16 - r) * u (t * 6 + k) + c2) / 1000000000) d
      (va_up (va_up u (o * 6 + k) (((16 - r) * u (o * 6 + k) + r * u (t * 6 + k) + c1) % 1000000000)) (t * 6 + k) ((r * u (o * 6 + k) + (16 - r) * u (t * 6 + k) + c2) % 1000000000)) := by
  obtain ⟨h1, h2, h3, h4, h5, h6⟩ := h
  have b1 := h1 (o * 6 + k) (by omega)
  have b2 := h1 (t * 6 + k) (by omega)
  have q1 : u (o * 6 + k) = d (o * 6 + k) := h2 _ (by omega) (by omega) (by omega)
  have q2 : u (t * 6 + k) = d (t * 6 + k) := h2 _ (by omega) (by omega) (by omega)
  have m1 : (16 - r) * u (o * 6 + k) + r * u (t * 6 + k) ≤ 16 * 999999999 := by
    have a1 : (16 - r) * u (o * 6 + k) ≤ (16 - r) * 999999999 := Nat.mul_le_mul_left _ (by omega)
    have a2 : r * u (t * 6 + k) ≤ r * 999999999 := Nat.mul_le_mul_left _ (by omega)
    have a3 : (16 - r) * 999999999 + r * 999999999 = 16 * 999999999 := by rw [← Nat.add_mul, Nat.sub_add_cancel hr]
    omega
  have m2 : r * u (o * 6 + k) + (16 - r) * u (t * 6 + k) ≤ 16 * 999999999 := by
    have a1 : (16 - r) * u (t * 6 + k) ≤ (16 - r) * 999999999 := Nat.mul_le_mul_left _ (by omega)
    have a2 : r * u (o * 6 + k) ≤ r * 999999999 := Nat.mul_le_mul_left _ (by omega)
    have a3 : (16 - r) * 999999999 + r * 999999999 = 16 * 999999999 := by rw [← Nat.add_mul, Nat.sub_add_cancel hr]
    omega
  refine ⟨fun j hj => ?_, fun j hj e1 e2 => ?_, ?_, ?_, by omega, by omega⟩
  · by_cases e2 : j = t * 6 + k
    · rw [e2, va_up_self]; exact Nat.mod_lt _ (by omega)
    · rw [va_up_ne _ _ e2]
      by_cases e1 : j = o * 6 + k
      · rw [e1, va_up_self]; exact Nat.mod_lt _ (by omega)
      · rw [va_up_ne _ _ e1]; exact h1 j hj
  · rw [va_up_ne _ _ (by omega), va_up_ne _ _ (by omega)]
    exact h2 j hj (by omega) (by omega)
  · rw [nb_up_out (by omega), nb_carry, nb_s, nb_s, ← q1, ← q2]
    simp only [Nat.add_mul, Nat.mul_add, ← Nat.mul_assoc]
    omega
  · rw [show va_up (va_up u (o * 6 + k) (((16 - r) * u (o * 6 + k) + r * u (t * 6 + k) + c1) % 1000000000)) (t * 6 + k) ((r * u (o * 6 + k) + (16 - r) * u (t * 6 + k) + c2) % 1000000000) = va_up (va_up u (o * 6 + k) (((16 - r) * u (o * 6 + k) + r * u (t * 6 + k) + c1) % 1000000000)) (t * 6 + k) ((r * u (o * 6 + k) + (16 - r) * u (t * 6 + k) + c2) % 1000000000) from rfl, nb_carry, nb_up_out (by omega), nb_s, nb_s, ← q1, ← q2]
    simp only [Nat.add_mul, Nat.mul_add, ← Nat.mul_assoc]
    omega
theorem am_blF {n o t r c1 c2 : Nat} {d u V : Nat → Nat} (h : am_blI n o t r 6 c1 c2 d u) (hR : am_R n d V) (ho : o < n) (ht : t < n) (hl1 : (16 - r) * V o + r * V t < 1000000000 ^ 6) (hl2 : r * V o + (16 - r) * V t < 1000000000 ^ 6) :
    am_R n u (va_up (va_up V o ((16 - r) * V o + r * V t)) t (r * V o + (16 - r) * V t)) := by
  obtain ⟨h1, h2, h3, h4, -, -⟩ := h
  rw [← hR.2 o ho, ← hR.2 t ht] at hl1 hl2 ⊢
  have z1 : am_v u o = (16 - r) * am_v d o + r * am_v d t := nb_top h3 hl1
  have z2 : am_v u t = r * am_v d o + (16 - r) * am_v d t := nb_top h4 hl2
  refine ⟨h1, fun j hj => ?_⟩
  by_cases q2 : j = t
  · subst q2; rw [va_up_self]; exact z2
  · rw [va_up_ne _ _ q2]
    by_cases q1 : j = o
    · subst q1; rw [va_up_self]; exact z1
    · rw [va_up_ne _ _ q1, ← hR.2 j hj]
      exact nb_congr (fun q hq => h2 _ (by omega) (by omega) (by omega))
/-- what a comparison answers: 1, 0, or -1 as 2^32 - 1 -/
def mg_cmp (a b : Nat) : Nat := if a < b then 4294967295 else if a = b then 0 else 1
theorem am_cmp_lt {n o t p : Nat} {d V : Nat → Nat} (hR : am_R n d V) (ho : o < n) (ht : t < n) (hp : p < 6) (he : ∀ j, p < j → j < 6 → d (o * 6 + j) = d (t * 6 + j)) (hl : d (o * 6 + p) < d (t * 6 + p)) : mg_cmp (V o) (V t) = 4294967295 := by
  have h : am_v d o < am_v d t := nb_less hp (fun j hj => hR.1 _ (by omega)) he hl
  rw [hR.2 o ho, hR.2 t ht] at h
  exact if_pos h
theorem am_cmp_gt {n o t p : Nat} {d V : Nat → Nat} (hR : am_R n d V) (ho : o < n) (ht : t < n) (hp : p < 6) (he : ∀ j, p < j → j < 6 → d (o * 6 + j) = d (t * 6 + j)) (hl : d (t * 6 + p) < d (o * 6 + p)) : mg_cmp (V o) (V t) = 1 := by
  have h : am_v d t < am_v d o := nb_less hp (fun j hj => hR.1 _ (by omega)) (fun j a b => (he j a b).symm) hl
  rw [hR.2 o ho, hR.2 t ht] at h
  unfold mg_cmp
  rw [if_neg (by omega), if_neg (by omega)]
theorem am_cmp_eq {n o t : Nat} {d V : Nat → Nat} (hR : am_R n d V) (ho : o < n) (ht : t < n) (he : ∀ j, j < 6 → d (o * 6 + j) = d (t * 6 + j)) : mg_cmp (V o) (V t) = 0 := by
  have h : am_v d o = am_v d t := nb_congr he
  rw [hR.2 o ho, hR.2 t ht] at h
  unfold mg_cmp
  rw [if_neg (by omega), if_pos h]
theorem am_zero {n i : Nat} {d V : Nat → Nat} (hR : am_R n d V) (hi : i < n) (h : ∀ j, j < 6 → d (i * 6 + j) = 0) : V i = 0 := by
  rw [← hR.2 i hi]
  exact nb_zero h
theorem am_nonzero {n i k : Nat} {d V : Nat → Nat} (hR : am_R n d V) (hi : i < n) (hk : k < 6) (h : d (i * 6 + k) ≠ 0) : V i ≠ 0 := fun e => by
  rw [← hR.2 i hi] at e
  exact h (nb_is0 (by decide) e k hk)
end
section
/-! FIT: over all letters of the founders' copies. -/
/-- the sum over all letters of the copies below k, weighed, of g -/
def ft_sum (wt : Nat → Nat) : Nat → (Nat → Nat) → ((Nat → Nat) → Nat) → Nat
  | 0, a, g => g a
  | k + 1, a, g => wt 1 * ft_sum wt k (va_up a k 1) g + wt 2 * ft_sum wt k (va_up a k 2) g + wt 3 * ft_sum wt k (va_up a k 3) g
theorem ft_congr {wt : Nat → Nat} {g g' : (Nat → Nat) → Nat} : ∀ (k : Nat) (a : Nat → Nat), (∀ a' : Nat → Nat, (∀ j, j < k → 1 ≤ a' j ∧ a' j ≤ 3) → (∀ j, k ≤ j → a' j = a j) → g a' = g' a') → ft_sum wt k a g = ft_sum wt k a g' := by
  intro k
  induction k with
  | zero => intro a h; exact h a (fun j hj => absurd hj (Nat.not_lt_zero j)) (fun _ _ => rfl)
  | succ k ih =>
    intro a h
    have key : ∀ l, 1 ≤ l → l ≤ 3 → ft_sum wt k (va_up a k l) g = ft_sum wt k (va_up a k l) g' := by
      intro l h1 h3
      refine ih _ (fun a' ha hb => h a' (fun j hj => ?_) (fun j hj => ?_))
      · by_cases e : j = k
        · subst e
          rw [hb j (Nat.le_refl j), va_up_self]
          exact ⟨h1, h3⟩
        · exact ha j (by omega)
      · rw [hb j (by omega), va_up_ne a l (by omega)]
    show _ + _ + _ = _ + _ + _
    rw [key 1 (by omega) (by omega), key 2 (by omega) (by omega), key 3 (by omega) (by omega)]
theorem ft_add {wt : Nat → Nat} (g g' : (Nat → Nat) → Nat) : ∀ (k : Nat) (a : Nat → Nat), ft_sum wt k a (fun b => g b + g' b) = ft_sum wt k a g + ft_sum wt k a g' := by
  intro k
  induction k with
  | zero => intro a; rfl
  | succ k ih =>
    intro a
    show wt 1 * _ + wt 2 * _ + wt 3 * _ = (wt 1 * _ + wt 2 * _ + wt 3 * _) + (wt 1 * _ + wt 2 * _ + wt 3 * _)
    rw [ih, ih, ih, Nat.mul_add, Nat.mul_add, Nat.mul_add]
    omega
theorem ft_zero {wt : Nat → Nat} : ∀ (k : Nat) (a : Nat → Nat), ft_sum wt k a (fun _ => 0) = 0 := by
  intro k
  induction k with
  | zero => intro a; rfl
  | succ k ih =>
    intro a
    show wt 1 * _ + wt 2 * _ + wt 3 * _ = 0
    rw [ih, ih, ih]
    rfl
/-- 1 if P, else 0 -/
noncomputable def ft_c (P : Prop) : Nat := @ite Nat P (Classical.propDecidable P) 1 0
theorem ft_c1 {P : Prop} (h : P) : ft_c P = 1 := @if_pos P (Classical.propDecidable P) h Nat 1 0
theorem ft_c0 {P : Prop} (h : ¬ P) : ft_c P = 0 := @if_neg P (Classical.propDecidable P) h Nat 1 0
theorem ft_cc {P Q : Prop} (h : P ↔ Q) : ft_c P = ft_c Q := by rw [propext h]
theorem ft_ca (P Q : Prop) : ft_c (P ∧ Q) = ft_c P * ft_c Q := by
  by_cases hp : P
  · by_cases hq : Q
    · rw [ft_c1 ⟨hp, hq⟩, ft_c1 hp, ft_c1 hq]
    · rw [ft_c0 (fun h => hq h.2), ft_c0 hq, Nat.mul_zero]
  · rw [ft_c0 (fun h => hp h.1), ft_c0 hp, Nat.zero_mul]
/-- what the letters L weigh, those not known (0) being any -/
def ft_w (wt L : Nat → Nat) : Nat → Nat
  | 0 => 1
  | k + 1 => ft_w wt L k * (if L k = 0 then 8 else wt (L k))
theorem ft_ext {wt L : Nat → Nat} {K : Nat} (hw : wt 1 + wt 2 + wt 3 = 8) (hL : ∀ k, k < K → L k ≤ 3) : ∀ (k : Nat) (a : Nat → Nat), k ≤ K →
    ft_sum wt k a (fun b => ft_c (∀ j, j < K → L j = 0 ∨ L j = b j)) = ft_w wt L k * ft_c (∀ j, k ≤ j → j < K → L j = 0 ∨ L j = a j) := by
  intro k
  induction k with
  | zero =>
    intro a _
    show ft_c _ = 1 * ft_c _
    rw [Nat.one_mul]
    exact ft_cc ⟨fun h j _ hj => h j hj, fun h j hj => h j (Nat.zero_le j) hj⟩
  | succ k ih =>
    intro a hk
    show wt 1 * ft_sum wt k (va_up a k 1) _ + wt 2 * ft_sum wt k (va_up a k 2) _ + wt 3 * ft_sum wt k (va_up a k 3) _ = _
    rw [ih _ (by omega), ih _ (by omega), ih _ (by omega)]
    have key : ∀ l, ft_c (∀ j, k ≤ j → j < K → L j = 0 ∨ L j = va_up a k l j) = ft_c (L k = 0 ∨ L k = l) * ft_c (∀ j, k + 1 ≤ j → j < K → L j = 0 ∨ L j = a j) := by
      intro l
      rw [← ft_ca]
      refine ft_cc ⟨fun h => ⟨?_, fun j h1 h2 => ?_⟩, fun h j h1 h2 => ?_⟩
      · have := h k (Nat.le_refl k) (by omega)
        rwa [va_up_self] at this
      · have := h j (by omega) h2
        rwa [va_up_ne a l (by omega)] at this
      · by_cases e : j = k
        · subst e
          rw [va_up_self]
          exact h.1
        · rw [va_up_ne a l e]
          exact h.2 j (by omega) h2
    rw [key 1, key 2, key 3]
    show _ = ft_w wt L k * (if L k = 0 then 8 else wt (L k)) * _
    generalize ft_c (∀ j, k + 1 ≤ j → j < K → L j = 0 ∨ L j = a j) = R
    have hLk := hL k (by omega)
    have hc : L k = 0 ∨ L k = 1 ∨ L k = 2 ∨ L k = 3 := by omega
    rcases hc with h | h | h | h
    · rw [ft_c1 (Or.inl h), ft_c1 (Or.inl h), ft_c1 (Or.inl h), if_pos h, ← Nat.add_mul, ← Nat.add_mul, hw, Nat.one_mul, Nat.mul_comm (ft_w wt L k) 8, Nat.mul_assoc]
    · rw [ft_c1 (show L k = 0 ∨ L k = 1 from Or.inr h), ft_c0 (show ¬ (L k = 0 ∨ L k = 2) by omega), ft_c0 (show ¬ (L k = 0 ∨ L k = 3) by omega), if_neg (by omega), h]
      simp only [Nat.one_mul, Nat.zero_mul, Nat.mul_zero, Nat.add_zero]
      rw [Nat.mul_comm (ft_w wt L k) (wt 1), Nat.mul_assoc]
    · rw [ft_c1 (show L k = 0 ∨ L k = 2 from Or.inr h), ft_c0 (show ¬ (L k = 0 ∨ L k = 1) by omega), ft_c0 (show ¬ (L k = 0 ∨ L k = 3) by omega), if_neg (by omega), h]
      simp only [Nat.one_mul, Nat.zero_mul, Nat.mul_zero, Nat.add_zero, Nat.zero_add]
      rw [Nat.mul_comm (ft_w wt L k) (wt 2), Nat.mul_assoc]
    · rw [ft_c1 (show L k = 0 ∨ L k = 3 from Or.inr h), ft_c0 (show ¬ (L k = 0 ∨ L k = 1) by omega), ft_c0 (show ¬ (L k = 0 ∨ L k = 2) by omega), if_neg (by omega), h]
      simp only [Nat.one_mul, Nat.zero_mul, Nat.mul_zero, Nat.zero_add]
      rw [Nat.mul_comm (ft_w wt L k) (wt 3), Nat.mul_assoc]
/-- the letters a are so as the persons p .. p + j - 1 are seen (o, t: the two letters of a person, 0 where it isn't seen; s0, s1: whose its copies are) -/
def ft_con (o t s0 s1 : Nat → Nat) (p j : Nat) (a : Nat → Nat) : Prop := ∀ q, p ≤ q → q < p + j → o q = 0 ∨ (a (s0 q) = o q ∧ a (s1 q) = t q) ∨ (a (s0 q) = t q ∧ a (s1 q) = o q)
/-- the search with the person p's copies having the letters x, y; F: what comes behind -/
def ft_with (s0 s1 : Nat → Nat) (F : (Nat → Nat) → Nat) (p : Nat) (L : Nat → Nat) (x y : Nat) : Nat :=
  if L (s0 p) = 0 ∨ L (s0 p) = x then (if va_up L (s0 p) x (s1 p) = 0 ∨ va_up L (s0 p) x (s1 p) = y then F (va_up (va_up L (s0 p) x) (s1 p) y) else 0) else 0
/-- the search over persons: j persons from p on, L laid down so far -/
def ft_from (wt : Nat → Nat) (K : Nat) (o t s0 s1 : Nat → Nat) : Nat → Nat → (Nat → Nat) → Nat
  | 0, _, L => ft_w wt L K
  | j + 1, p, L =>
    if o p = 0 then ft_from wt K o t s0 s1 j (p + 1) L
    else ft_with s0 s1 (ft_from wt K o t s0 s1 j (p + 1)) p L (o p) (t p) + (if o p = t p then 0 else ft_with s0 s1 (ft_from wt K o t s0 s1 j (p + 1)) p L (t p) (o p))
/-- FIT -/
noncomputable def ft_fit (wt : Nat → Nat) (K : Nat) (o t s0 s1 : Nat → Nat) (n : Nat) : Nat := ft_sum wt K (fun _ => 0) (fun a => ft_c (ft_con o t s0 s1 0 n a))
theorem ft_con_s {o t s0 s1 : Nat → Nat} {p j : Nat} {a : Nat → Nat} : ft_con o t s0 s1 p (j + 1) a ↔ (o p = 0 ∨ (a (s0 p) = o p ∧ a (s1 p) = t p) ∨ (a (s0 p) = t p ∧ a (s1 p) = o p)) ∧ ft_con o t s0 s1 (p + 1) j a := by
  constructor
  · intro h
    exact ⟨h p (Nat.le_refl p) (by omega), fun q h1 h2 => h q (by omega) (by omega)⟩
  · intro h q h1 h2
    by_cases e : q = p
    · subst e; exact h.1
    · exact h.2 q (by omega) (by omega)
theorem ft_from_eq {wt : Nat → Nat} {K : Nat} {o t s0 s1 : Nat → Nat} (hw : wt 1 + wt 2 + wt 3 = 8) : ∀ (j p : Nat) (L : Nat → Nat), (∀ k, k < K → L k ≤ 3) →
    (∀ q, p ≤ q → q < p + j → s0 q < K ∧ s1 q < K ∧ (o q = 0 ∨ (1 ≤ o q ∧ o q ≤ 3 ∧ 1 ≤ t q ∧ t q ≤ 3))) →
    ft_from wt K o t s0 s1 j p L = ft_sum wt K (fun _ => 0) (fun a => ft_c ((∀ k, k < K → L k = 0 ∨ L k = a k) ∧ ft_con o t s0 s1 p j a)) := by
  intro j
  induction j with
  | zero =>
    intro p L hL _
    have h := ft_ext (wt := wt) (K := K) hw hL K (fun _ => 0) (Nat.le_refl K)
    rw [ft_c1 (P := ∀ j, K ≤ j → j < K → L j = 0 ∨ L j = 0) (fun j h1 h2 => by omega), Nat.mul_one] at h
    show ft_w wt L K = _
    rw [← h]
    exact ft_congr K _ (fun a _ _ => ft_cc ⟨fun h1 => ⟨h1, fun q h2 h3 => by omega⟩, fun h1 => h1.1⟩)
  | succ j ih =>
    intro p L hL hq
    obtain ⟨h0, h1, hs⟩ := hq p (Nat.le_refl p) (by omega)
    have hq' : ∀ q, p + 1 ≤ q → q < p + 1 + j → s0 q < K ∧ s1 q < K ∧ (o q = 0 ∨ (1 ≤ o q ∧ o q ≤ 3 ∧ 1 ≤ t q ∧ t q ≤ 3)) := fun q a b => hq q (by omega) (by omega)
    show (if o p = 0 then ft_from wt K o t s0 s1 j (p + 1) L else _) = _
    by_cases ho : o p = 0
    · rw [if_pos ho, ih (p + 1) L hL hq']
      refine ft_congr K _ (fun a _ _ => ft_cc ?_)
      rw [ft_con_s]
      exact ⟨fun h => ⟨h.1, Or.inl ho, h.2⟩, fun h => ⟨h.1, h.2.2⟩⟩
    · rw [if_neg ho]
      have hs := hs.resolve_left ho
      have aux : ∀ x y, 1 ≤ x → x ≤ 3 → 1 ≤ y → y ≤ 3 → ft_with s0 s1 (ft_from wt K o t s0 s1 j (p + 1)) p L x y = ft_sum wt K (fun _ => 0) (fun a => ft_c ((∀ k, k < K → L k = 0 ∨ L k = a k) ∧ (a (s0 p) = x ∧ a (s1 p) = y) ∧ ft_con o t s0 s1 (p + 1) j a)) := by
        intro x y hx1 hx3 hy1 hy3
        unfold ft_with
        by_cases c1 : L (s0 p) = 0 ∨ L (s0 p) = x
        · rw [if_pos c1]
          by_cases c2 : va_up L (s0 p) x (s1 p) = 0 ∨ va_up L (s0 p) x (s1 p) = y
          · rw [if_pos c2, ih (p + 1) _ (fun k hk => ?_) hq']
            · refine ft_congr K _ (fun a _ _ => ft_cc ⟨fun h => ⟨fun k hk => ?_, ⟨?_, ?_⟩, h.2⟩, fun h => ⟨fun k hk => ?_, h.2.2⟩⟩)
              · have h2 := h.1 k hk
                by_cases e1 : k = s1 p
                · subst e1
                  rw [va_up_self] at h2
                  by_cases e0 : s1 p = s0 p
                  · rw [e0, va_up_self] at c2
                    rw [e0] at h2 ⊢
                    omega
                  · rw [va_up_ne _ _ e0] at c2
                    omega
                · rw [va_up_ne _ _ e1] at h2
                  by_cases e0 : k = s0 p
                  · subst e0
                    rw [va_up_self] at h2
                    omega
                  · rw [va_up_ne _ _ e0] at h2
                    exact h2
              · have h2 := h.1 (s0 p) h0
                by_cases e0 : s0 p = s1 p
                · rw [← e0, va_up_self] at h2 c2
                  omega
                · rw [va_up_ne _ _ e0, va_up_self] at h2
                  omega
              · have h2 := h.1 (s1 p) h1
                rw [va_up_self] at h2
                omega
              · obtain ⟨hE, ⟨ha0, ha1⟩, -⟩ := h
                by_cases e1 : k = s1 p
                · subst e1
                  rw [va_up_self]
                  exact Or.inr ha1.symm
                · rw [va_up_ne _ _ e1]
                  by_cases e0 : k = s0 p
                  · subst e0
                    rw [va_up_self]
                    exact Or.inr ha0.symm
                  · rw [va_up_ne _ _ e0]
                    exact hE k hk
            · by_cases e1 : k = s1 p
              · rw [e1, va_up_self]; exact hy3
              · rw [va_up_ne _ _ e1]
                by_cases e0 : k = s0 p
                · rw [e0, va_up_self]; exact hx3
                · rw [va_up_ne _ _ e0]; exact hL k hk
          · rw [if_neg c2]
            refine (ft_zero (wt := wt) K (fun _ => 0)).symm.trans (ft_congr K _ (fun a _ _ => (ft_c0 ?_).symm))
            rintro ⟨hE, ⟨ha0, ha1⟩, -⟩
            apply c2
            by_cases e0 : s1 p = s0 p
            · rw [e0, va_up_self]
              rw [e0] at ha1
              omega
            · rw [va_up_ne _ _ e0]
              have := hE (s1 p) h1
              omega
        · rw [if_neg c1]
          refine (ft_zero (wt := wt) K (fun _ => 0)).symm.trans (ft_congr K _ (fun a _ _ => (ft_c0 ?_).symm))
          rintro ⟨hE, ⟨ha0, ha1⟩, -⟩
          apply c1
          have := hE (s0 p) h0
          omega
      rw [aux (o p) (t p) hs.1 hs.2.1 hs.2.2.1 hs.2.2.2]
      by_cases hot : o p = t p
      · rw [if_pos hot, Nat.add_zero]
        refine ft_congr K _ (fun a _ _ => ft_cc ?_)
        rw [ft_con_s, ← hot]
        exact ⟨fun h => ⟨h.1, Or.inr (Or.inl h.2.1), h.2.2⟩, fun h => ⟨h.1, by rcases h.2.1 with h1 | h1 | h1; exact absurd h1 ho; exact h1; exact h1, h.2.2⟩⟩
      · rw [if_neg hot, aux (t p) (o p) hs.2.2.1 hs.2.2.2 hs.1 hs.2.1, ← ft_add]
        refine ft_congr K _ (fun a _ _ => ?_)
        by_cases hA : ((∀ k, k < K → L k = 0 ∨ L k = a k) ∧ (a (s0 p) = o p ∧ a (s1 p) = t p) ∧ ft_con o t s0 s1 (p + 1) j a)
        · rw [ft_c1 hA, ft_c0 (fun h => hot (by rw [← hA.2.1.1, h.2.1.1])), ft_c1]
          exact ⟨hA.1, ft_con_s.mpr ⟨Or.inr (Or.inl hA.2.1), hA.2.2⟩⟩
        · rw [ft_c0 hA, Nat.zero_add]
          refine ft_cc ⟨fun h => ⟨h.1, ft_con_s.mpr ⟨Or.inr (Or.inr h.2.1), h.2.2⟩⟩, fun h => ?_⟩
          obtain ⟨h1, h2⟩ := h
          obtain ⟨h3, h4⟩ := ft_con_s.mp h2
          rcases h3 with h3 | h3 | h3
          · exact absurd h3 ho
          · exact absurd ⟨h1, h3, h4⟩ hA
          · exact ⟨h1, h3, h4⟩
theorem ft_from_fit {wt : Nat → Nat} {K n : Nat} {o t s0 s1 : Nat → Nat} (hw : wt 1 + wt 2 + wt 3 = 8) (hq : ∀ q, q < n → s0 q < K ∧ s1 q < K ∧ (o q = 0 ∨ (1 ≤ o q ∧ o q ≤ 3 ∧ 1 ≤ t q ∧ t q ≤ 3))) : ft_from wt K o t s0 s1 n 0 (fun _ => 0) = ft_fit wt K o t s0 s1 n := by
  rw [ft_from_eq hw n 0 (fun _ => 0) (fun _ _ => Nat.zero_le _) (fun q _ h => hq q (by omega))]
  exact ft_congr K _ (fun a _ _ => ft_cc ⟨fun h => h.2, fun h => ⟨fun _ _ => Or.inl rfl, h⟩⟩)
/-! .. and by counting through all letters. -/
def ft_dg (n j : Nat) : Nat := 1 + n / 3 ^ j % 3
def ft_p (wt a : Nat → Nat) : Nat → Nat
  | 0 => 1
  | k + 1 => ft_p wt a k * wt (a k)
theorem ft_p_congr {wt a b : Nat → Nat} : ∀ {k : Nat}, (∀ j, j < k → a j = b j) → ft_p wt a k = ft_p wt b k := by
  intro k
  induction k with
  | zero => intro _; rfl
  | succ k ih =>
    intro h
    show ft_p wt a k * wt (a k) = ft_p wt b k * wt (b k)
    rw [ih (fun j hj => h j (by omega)), h k (by omega)]
theorem ft_dg_lo {l k r j : Nat} (hj : j < k) : ft_dg (l * 3 ^ k + r) j = ft_dg r j := by
  obtain ⟨q, rfl⟩ : ∃ q, k = j + 1 + q := ⟨k - (j + 1), by omega⟩
  unfold ft_dg
  have h2 : l * 3 ^ (j + 1 + q) + r = r + (l * 3 ^ q * 3) * 3 ^ j := by
    rw [Nat.pow_add, Nat.pow_add, Nat.pow_one, Nat.add_comm]
    congr 1
    simp only [Nat.mul_comm, Nat.mul_left_comm, Nat.mul_assoc]
  rw [h2, Nat.add_mul_div_right _ _ (Nat.pow_pos (by omega)), Nat.add_mul_mod_self_right]
theorem ft_dg_hi {l k r : Nat} (hr : r < 3 ^ k) (hl : l < 3) : ft_dg (l * 3 ^ k + r) k = 1 + l := by
  unfold ft_dg
  rw [Nat.add_comm (l * 3 ^ k), Nat.add_mul_div_right _ _ (Nat.pow_pos (by omega)), Nat.div_eq_of_lt hr, Nat.zero_add, Nat.mod_eq_of_lt hl]
theorem ft_count {wt : Nat → Nat} {g : (Nat → Nat) → Nat} : ∀ (k : Nat) (a : Nat → Nat), zs_sum (3 ^ k) (fun n => ft_p wt (ft_dg n) k * g (fun j => if j < k then ft_dg n j else a j)) = ft_sum wt k a g := by
  intro k
  induction k with
  | zero =>
    intro a
    show 0 + 1 * g (fun j => if j < 0 then ft_dg 0 j else a j) = g a
    rw [Nat.zero_add, Nat.one_mul]
    congr 1
  | succ k ih =>
    intro a
    have key : ∀ l, l < 3 → zs_sum (3 ^ k) (fun r => ft_p wt (ft_dg (l * 3 ^ k + r)) (k + 1) * g (fun j => if j < k + 1 then ft_dg (l * 3 ^ k + r) j else a j)) = wt (1 + l) * ft_sum wt k (va_up a k (1 + l)) g := by
      intro l hl
      rw [← ih, ← zs_mul]
      refine zs_congr (fun r hr => ?_)
      show ft_p wt (ft_dg (l * 3 ^ k + r)) k * wt (ft_dg (l * 3 ^ k + r) k) * _ = _
      rw [ft_dg_hi hr hl, ft_p_congr (fun j hj => ft_dg_lo (l := l) (r := r) hj)]
      have e : (fun j => if j < k + 1 then ft_dg (l * 3 ^ k + r) j else a j) = (fun j => if j < k then ft_dg r j else va_up a k (1 + l) j) := by
        funext j
        by_cases h1 : j < k
        · rw [if_pos (by omega), if_pos h1, ft_dg_lo h1]
        · rw [if_neg h1]
          by_cases h2 : j = k
          · subst h2
            rw [if_pos (by omega), va_up_self, ft_dg_hi hr hl]
          · rw [if_neg (by omega), va_up_ne a _ h2]
      rw [e, Nat.mul_comm (ft_p wt (ft_dg r) k), Nat.mul_assoc]
    have e3 : 3 ^ (k + 1) = 3 ^ k + 3 ^ k + 3 ^ k := by rw [Nat.pow_succ]; omega
    rw [e3, zs_app, zs_app]
    have h0 := key 0 (by omega)
    have h1 := key 1 (by omega)
    have h2 := key 2 (by omega)
    simp only [Nat.zero_mul, Nat.zero_add, Nat.one_mul, Nat.add_zero] at h0 h1
    have e2 : ∀ r, 3 ^ k + 3 ^ k + r = 2 * 3 ^ k + r := fun r => by omega
    simp only [e2]
    show _ = wt 1 * _ + wt 2 * _ + wt 3 * _
    rw [h0, h1, h2]
theorem ft_count_fit {wt : Nat → Nat} {K n : Nat} {o t s0 s1 : Nat → Nat} (hq : ∀ q, q < n → s0 q < K ∧ s1 q < K) : zs_sum (3 ^ K) (fun i => ft_p wt (ft_dg i) K * ft_c (ft_con o t s0 s1 0 n (ft_dg i))) = ft_fit wt K o t s0 s1 n := by
  unfold ft_fit
  rw [← ft_count]
  refine zs_congr (fun i _ => ?_)
  congr 1
  refine ft_cc ⟨fun h q h1 h2 => ?_, fun h q h1 h2 => ?_⟩
  · have := hq q (by omega)
    show o q = 0 ∨ ((if s0 q < K then ft_dg i (s0 q) else 0) = o q ∧ (if s1 q < K then ft_dg i (s1 q) else 0) = t q) ∨ ((if s0 q < K then ft_dg i (s0 q) else 0) = t q ∧ (if s1 q < K then ft_dg i (s1 q) else 0) = o q)
    rw [if_pos this.1, if_pos this.2]
    exact h q h1 h2
  · have := hq q (by omega)
    have h3 : o q = 0 ∨ ((if s0 q < K then ft_dg i (s0 q) else 0) = o q ∧ (if s1 q < K then ft_dg i (s1 q) else 0) = t q) ∨ ((if s0 q < K then ft_dg i (s0 q) else 0) = t q ∧ (if s1 q < K then ft_dg i (s1 q) else 0) = o q) := h q h1 h2
    rwa [if_pos this.1, if_pos this.2] at h3
end
section
/-! One bit of a gap, way by way: the row of numbers as the loop changes it. -/
def cg_lo (b j : Nat) : Nat := if j.testBit b = true then j ^^^ 2 ^ b else j
def cg_I (r b B w : Nat) (V0 V : Nat → Nat) : Prop := ∀ j, j < 2 ^ B → V j = if cg_lo b j < w then jn_bp r b V0 j else V0 j
theorem cg_lo_bit (b j : Nat) : (cg_lo b j).testBit b = false := by
  unfold cg_lo
  by_cases h : j.testBit b = true
  · rw [if_pos h, Nat.testBit_xor, Nat.testBit_two_pow_self, h]; rfl
  · rw [if_neg h]; simpa using h
theorem cg_lo_cases (b j : Nat) : j = cg_lo b j ∨ j = cg_lo b j ^^^ 2 ^ b := by
  unfold cg_lo
  by_cases h : j.testBit b = true
  · rw [if_pos h, Nat.xor_assoc, Nat.xor_self, Nat.xor_zero]; exact Or.inr rfl
  · rw [if_neg h]; exact Or.inl rfl
theorem cg_lo_self {b w : Nat} (h : w.testBit b = false) : cg_lo b w = w := by
  unfold cg_lo
  rw [if_neg (by rw [h]; decide)]
theorem cg_lo_up {b w : Nat} (h : w.testBit b = false) : cg_lo b (w ^^^ 2 ^ b) = w := by
  unfold cg_lo
  rw [if_pos (by rw [Nat.testBit_xor, Nat.testBit_two_pow_self, h]; rfl), Nat.xor_assoc, Nat.xor_self, Nat.xor_zero]
theorem cg_lo_lt {b B j : Nat} (hb : b < B) (hj : j < 2 ^ B) : cg_lo b j < 2 ^ B := by
  unfold cg_lo
  by_cases h : j.testBit b = true
  · rw [if_pos h]
    exact Nat.xor_lt_two_pow hj (Nat.pow_lt_pow_right (by omega) hb)
  · rw [if_neg h]; exact hj
theorem cg_up_ne {b w : Nat} : w ≠ w ^^^ 2 ^ b := fun h => by
  have h1 : w ^^^ w = w ^^^ (w ^^^ 2 ^ b) := congrArg (fun z => w ^^^ z) h
  rw [Nat.xor_self, zx_inv] at h1
  have := Nat.pow_pos (n := b) (show 0 < 2 by decide)
  omega
theorem cg_0 (r b B : Nat) (V : Nat → Nat) : cg_I r b B 0 V V := fun j _ => by rw [if_neg (Nat.not_lt_zero _)]
theorem cg_skip {r b B w : Nat} {V0 V : Nat → Nat} (h : cg_I r b B w V0 V) (hw : w.testBit b = true) : cg_I r b B (w + 1) V0 V := fun j hj => by
  rw [h j hj]
  have h1 : cg_lo b j ≠ w := fun e => by
    have := cg_lo_bit b j
    rw [e, hw] at this
    cases this
  by_cases h2 : cg_lo b j < w
  · rw [if_pos h2, if_pos (by omega)]
  · rw [if_neg h2, if_neg (by omega)]
theorem cg_step {r b B w : Nat} {V0 V : Nat → Nat} (h : cg_I r b B w V0 V) (hb : b < B) (hw : w < 2 ^ B) (hbit : w.testBit b = false) :
    cg_I r b B (w + 1) V0 (va_up (va_up V w ((16 - r) * V w + r * V (w ^^^ 2 ^ b))) (w ^^^ 2 ^ b) (r * V w + (16 - r) * V (w ^^^ 2 ^ b))) := by
  have hw2 : w ^^^ 2 ^ b < 2 ^ B := Nat.xor_lt_two_pow hw (Nat.pow_lt_pow_right (by omega) hb)
  have v1 : V w = V0 w := by rw [h w hw, if_neg (by rw [cg_lo_self hbit]; omega)]
  have v2 : V (w ^^^ 2 ^ b) = V0 (w ^^^ 2 ^ b) := by rw [h _ hw2, if_neg (by rw [cg_lo_up hbit]; omega)]
  intro j hj
  by_cases e2 : j = w ^^^ 2 ^ b
  · subst e2
    rw [va_up_self, if_pos (by rw [cg_lo_up hbit]; omega), v1, v2]
    unfold jn_bp
    rw [Nat.xor_assoc, Nat.xor_self, Nat.xor_zero]; omega
  · rw [va_up_ne _ _ e2]
    by_cases e1 : j = w
    · subst e1
      rw [va_up_self, if_pos (by rw [cg_lo_self hbit]; omega), v1, v2]
      rfl
    · rw [va_up_ne _ _ e1, h j hj]
      have h1 : cg_lo b j ≠ w := fun e => by
        rcases cg_lo_cases b j with q | q
        · exact e1 (q.trans e)
        · exact e2 (by rw [← e]; exact q)
      by_cases h2 : cg_lo b j < w
      · rw [if_pos h2, if_pos (by omega)]
      · rw [if_neg h2, if_neg (by omega)]
theorem cg_end {r b B : Nat} {V0 V : Nat → Nat} (h : cg_I r b B (2 ^ B) V0 V) (hb : b < B) : ∀ j, j < 2 ^ B → V j = jn_bp r b V0 j := fun j hj => by
  rw [h j hj, if_pos (cg_lo_lt hb hj)]
/-- all bits below b passed -/
theorem cg_bits {r b B : Nat} {V V1 V0 : Nat → Nat} (hb : b < B) (h : ∀ j, j < 2 ^ B → V j = jn_ps r b V0 j) (h1 : ∀ j, j < 2 ^ B → V1 j = jn_bp r b V j) : ∀ j, j < 2 ^ B → V1 j = jn_ps r (b + 1) V0 j := fun j hj => by
  rw [h1 j hj]
  show (16 - r) * V j + r * V (j ^^^ 2 ^ b) = (16 - r) * jn_ps r b V0 j + r * jn_ps r b V0 (j ^^^ 2 ^ b)
  rw [h j hj, h _ (Nat.xor_lt_two_pow hj (Nat.pow_lt_pow_right (by omega) hb))]
theorem cg_ps_le {r M : Nat} (hr : r ≤ 16) {B : Nat} {V0 : Nat → Nat} (h : ∀ j, j < 2 ^ B → V0 j ≤ M) : ∀ b, b ≤ B → ∀ j, j < 2 ^ B → jn_ps r b V0 j ≤ M * 16 ^ b := by
  intro b
  induction b with
  | zero => intro _ j hj; show V0 j ≤ M * 1; rw [Nat.mul_one]; exact h j hj
  | succ b ih =>
    intro hb j hj
    have h1 := ih (by omega) j hj
    have h2 := ih (by omega) (j ^^^ 2 ^ b) (Nat.xor_lt_two_pow hj (Nat.pow_lt_pow_right (by omega) hb))
    show (16 - r) * jn_ps r b V0 j + r * jn_ps r b V0 (j ^^^ 2 ^ b) ≤ M * 16 ^ (b + 1)
    have a1 := Nat.mul_le_mul_left (16 - r) h1
    have a2 := Nat.mul_le_mul_left r h2
    have a3 : (16 - r) * (M * 16 ^ b) + r * (M * 16 ^ b) = M * 16 ^ (b + 1) := by
      rw [← Nat.add_mul, Nat.sub_add_cancel hr, Nat.pow_succ, Nat.mul_comm 16, Nat.mul_assoc]
    omega
/-- what a way holds while the bit b is passed -/
theorem cg_I_le {r b B w M : Nat} (hr : r ≤ 16) (hb : b < B) {V0 V : Nat → Nat} (h : cg_I r b B w V0 V) (hV : ∀ j, j < 2 ^ B → V0 j ≤ M) : ∀ j, j < 2 ^ B → V j ≤ 16 * M := fun j hj => by
  rw [h j hj]
  have h1 := hV j hj
  by_cases c : cg_lo b j < w
  · rw [if_pos c]
    have h2 := hV (j ^^^ 2 ^ b) (Nat.xor_lt_two_pow hj (Nat.pow_lt_pow_right (by omega) hb))
    have a1 := Nat.mul_le_mul_left (16 - r) h1
    have a2 := Nat.mul_le_mul_left r h2
    have a3 : (16 - r) * M + r * M = 16 * M := by rw [← Nat.add_mul, Nat.sub_add_cancel hr]
    show (16 - r) * V0 j + r * V0 (j ^^^ 2 ^ b) ≤ 16 * M
    omega
  · rw [if_neg c]; omega
/-! The family: whose copy a copy is. 4294967295 stands for NONE. -/
def fm_src (fa mo rk : Nat → Nat) (w : Nat) : Nat → Nat → Nat → Nat
  | 0, p, c => 2 * rk p + c
  | k + 1, p, c => if fa p = 4294967295 then 2 * rk p + c else fm_src fa mo rk w k (if c = 0 then fa p else mo p) (w / 2 ^ (2 * rk p + c) % 2)
def fm_ok (nf nc : Nat) (fa mo rk : Nat → Nat) : Prop := nf ≤ 3 ∧ nc ≤ 3 ∧ ∀ p, p < nf + nc → (fa p = 4294967295 ∧ rk p < nf) ∨ (fa p < p ∧ mo p < p ∧ rk p < nc ∧ ∀ q, q < p → fa q ≠ 4294967295 → rk q < rk p)
theorem fm_end {fa mo rk : Nat → Nat} {w k p c : Nat} (h : fa p = 4294967295) : fm_src fa mo rk w k p c = 2 * rk p + c := by
  cases k with
  | zero => rfl
  | succ k => show (if fa p = 4294967295 then _ else _) = _; rw [if_pos h]
theorem fm_step {fa mo rk : Nat → Nat} {w k p c : Nat} (h : fa p ≠ 4294967295) : fm_src fa mo rk w (k + 1) p c = fm_src fa mo rk w k (if c = 0 then fa p else mo p) (w / 2 ^ (2 * rk p + c) % 2) := by
  show (if fa p = 4294967295 then _ else _) = _
  rw [if_neg h]
theorem fm_par {nf nc : Nat} {fa mo rk : Nat → Nat} (h : fm_ok nf nc fa mo rk) {p c : Nat} (hp : p < nf + nc) (hc : fa p ≠ 4294967295) : (if c = 0 then fa p else mo p) < p ∧ rk p < nc ∧ (fa (if c = 0 then fa p else mo p) = 4294967295 ∨ rk (if c = 0 then fa p else mo p) < rk p) := by
  rcases h.2.2 p hp with h1 | ⟨h1, h2, h3, h4⟩
  · exact absurd h1.1 hc
  · have hq : (if c = 0 then fa p else mo p) < p := by by_cases e : c = 0 <;> simp only [e, if_true, if_false] <;> omega
    refine ⟨hq, h3, ?_⟩
    by_cases hf : fa (if c = 0 then fa p else mo p) = 4294967295
    · exact Or.inl hf
    · exact Or.inr (h4 _ hq hf)
theorem fm_lt {nf nc : Nat} {fa mo rk : Nat → Nat} (h : fm_ok nf nc fa mo rk) (w : Nat) : ∀ (k p c : Nat), p < nf + nc → c < 2 → (fa p = 4294967295 ∨ rk p < k) → fm_src fa mo rk w k p c < 2 * nf := by
  have hb1 := h.1
  have hb2 := h.2.1
  intro k
  induction k with
  | zero =>
    intro p c hp hc hk
    have hf : fa p = 4294967295 := by omega
    rw [fm_end hf]
    rcases h.2.2 p hp with h1 | h1
    · omega
    · omega
  | succ k ih =>
    intro p c hp hc hk
    by_cases hf : fa p = 4294967295
    · rw [fm_end hf]
      rcases h.2.2 p hp with h1 | h1
      · omega
      · omega
    · rw [fm_step hf]
      obtain ⟨q1, q2, q3⟩ := fm_par h (c := c) hp hf
      exact ih _ _ (by omega) (Nat.mod_lt _ (by decide)) (by omega)
theorem fm_more {nf nc : Nat} {fa mo rk : Nat → Nat} (h : fm_ok nf nc fa mo rk) (w : Nat) : ∀ (k p c : Nat), p < nf + nc → (fa p = 4294967295 ∨ rk p < k) → fm_src fa mo rk w (k + 1) p c = fm_src fa mo rk w k p c := by
  intro k
  induction k with
  | zero =>
    intro p c hp hk
    have hf : fa p = 4294967295 := by omega
    rw [fm_end hf, fm_end hf]
  | succ k ih =>
    intro p c hp hk
    by_cases hf : fa p = 4294967295
    · rw [fm_end hf, fm_end hf]
    · rw [fm_step hf, fm_step hf]
      obtain ⟨q1, q2, q3⟩ := fm_par h (c := c) hp hf
      exact ih _ _ (by omega) (by omega)
theorem fm_all {nf nc : Nat} {fa mo rk : Nat → Nat} (h : fm_ok nf nc fa mo rk) {p : Nat} (hp : p < nf + nc) : fa p = 4294967295 ∨ rk p < 3 := by
  rcases h.2.2 p hp with h1 | h1
  · exact Or.inl h1.1
  · have := h.2.1; exact Or.inr (by omega)
theorem fm_lt3 {nf nc : Nat} {fa mo rk : Nat → Nat} (h : fm_ok nf nc fa mo rk) (w : Nat) {p c : Nat} (hp : p < nf + nc) (hc : c < 2) : fm_src fa mo rk w 3 p c < 2 * nf := fm_lt h w 3 p c hp hc (fm_all h hp)
/-- one step up, to a source that isn't cut short -/
theorem fm_up {nf nc : Nat} {fa mo rk : Nat → Nat} (h : fm_ok nf nc fa mo rk) (w : Nat) {p c : Nat} (hp : p < nf + nc) (hf : fa p ≠ 4294967295) : fm_src fa mo rk w 3 p c = fm_src fa mo rk w 3 (if c = 0 then fa p else mo p) (w / 2 ^ (2 * rk p + c) % 2) := by
  obtain ⟨q1, q2, q3⟩ := fm_par h (c := c) hp hf
  have := h.2.1
  rw [fm_step hf, fm_more h w 2 _ _ (by omega) (by omega)]
theorem fm_rk {nf nc : Nat} {fa mo rk : Nat → Nat} (h : fm_ok nf nc fa mo rk) {p : Nat} (hp : p < nf + nc) : rk p < 3 := by
  have h1 := h.1
  have h2 := h.2.1
  rcases h.2.2 p hp with h3 | h3 <;> omega
theorem fm_fa {nf nc : Nat} {fa mo rk : Nat → Nat} (h : fm_ok nf nc fa mo rk) {p : Nat} (hp : p < nf + nc) : fa p = 4294967295 ∨ fa p < 6 := by
  have h1 := h.1
  have h2 := h.2.1
  rcases h.2.2 p hp with h3 | h3 <;> omega
/-- a founder more, a child more -/
theorem fm_founder {nf nc : Nat} {fa mo rk : Nat → Nat} (h : fm_ok nf nc fa mo rk) (hn : nf < 3) (x : Nat) : fm_ok (nf + 1) nc (va_up fa (nf + nc) 4294967295) (va_up mo (nf + nc) x) (va_up rk (nf + nc) nf) := by
  refine ⟨by omega, h.2.1, fun p hp => ?_⟩
  by_cases e : p = nf + nc
  · subst e
    rw [va_up_self, va_up_self]
    exact Or.inl ⟨rfl, by omega⟩
  · rw [va_up_ne _ _ e, va_up_ne _ _ e, va_up_ne _ _ e]
    rcases h.2.2 p (by omega) with h1 | ⟨h1, h2, h3, h4⟩
    · exact Or.inl ⟨h1.1, by omega⟩
    · refine Or.inr ⟨h1, h2, h3, fun q hq => ?_⟩
      rw [va_up_ne _ _ (by omega), va_up_ne _ _ (by omega)]
      exact h4 q hq
theorem fm_child {nf nc : Nat} {fa mo rk : Nat → Nat} (h : fm_ok nf nc fa mo rk) (hn : nc < 3) {x y : Nat} (hx : x < nf + nc) (hy : y < nf + nc) : fm_ok nf (nc + 1) (va_up fa (nf + nc) x) (va_up mo (nf + nc) y) (va_up rk (nf + nc) nc) := by
  refine ⟨h.1, by omega, fun p hp => ?_⟩
  by_cases e : p = nf + nc
  · subst e
    rw [va_up_self, va_up_self, va_up_self]
    refine Or.inr ⟨hx, hy, by omega, fun q hq hf => ?_⟩
    rw [va_up_ne _ _ (by omega)] at hf ⊢
    rcases h.2.2 q (by omega) with h1 | h1
    · exact absurd h1.1 hf
    · exact h1.2.2.1
  · rw [va_up_ne _ _ e, va_up_ne _ _ e, va_up_ne _ _ e]
    rcases h.2.2 p (by omega) with h1 | ⟨h1, h2, h3, h4⟩
    · exact Or.inl h1
    · refine Or.inr ⟨h1, h2, by omega, fun q hq => ?_⟩
      rw [va_up_ne _ _ (by omega), va_up_ne _ _ (by omega)]
      exact h4 q hq
theorem mg_ways {nc : Nat} (h : nc ≤ 3) : 2 ^ (2 * nc) ≤ 64 := by
  rcases (show nc = 0 ∨ nc = 1 ∨ nc = 2 ∨ nc = 3 by omega) with h | h | h | h <;> subst h <;> decide
theorem fm_bk0 {fa mo rk : Nat → Nat} {w k p c r : Nat} (hI : fm_src fa mo rk w (3 - k) p c = r) (hk : k < 3) (hf : fa p ≠ 4294967295) (hc : c = 0) : fm_src fa mo rk w (3 - (k + 1)) (fa p) (w / 2 ^ (2 * rk p + c) % 2) = r := by
  rw [← hI, show 3 - k = (3 - (k + 1)) + 1 by omega, fm_step hf, if_pos hc]
theorem fm_bk1 {fa mo rk : Nat → Nat} {w k p c r : Nat} (hI : fm_src fa mo rk w (3 - k) p c = r) (hk : k < 3) (hf : fa p ≠ 4294967295) (hc : c ≠ 0) : fm_src fa mo rk w (3 - (k + 1)) (mo p) (w / 2 ^ (2 * rk p + c) % 2) = r := by
  rw [← hI, show 3 - k = (3 - (k + 1)) + 1 by omega, fm_step hf, if_neg hc]
theorem fm_lo0 {nf nc : Nat} {fa mo rk : Nat → Nat} (h : fm_ok nf nc fa mo rk) {p : Nat} (hp : p < nf + nc) (hf : fa p ≠ 4294967295) : fa p < nf + nc := by
  rcases h.2.2 p hp with h1 | h1 <;> omega
theorem fm_lo1 {nf nc : Nat} {fa mo rk : Nat → Nat} (h : fm_ok nf nc fa mo rk) {p : Nat} (hp : p < nf + nc) (hf : fa p ≠ 4294967295) : mo p < nf + nc := by
  rcases h.2.2 p hp with h1 | h1 <;> omega
theorem fm_fin {fa mo rk : Nat → Nat} {w k p c : Nat} (h : 3 ≤ k ∨ fa p = 4294967295) : fm_src fa mo rk w (3 - k) p c = 2 * rk p + c := by
  rcases h with h | h
  · rw [show 3 - k = 0 by omega]; rfl
  · exact fm_end h
/-- two persons share a founder's copy -/
def fm_shr (fa mo rk : Nat → Nat) (a b w : Nat) : Prop := fm_src fa mo rk w 3 a 0 = fm_src fa mo rk w 3 b 0 ∨ fm_src fa mo rk w 3 a 0 = fm_src fa mo rk w 3 b 1 ∨ fm_src fa mo rk w 3 a 1 = fm_src fa mo rk w 3 b 0 ∨ fm_src fa mo rk w 3 a 1 = fm_src fa mo rk w 3 b 1
end
section
/-! The markers' own numbers. -/
def ma_rt (n : Nat) (rt : Nat → Nat) : Nat → Nat := if 0 < n then va_up rt (n - 1) 8 else rt
def ma_wt (wt : Nat → Nat) (m l : Nat) : Nat := wt (m * 3 + l - 1)
theorem ft_w_le {W L : Nat → Nat} {K : Nat} (hW : ∀ l, 1 ≤ l → l ≤ 3 → W l ≤ 8) (hL : ∀ k, k < K → L k ≤ 3) : ∀ k, k ≤ K → ft_w W L k ≤ 8 ^ k := by
  intro k
  induction k with
  | zero => intro _; exact Nat.le_refl _
  | succ k ih =>
    intro hk
    show ft_w W L k * (if L k = 0 then 8 else W (L k)) ≤ 8 ^ (k + 1)
    rw [Nat.pow_succ]
    refine Nat.mul_le_mul (ih (by omega)) ?_
    have h1 := hL k (by omega)
    by_cases h : L k = 0
    · rw [if_pos h]; exact Nat.le_refl _
    · rw [if_neg h]; exact hW _ (by omega) h1
/-- the search restores what it laid down -/
theorem fi_back1 (L : Nat → Nat) (a x : Nat) : va_up (va_up L a x) a (L a) = L := by
  funext j
  by_cases h : j = a
  · subst h; rw [va_up_self]
  · rw [va_up_ne _ _ h, va_up_ne _ _ h]
theorem fi_back2 (L : Nat → Nat) (a b x y : Nat) : va_up (va_up (va_up (va_up L a x) b y) b (va_up L a x b)) a (L a) = L := by
  rw [fi_back1 (va_up L a x) b y, fi_back1]
theorem fi_le1 {L : Nat → Nat} {a x : Nat} (hL : ∀ k, k < 6 → L k ≤ 3) (hx : x ≤ 3) : ∀ k, k < 6 → va_up L a x k ≤ 3 := fun k hk => by
  by_cases h : k = a
  · subst h; rw [va_up_self]; exact hx
  · rw [va_up_ne _ _ h]; exact hL k hk
theorem fi_le2 {L : Nat → Nat} {a x : Nat} (hL : ∀ k, k < 6 → L k ≤ 3) (hx : x ≤ 3) : ∀ k, k < 6 → va_up L a x k ≤ 3 := fi_le1 hL hx
/-- the letters that are seen -/
def sn_ok (ol tl : Nat → Nat) : Prop := (∀ k, k < 24 → ol k ≤ 3) ∧ (∀ k, k < 24 → tl k ≤ 3) ∧ ∀ k, k < 24 → ol k = 0 ∨ 1 ≤ tl k
theorem ma_w8 {wt : Nat → Nat} {mk : Nat} (h : ma_wt wt mk 1 + ma_wt wt mk 2 + ma_wt wt mk 3 = 8) : ∀ l, 1 ≤ l → l ≤ 3 → ma_wt wt mk l ≤ 8 := fun l h1 h3 => by
  rcases (show l = 1 ∨ l = 2 ∨ l = 3 by omega) with e | e | e <;> subst e <;> omega
noncomputable def fi_fit (wt ol tl fa mo rk : Nat → Nat) (nf nc mk w : Nat) : Nat := ft_fit (ma_wt wt mk) (2 * nf) (fun q => ol (mk * 6 + q)) (fun q => tl (mk * 6 + q)) (fun q => fm_src fa mo rk w 3 q 0) (fun q => fm_src fa mo rk w 3 q 1) (nf + nc)
theorem fi_fit_eq {wt ol tl fa mo rk : Nat → Nat} {nf nc mk w : Nat} (hF : fm_ok nf nc fa mo rk) (hS : sn_ok ol tl) (hm : mk < 4) (hW : ma_wt wt mk 1 + ma_wt wt mk 2 + ma_wt wt mk 3 = 8) :
    ft_from (ma_wt wt mk) (2 * nf) (fun q => ol (mk * 6 + q)) (fun q => tl (mk * 6 + q)) (fun q => fm_src fa mo rk w 3 q 0) (fun q => fm_src fa mo rk w 3 q 1) (nf + nc) 0 (fun _ => 0) = fi_fit wt ol tl fa mo rk nf nc mk w := by
  refine ft_from_fit hW (fun q hq => ⟨fm_lt3 hF w hq (by omega), fm_lt3 hF w hq (by omega), ?_⟩)
  have h1 := hF.1
  have h2 := hF.2.1
  have a1 := hS.1 (mk * 6 + q) (by omega)
  have a2 := hS.2.1 (mk * 6 + q) (by omega)
  have a3 := hS.2.2 (mk * 6 + q) (by omega)
  show ol (mk * 6 + q) = 0 ∨ 1 ≤ ol (mk * 6 + q) ∧ ol (mk * 6 + q) ≤ 3 ∧ 1 ≤ tl (mk * 6 + q) ∧ tl (mk * 6 + q) ≤ 3
  omega
/-- the table, one marker's ways below k renewed; all markers below m renewed -/
def fi_tb (tb F : Nat → Nat) (mk k : Nat) : Nat → Nat := fun i => if mk * 64 ≤ i ∧ i < mk * 64 + k then F (i - mk * 64) else tb i
theorem fi_tb0 (tb F : Nat → Nat) (mk : Nat) : fi_tb tb F mk 0 = tb := by
  funext i
  unfold fi_tb
  rw [if_neg (by omega)]
theorem fi_tbS (tb F : Nat → Nat) (mk k : Nat) : va_up (fi_tb tb F mk k) (mk * 64 + k) (F k) = fi_tb tb F mk (k + 1) := by
  funext i
  by_cases h : i = mk * 64 + k
  · subst h
    rw [va_up_self]
    unfold fi_tb
    rw [if_pos (by omega), show mk * 64 + k - mk * 64 = k by omega]
  · rw [va_up_ne _ _ h]
    unfold fi_tb
    by_cases h1 : mk * 64 ≤ i ∧ i < mk * 64 + k
    · rw [if_pos h1, if_pos (by omega)]
    · rw [if_neg h1, if_neg (by omega)]
def fi_all (tb : Nat → Nat) (F : Nat → Nat → Nat) (w m : Nat) : Nat → Nat := fun i => if i / 64 < m ∧ i % 64 < w then F (i / 64) (i % 64) else tb i
theorem fi_all0 (tb : Nat → Nat) (F : Nat → Nat → Nat) (w : Nat) : fi_all tb F w 0 = tb := by
  funext i
  unfold fi_all
  rw [if_neg (by omega)]
theorem fi_allS (tb : Nat → Nat) (F : Nat → Nat → Nat) {w m : Nat} (hw : w ≤ 64) : fi_tb (fi_all tb F w m) (F m) m w = fi_all tb F w (m + 1) := by
  funext i
  unfold fi_tb fi_all
  by_cases h : m * 64 ≤ i ∧ i < m * 64 + w
  · have e1 : i / 64 = m := by omega
    have e2 : i % 64 = i - m * 64 := by omega
    rw [if_pos h, if_pos (by omega), e1, e2]
  · rw [if_neg h]
    by_cases h2 : i / 64 < m ∧ i % 64 < w
    · rw [if_pos h2, if_pos (by omega)]
    · rw [if_neg h2, if_neg (by omega)]
end
section
abbrev R_Am : String := "LinkedMarkers$Amounts"
def T_Am : u_T := fun k => match k with
  | _ => ("LinkedMarkers$Amounts", "places", "[J", true)
def t_Am : Nat → FieldType := fun k => match k with
  | _ => .array .long
theorem nm_Am : ∀ a, a < 1 → ∀ b, b < 1 → a ≠ b → (T_Am a).2.1 ≠ (T_Am b).2.1 := by decide +kernel
theorem ty_Am : ∀ k, k < 1 → parseFieldDescriptor (T_Am k).2.2.1 = some (t_Am k) := by decide +kernel
abbrev R_Fa : String := "LinkedMarkers$Family"
def T_Fa : u_T := fun k => match k with
  | 0 => ("LinkedMarkers$Family", "fathers", "[I", true)
  | 1 => ("LinkedMarkers$Family", "mothers", "[I", true)
  | 2 => ("LinkedMarkers$Family", "ranks", "[I", true)
  | 3 => ("LinkedMarkers$Family", "founders", "I", false)
  | _ => ("LinkedMarkers$Family", "children", "I", false)
def t_Fa : Nat → FieldType := fun k => match k with
  | 0 => .array .int
  | 1 => .array .int
  | 2 => .array .int
  | 3 => .int
  | _ => .int
theorem nm_Fa : ∀ a, a < 5 → ∀ b, b < 5 → a ≠ b → (T_Fa a).2.1 ≠ (T_Fa b).2.1 := by decide +kernel
theorem ty_Fa : ∀ k, k < 5 → parseFieldDescriptor (T_Fa k).2.2.1 = some (t_Fa k) := by decide +kernel
abbrev R_Ma : String := "LinkedMarkers$Markers"
def T_Ma : u_T := fun k => match k with
  | 0 => ("LinkedMarkers$Markers", "weights", "[I", true)
  | 1 => ("LinkedMarkers$Markers", "rates", "[I", true)
  | 2 => ("LinkedMarkers$Markers", "oneLetters", "[I", true)
  | 3 => ("LinkedMarkers$Markers", "otherLetters", "[I", true)
  | 4 => ("LinkedMarkers$Markers", "size", "I", false)
  | _ => ("LinkedMarkers$Markers", "sightings", "I", false)
def t_Ma : Nat → FieldType := fun k => match k with
  | 0 => .array .int
  | 1 => .array .int
  | 2 => .array .int
  | 3 => .array .int
  | 4 => .int
  | _ => .int
theorem nm_Ma : ∀ a, a < 6 → ∀ b, b < 6 → a ≠ b → (T_Ma a).2.1 ≠ (T_Ma b).2.1 := by decide +kernel
theorem ty_Ma : ∀ k, k < 6 → parseFieldDescriptor (T_Ma k).2.2.1 = some (t_Ma k) := by decide +kernel
abbrev R_Fi : String := "LinkedMarkers$Fits"
def T_Fi : u_T := fun k => match k with
  | 0 => ("LinkedMarkers$Fits", "family", "LLinkedMarkers$Family;", true)
  | 1 => ("LinkedMarkers$Fits", "markers", "LLinkedMarkers$Markers;", true)
  | 2 => ("LinkedMarkers$Fits", "table", "[I", true)
  | _ => ("LinkedMarkers$Fits", "letters", "[I", true)
def t_Fi : Nat → FieldType := fun k => match k with
  | 0 => .object "LinkedMarkers$Family"
  | 1 => .object "LinkedMarkers$Markers"
  | 2 => .array .int
  | _ => .array .int
theorem nm_Fi : ∀ a, a < 4 → ∀ b, b < 4 → a ≠ b → (T_Fi a).2.1 ≠ (T_Fi b).2.1 := by decide +kernel
theorem ty_Fi : ∀ k, k < 4 → parseFieldDescriptor (T_Fi k).2.2.1 = some (t_Fi k) := by decide +kernel
abbrev R_Su : String := "LinkedMarkers$Sums"
def T_Su : u_T := fun k => match k with
  | 0 => ("LinkedMarkers$Sums", "family", "LLinkedMarkers$Family;", true)
  | 1 => ("LinkedMarkers$Sums", "markers", "LLinkedMarkers$Markers;", true)
  | 2 => ("LinkedMarkers$Sums", "fits", "LLinkedMarkers$Fits;", true)
  | 3 => ("LinkedMarkers$Sums", "rates", "[I", true)
  | 4 => ("LinkedMarkers$Sums", "before", "LLinkedMarkers$Amounts;", true)
  | 5 => ("LinkedMarkers$Sums", "behind", "LLinkedMarkers$Amounts;", true)
  | 6 => ("LinkedMarkers$Sums", "parts", "LLinkedMarkers$Amounts;", true)
  | _ => ("LinkedMarkers$Sums", "totals", "LLinkedMarkers$Amounts;", true)
def t_Su : Nat → FieldType := fun k => match k with
  | 0 => .object "LinkedMarkers$Family"
  | 1 => .object "LinkedMarkers$Markers"
  | 2 => .object "LinkedMarkers$Fits"
  | 3 => .array .int
  | 4 => .object "LinkedMarkers$Amounts"
  | 5 => .object "LinkedMarkers$Amounts"
  | 6 => .object "LinkedMarkers$Amounts"
  | _ => .object "LinkedMarkers$Amounts"
theorem nm_Su : ∀ a, a < 8 → ∀ b, b < 8 → a ≠ b → (T_Su a).2.1 ≠ (T_Su b).2.1 := by decide +kernel
theorem ty_Su : ∀ k, k < 8 → parseFieldDescriptor (T_Su k).2.2.1 = some (t_Su k) := by decide +kernel
abbrev R_LM : String := "LinkedMarkers"
def T_LM : u_T := fun k => match k with
  | 0 => ("LinkedMarkers", "family", "LLinkedMarkers$Family;", true)
  | 1 => ("LinkedMarkers", "markers", "LLinkedMarkers$Markers;", true)
  | 2 => ("LinkedMarkers", "fits", "LLinkedMarkers$Fits;", true)
  | 3 => ("LinkedMarkers", "sums", "LLinkedMarkers$Sums;", true)
  | 4 => ("LinkedMarkers", "page", "[C", true)
  | _ => ("LinkedMarkers", "pageLength", "I", false)
def t_LM : Nat → FieldType := fun k => match k with
  | 0 => .object "LinkedMarkers$Family"
  | 1 => .object "LinkedMarkers$Markers"
  | 2 => .object "LinkedMarkers$Fits"
  | 3 => .object "LinkedMarkers$Sums"
  | 4 => .array .char
  | _ => .int
theorem nm_LM : ∀ a, a < 6 → ∀ b, b < 6 → a ≠ b → (T_LM a).2.1 ≠ (T_LM b).2.1 := by decide +kernel
theorem ty_LM : ∀ k, k < 6 → parseFieldDescriptor (T_LM k).2.2.1 = some (t_LM k) := by decide +kernel
abbrev R_Mo : String := "LinkedMarkersModel"
def T_Mo : u_T := fun k => match k with
  | 0 => ("LinkedMarkersModel", "fault", "I", false)
  | 1 => ("LinkedMarkersModel", "persons", "I", false)
  | 2 => ("LinkedMarkersModel", "founders", "I", false)
  | 3 => ("LinkedMarkersModel", "children", "I", false)
  | 4 => ("LinkedMarkersModel", "order", "[I", true)
  | 5 => ("LinkedMarkersModel", "father", "[I", true)
  | 6 => ("LinkedMarkersModel", "mother", "[I", true)
  | 7 => ("LinkedMarkersModel", "markers", "I", false)
  | 8 => ("LinkedMarkersModel", "weight", "[I", true)
  | 9 => ("LinkedMarkersModel", "rates", "[I", true)
  | 10 => ("LinkedMarkersModel", "now", "[I", true)
  | 11 => ("LinkedMarkersModel", "seen", "[I", true)
  | 12 => ("LinkedMarkersModel", "letter", "[I", true)
  | 13 => ("LinkedMarkersModel", "known", "[Z", true)
  | 14 => ("LinkedMarkersModel", "fits", "[I", true)
  | 15 => ("LinkedMarkersModel", "before", "[J", true)
  | 16 => ("LinkedMarkersModel", "behind", "[J", true)
  | 17 => ("LinkedMarkersModel", "joint", "[J", true)
  | 18 => ("LinkedMarkersModel", "other", "[J", true)
  | 19 => ("LinkedMarkersModel", "sum", "[J", true)
  | 20 => ("LinkedMarkersModel", "part", "[J", true)
  | 21 => ("LinkedMarkersModel", "product", "[J", true)
  | 22 => ("LinkedMarkersModel", "change", "[J", true)
  | 23 => ("LinkedMarkersModel", "bits", "[I", true)
  | 24 => ("LinkedMarkersModel", "written", "I", false)
  | _ => ("LinkedMarkersModel", "page", "[I", true)
def t_Mo : Nat → FieldType := fun k => match k with
  | 0 => .int
  | 1 => .int
  | 2 => .int
  | 3 => .int
  | 4 => .array .int
  | 5 => .array .int
  | 6 => .array .int
  | 7 => .int
  | 8 => .array .int
  | 9 => .array .int
  | 10 => .array .int
  | 11 => .array .int
  | 12 => .array .int
  | 13 => .array .boolean
  | 14 => .array .int
  | 15 => .array .long
  | 16 => .array .long
  | 17 => .array .long
  | 18 => .array .long
  | 19 => .array .long
  | 20 => .array .long
  | 21 => .array .long
  | 22 => .array .long
  | 23 => .array .int
  | 24 => .int
  | _ => .array .int
theorem nm_Mo : ∀ a, a < 26 → ∀ b, b < 26 → a ≠ b → (T_Mo a).2.1 ≠ (T_Mo b).2.1 := by decide +kernel
theorem ty_Mo : ∀ k, k < 26 → parseFieldDescriptor (T_Mo k).2.2.1 = some (t_Mo k) := by decide +kernel
abbrev R_La : String := "LinkedMarkersLaw"
abbrev b_Am_init : ByteArray := prog_2_method_1_code
abbrev y_Am_init : MethodName := ⟨R_Am, "<init>", "(I)V"⟩
abbrev b_Am_set : ByteArray := prog_2_method_2_code
abbrev y_Am_set : MethodName := ⟨R_Am, "set", "(II)V"⟩
abbrev b_Am_copy : ByteArray := prog_2_method_3_code
abbrev y_Am_copy : MethodName := ⟨R_Am, "copy", "(II)V"⟩
abbrev b_Am_add : ByteArray := prog_2_method_4_code
abbrev y_Am_add : MethodName := ⟨R_Am, "add", "(ILLinkedMarkers$Amounts;I)V"⟩
abbrev b_Am_multiply : ByteArray := prog_2_method_5_code
abbrev y_Am_multiply : MethodName := ⟨R_Am, "multiply", "(II)V"⟩
abbrev b_Am_setProduct : ByteArray := prog_2_method_6_code
abbrev y_Am_setProduct : MethodName := ⟨R_Am, "setProduct", "(ILLinkedMarkers$Amounts;LLinkedMarkers$Amounts;)V"⟩
abbrev b_Am_blend : ByteArray := prog_2_method_7_code
abbrev y_Am_blend : MethodName := ⟨R_Am, "blend", "(III)V"⟩
abbrev b_Am_isZero : ByteArray := prog_2_method_8_code
abbrev y_Am_isZero : MethodName := ⟨R_Am, "isZero", "(I)Z"⟩
abbrev b_Am_compare : ByteArray := prog_2_method_9_code
abbrev y_Am_compare : MethodName := ⟨R_Am, "compare", "(II)I"⟩
abbrev b_Am_write : ByteArray := prog_2_method_10_code
abbrev y_Am_write : MethodName := ⟨R_Am, "write", "(I[C)I"⟩
abbrev b_Fa_init : ByteArray := prog_3_method_1_code
abbrev y_Fa_init : MethodName := ⟨R_Fa, "<init>", "()V"⟩
abbrev b_Fa_persons : ByteArray := prog_3_method_2_code
abbrev y_Fa_persons : MethodName := ⟨R_Fa, "persons", "()I"⟩
abbrev b_Fa_bits : ByteArray := prog_3_method_3_code
abbrev y_Fa_bits : MethodName := ⟨R_Fa, "bits", "()I"⟩
abbrev b_Fa_ways : ByteArray := prog_3_method_4_code
abbrev y_Fa_ways : MethodName := ⟨R_Fa, "ways", "()I"⟩
abbrev b_Fa_hasPerson : ByteArray := prog_3_method_5_code
abbrev y_Fa_hasPerson : MethodName := ⟨R_Fa, "hasPerson", "(I)Z"⟩
abbrev b_Fa_hasWay : ByteArray := prog_3_method_6_code
abbrev y_Fa_hasWay : MethodName := ⟨R_Fa, "hasWay", "(I)Z"⟩
abbrev b_Fa_addFounder : ByteArray := prog_3_method_7_code
abbrev y_Fa_addFounder : MethodName := ⟨R_Fa, "addFounder", "()I"⟩
abbrev b_Fa_addChild : ByteArray := prog_3_method_8_code
abbrev y_Fa_addChild : MethodName := ⟨R_Fa, "addChild", "(II)I"⟩
abbrev b_Fa_sourceOf : ByteArray := prog_3_method_9_code
abbrev y_Fa_sourceOf : MethodName := ⟨R_Fa, "sourceOf", "(III)I"⟩
abbrev b_Fa_shareCopy : ByteArray := prog_3_method_10_code
abbrev y_Fa_shareCopy : MethodName := ⟨R_Fa, "shareCopy", "(III)Z"⟩
abbrev b_Fi_init : ByteArray := prog_4_method_1_code
abbrev y_Fi_init : MethodName := ⟨R_Fi, "<init>", "(LLinkedMarkers$Family;LLinkedMarkers$Markers;)V"⟩
abbrev b_Fi_at : ByteArray := prog_4_method_2_code
abbrev y_Fi_at : MethodName := ⟨R_Fi, "at", "(II)I"⟩
abbrev b_Fi_renewAll : ByteArray := prog_4_method_3_code
abbrev y_Fi_renewAll : MethodName := ⟨R_Fi, "renewAll", "()V"⟩
abbrev b_Fi_renew : ByteArray := prog_4_method_4_code
abbrev y_Fi_renew : MethodName := ⟨R_Fi, "renew", "(I)V"⟩
abbrev b_Fi_sumFrom : ByteArray := prog_4_method_5_code
abbrev y_Fi_sumFrom : MethodName := ⟨R_Fi, "sumFrom", "(III)I"⟩
abbrev b_Fi_sumWith : ByteArray := prog_4_method_6_code
abbrev y_Fi_sumWith : MethodName := ⟨R_Fi, "sumWith", "(IIIII)I"⟩
abbrev b_Fi_weightOfLetters : ByteArray := prog_4_method_7_code
abbrev y_Fi_weightOfLetters : MethodName := ⟨R_Fi, "weightOfLetters", "(I)I"⟩
abbrev b_Ma_init : ByteArray := prog_5_method_1_code
abbrev y_Ma_init : MethodName := ⟨R_Ma, "<init>", "()V"⟩
abbrev b_Ma_gaps : ByteArray := prog_5_method_2_code
abbrev y_Ma_gaps : MethodName := ⟨R_Ma, "gaps", "()I"⟩
abbrev b_Ma_hasMarker : ByteArray := prog_5_method_3_code
abbrev y_Ma_hasMarker : MethodName := ⟨R_Ma, "hasMarker", "(I)Z"⟩
abbrev b_Ma_hasGap : ByteArray := prog_5_method_4_code
abbrev y_Ma_hasGap : MethodName := ⟨R_Ma, "hasGap", "(I)Z"⟩
abbrev b_Ma_add : ByteArray := prog_5_method_5_code
abbrev y_Ma_add : MethodName := ⟨R_Ma, "add", "(III)I"⟩
abbrev b_Ma_weightOf : ByteArray := prog_5_method_6_code
abbrev y_Ma_weightOf : MethodName := ⟨R_Ma, "weightOf", "(II)I"⟩
abbrev b_Ma_isSeen : ByteArray := prog_5_method_7_code
abbrev y_Ma_isSeen : MethodName := ⟨R_Ma, "isSeen", "(II)Z"⟩
abbrev b_Ma_oneLetter : ByteArray := prog_5_method_8_code
abbrev y_Ma_oneLetter : MethodName := ⟨R_Ma, "oneLetter", "(II)I"⟩
abbrev b_Ma_otherLetter : ByteArray := prog_5_method_9_code
abbrev y_Ma_otherLetter : MethodName := ⟨R_Ma, "otherLetter", "(II)I"⟩
abbrev b_Ma_putSighting : ByteArray := prog_5_method_10_code
abbrev y_Ma_putSighting : MethodName := ⟨R_Ma, "putSighting", "(IIII)V"⟩
abbrev b_Ma_dropSighting : ByteArray := prog_5_method_11_code
abbrev y_Ma_dropSighting : MethodName := ⟨R_Ma, "dropSighting", "(II)V"⟩
abbrev b_Su_init : ByteArray := prog_6_method_1_code
abbrev y_Su_init : MethodName := ⟨R_Su, "<init>", "(LLinkedMarkers$Family;LLinkedMarkers$Markers;LLinkedMarkers$Fits;)V"⟩
abbrev b_Su_takeRates : ByteArray := prog_6_method_2_code
abbrev y_Su_takeRates : MethodName := ⟨R_Su, "takeRates", "()V"⟩
abbrev b_Su_freeRates : ByteArray := prog_6_method_3_code
abbrev y_Su_freeRates : MethodName := ⟨R_Su, "freeRates", "()V"⟩
abbrev b_Su_changeRate : ByteArray := prog_6_method_4_code
abbrev y_Su_changeRate : MethodName := ⟨R_Su, "changeRate", "(II)V"⟩
abbrev b_Su_sumTo : ByteArray := prog_6_method_5_code
abbrev y_Su_sumTo : MethodName := ⟨R_Su, "sumTo", "(I)V"⟩
abbrev b_Su_split : ByteArray := prog_6_method_6_code
abbrev y_Su_split : MethodName := ⟨R_Su, "split", "(I)V"⟩
abbrev b_Su_rateOfGreatest : ByteArray := prog_6_method_7_code
abbrev y_Su_rateOfGreatest : MethodName := ⟨R_Su, "rateOfGreatest", "(I)I"⟩
abbrev b_Su_thousandthsTurned : ByteArray := prog_6_method_8_code
abbrev y_Su_thousandthsTurned : MethodName := ⟨R_Su, "thousandthsTurned", "(I)I"⟩
abbrev b_Su_thousandthsShared : ByteArray := prog_6_method_9_code
abbrev y_Su_thousandthsShared : MethodName := ⟨R_Su, "thousandthsShared", "(II)I"⟩
abbrev b_Su_wayOfGreatest : ByteArray := prog_6_method_10_code
abbrev y_Su_wayOfGreatest : MethodName := ⟨R_Su, "wayOfGreatest", "()I"⟩
abbrev b_Su_quotient : ByteArray := prog_6_method_11_code
abbrev y_Su_quotient : MethodName := ⟨R_Su, "quotient", "(III)I"⟩
abbrev b_Su_comeFromBefore : ByteArray := prog_6_method_12_code
abbrev y_Su_comeFromBefore : MethodName := ⟨R_Su, "comeFromBefore", "(I)V"⟩
abbrev b_Su_comeFromBehind : ByteArray := prog_6_method_13_code
abbrev y_Su_comeFromBehind : MethodName := ⟨R_Su, "comeFromBehind", "(I)V"⟩
abbrev b_Su_fillWithOnes : ByteArray := prog_6_method_14_code
abbrev y_Su_fillWithOnes : MethodName := ⟨R_Su, "fillWithOnes", "(LLinkedMarkers$Amounts;)V"⟩
abbrev b_Su_multiplyByFits : ByteArray := prog_6_method_15_code
abbrev y_Su_multiplyByFits : MethodName := ⟨R_Su, "multiplyByFits", "(LLinkedMarkers$Amounts;I)V"⟩
abbrev b_Su_crossGap : ByteArray := prog_6_method_16_code
abbrev y_Su_crossGap : MethodName := ⟨R_Su, "crossGap", "(LLinkedMarkers$Amounts;I)V"⟩
abbrev b_Su_addUp : ByteArray := prog_6_method_17_code
abbrev y_Su_addUp : MethodName := ⟨R_Su, "addUp", "(ILLinkedMarkers$Amounts;)V"⟩
abbrev b_LM_init : ByteArray := prog_1_method_1_code
abbrev y_LM_init : MethodName := ⟨R_LM, "<init>", "()V"⟩
abbrev b_LM_founder : ByteArray := prog_1_method_2_code
abbrev y_LM_founder : MethodName := ⟨R_LM, "founder", "()I"⟩
abbrev b_LM_child : ByteArray := prog_1_method_3_code
abbrev y_LM_child : MethodName := ⟨R_LM, "child", "(II)I"⟩
abbrev b_LM_marker : ByteArray := prog_1_method_4_code
abbrev y_LM_marker : MethodName := ⟨R_LM, "marker", "(III)I"⟩
abbrev b_LM_rate : ByteArray := prog_1_method_5_code
abbrev y_LM_rate : MethodName := ⟨R_LM, "rate", "(II)I"⟩
abbrev b_LM_see : ByteArray := prog_1_method_6_code
abbrev y_LM_see : MethodName := ⟨R_LM, "see", "(IIII)V"⟩
abbrev b_LM_unsee : ByteArray := prog_1_method_7_code
abbrev y_LM_unsee : MethodName := ⟨R_LM, "unsee", "(II)Z"⟩
abbrev b_LM_count : ByteArray := prog_1_method_8_code
abbrev y_LM_count : MethodName := ⟨R_LM, "count", "(I)I"⟩
abbrev b_LM_origin : ByteArray := prog_1_method_9_code
abbrev y_LM_origin : MethodName := ⟨R_LM, "origin", "(III)I"⟩
abbrev b_LM_fit : ByteArray := prog_1_method_10_code
abbrev y_LM_fit : MethodName := ⟨R_LM, "fit", "(II)I"⟩
abbrev b_LM_joint : ByteArray := prog_1_method_11_code
abbrev y_LM_joint : MethodName := ⟨R_LM, "joint", "()I"⟩
abbrev b_LM_odds : ByteArray := prog_1_method_12_code
abbrev y_LM_odds : MethodName := ⟨R_LM, "odds", "(I)I"⟩
abbrev b_LM_would : ByteArray := prog_1_method_13_code
abbrev y_LM_would : MethodName := ⟨R_LM, "would", "(II)I"⟩
abbrev b_LM_best : ByteArray := prog_1_method_14_code
abbrev y_LM_best : MethodName := ⟨R_LM, "best", "(I)I"⟩
abbrev b_LM_turned : ByteArray := prog_1_method_15_code
abbrev y_LM_turned : MethodName := ⟨R_LM, "turned", "(II)I"⟩
abbrev b_LM_shared : ByteArray := prog_1_method_16_code
abbrev y_LM_shared : MethodName := ⟨R_LM, "shared", "(III)I"⟩
abbrev b_LM_likely : ByteArray := prog_1_method_17_code
abbrev y_LM_likely : MethodName := ⟨R_LM, "likely", "(I)I"⟩
abbrev b_LM_length : ByteArray := prog_1_method_18_code
abbrev y_LM_length : MethodName := ⟨R_LM, "length", "()I"⟩
abbrev b_LM_charAt : ByteArray := prog_1_method_19_code
abbrev y_LM_charAt : MethodName := ⟨R_LM, "charAt", "(I)C"⟩
abbrev b_LM_exponent : ByteArray := prog_1_method_20_code
abbrev y_LM_exponent : MethodName := ⟨R_LM, "exponent", "()I"⟩
abbrev b_LM_areWeights : ByteArray := prog_1_method_21_code
abbrev y_LM_areWeights : MethodName := ⟨R_LM, "areWeights", "(III)Z"⟩
abbrev b_LM_isWeight : ByteArray := prog_1_method_22_code
abbrev y_LM_isWeight : MethodName := ⟨R_LM, "isWeight", "(I)Z"⟩
abbrev b_LM_isRate : ByteArray := prog_1_method_23_code
abbrev y_LM_isRate : MethodName := ⟨R_LM, "isRate", "(I)Z"⟩
abbrev b_LM_isLetter : ByteArray := prog_1_method_24_code
abbrev y_LM_isLetter : MethodName := ⟨R_LM, "isLetter", "(I)Z"⟩
abbrev b_La_founder : ByteArray := method_3_code
abbrev y_La_founder : MethodName := ⟨R_La, "founder", "(LLinkedMarkers;[J)I"⟩
abbrev b_La_child : ByteArray := method_4_code
abbrev y_La_child : MethodName := ⟨R_La, "child", "(LLinkedMarkers;II[J)I"⟩
abbrev b_La_marker : ByteArray := method_5_code
abbrev y_La_marker : MethodName := ⟨R_La, "marker", "(LLinkedMarkers;III[J)I"⟩
abbrev b_La_rate : ByteArray := method_6_code
abbrev y_La_rate : MethodName := ⟨R_La, "rate", "(LLinkedMarkers;II[J)I"⟩
abbrev b_La_see : ByteArray := method_7_code
abbrev y_La_see : MethodName := ⟨R_La, "see", "(LLinkedMarkers;IIII)I"⟩
abbrev b_La_unsee : ByteArray := method_8_code
abbrev y_La_unsee : MethodName := ⟨R_La, "unsee", "(LLinkedMarkers;II[J)I"⟩
abbrev b_La_origin : ByteArray := method_9_code
abbrev y_La_origin : MethodName := ⟨R_La, "origin", "(LLinkedMarkers;III[J)I"⟩
abbrev b_La_fit : ByteArray := method_10_code
abbrev y_La_fit : MethodName := ⟨R_La, "fit", "(LLinkedMarkers;II[J)I"⟩
abbrev b_La_joint : ByteArray := method_11_code
abbrev y_La_joint : MethodName := ⟨R_La, "joint", "(LLinkedMarkers;[J)I"⟩
abbrev b_La_odds : ByteArray := method_12_code
abbrev y_La_odds : MethodName := ⟨R_La, "odds", "(LLinkedMarkers;I[J)I"⟩
abbrev b_La_would : ByteArray := method_13_code
abbrev y_La_would : MethodName := ⟨R_La, "would", "(LLinkedMarkers;II[J)I"⟩
abbrev b_La_best : ByteArray := method_14_code
abbrev y_La_best : MethodName := ⟨R_La, "best", "(LLinkedMarkers;I[J)I"⟩
abbrev b_La_turned : ByteArray := method_15_code
abbrev y_La_turned : MethodName := ⟨R_La, "turned", "(LLinkedMarkers;II[J)I"⟩
abbrev b_La_shared : ByteArray := method_16_code
abbrev y_La_shared : MethodName := ⟨R_La, "shared", "(LLinkedMarkers;III[J)I"⟩
abbrev b_La_likely : ByteArray := method_17_code
abbrev y_La_likely : MethodName := ⟨R_La, "likely", "(LLinkedMarkers;I[J)I"⟩
abbrev b_Mo_init : ByteArray := prog_8_method_1_code
abbrev y_Mo_init : MethodName := ⟨R_Mo, "<init>", "()V"⟩
abbrev b_Mo_thrown : ByteArray := prog_8_method_2_code
abbrev y_Mo_thrown : MethodName := ⟨R_Mo, "thrown", "()I"⟩
abbrev b_Mo_refused : ByteArray := prog_8_method_3_code
abbrev y_Mo_refused : MethodName := ⟨R_Mo, "refused", "(I)Z"⟩
abbrev b_Mo_isAnySeen : ByteArray := prog_8_method_4_code
abbrev y_Mo_isAnySeen : MethodName := ⟨R_Mo, "isAnySeen", "()Z"⟩
abbrev b_Mo_isPerson : ByteArray := prog_8_method_5_code
abbrev y_Mo_isPerson : MethodName := ⟨R_Mo, "isPerson", "(I)Z"⟩
abbrev b_Mo_isMarker : ByteArray := prog_8_method_6_code
abbrev y_Mo_isMarker : MethodName := ⟨R_Mo, "isMarker", "(I)Z"⟩
abbrev b_Mo_forget : ByteArray := prog_8_method_7_code
abbrev y_Mo_forget : MethodName := ⟨R_Mo, "forget", "()V"⟩
abbrev b_Mo_ways : ByteArray := prog_8_method_8_code
abbrev y_Mo_ways : MethodName := ⟨R_Mo, "ways", "()I"⟩
abbrev b_Mo_founder : ByteArray := prog_8_method_9_code
abbrev y_Mo_founder : MethodName := ⟨R_Mo, "founder", "()I"⟩
abbrev b_Mo_child : ByteArray := prog_8_method_10_code
abbrev y_Mo_child : MethodName := ⟨R_Mo, "child", "(II)I"⟩
abbrev b_Mo_marker : ByteArray := prog_8_method_11_code
abbrev y_Mo_marker : MethodName := ⟨R_Mo, "marker", "(III)I"⟩
abbrev b_Mo_isGap : ByteArray := prog_8_method_12_code
abbrev y_Mo_isGap : MethodName := ⟨R_Mo, "isGap", "(I)Z"⟩
abbrev b_Mo_rate : ByteArray := prog_8_method_13_code
abbrev y_Mo_rate : MethodName := ⟨R_Mo, "rate", "(II)I"⟩
abbrev b_Mo_isLetter : ByteArray := prog_8_method_14_code
abbrev y_Mo_isLetter : MethodName := ⟨R_Mo, "isLetter", "(I)Z"⟩
abbrev b_Mo_see : ByteArray := prog_8_method_15_code
abbrev y_Mo_see : MethodName := ⟨R_Mo, "see", "(IIII)V"⟩
abbrev b_Mo_unsee : ByteArray := prog_8_method_16_code
abbrev y_Mo_unsee : MethodName := ⟨R_Mo, "unsee", "(II)Z"⟩
abbrev b_Mo_count : ByteArray := prog_8_method_17_code
abbrev y_Mo_count : MethodName := ⟨R_Mo, "count", "(I)I"⟩
abbrev b_Mo_originOf : ByteArray := prog_8_method_18_code
abbrev y_Mo_originOf : MethodName := ⟨R_Mo, "originOf", "(III)I"⟩
abbrev b_Mo_isWay : ByteArray := prog_8_method_19_code
abbrev y_Mo_isWay : MethodName := ⟨R_Mo, "isWay", "(I)Z"⟩
abbrev b_Mo_origin : ByteArray := prog_8_method_20_code
abbrev y_Mo_origin : MethodName := ⟨R_Mo, "origin", "(III)I"⟩
abbrev b_Mo_isSo : ByteArray := prog_8_method_21_code
abbrev y_Mo_isSo : MethodName := ⟨R_Mo, "isSo", "(II)Z"⟩
abbrev b_Mo_reckonFit : ByteArray := prog_8_method_22_code
abbrev y_Mo_reckonFit : MethodName := ⟨R_Mo, "reckonFit", "(II)I"⟩
abbrev b_Mo_fitOf : ByteArray := prog_8_method_23_code
abbrev y_Mo_fitOf : MethodName := ⟨R_Mo, "fitOf", "(II)I"⟩
abbrev b_Mo_fit : ByteArray := prog_8_method_24_code
abbrev y_Mo_fit : MethodName := ⟨R_Mo, "fit", "(II)I"⟩
abbrev b_Mo_clear : ByteArray := prog_8_method_25_code
abbrev y_Mo_clear : MethodName := ⟨R_Mo, "clear", "([JI)V"⟩
abbrev b_Mo_addTimes : ByteArray := prog_8_method_26_code
abbrev y_Mo_addTimes : MethodName := ⟨R_Mo, "addTimes", "([JI[JIJ)V"⟩
abbrev b_Mo_times : ByteArray := prog_8_method_27_code
abbrev y_Mo_times : MethodName := ⟨R_Mo, "times", "([JIJ)V"⟩
abbrev b_Mo_compare : ByteArray := prog_8_method_28_code
abbrev y_Mo_compare : MethodName := ⟨R_Mo, "compare", "([JI[JI)I"⟩
abbrev b_Mo_isNothing : ByteArray := prog_8_method_29_code
abbrev y_Mo_isNothing : MethodName := ⟨R_Mo, "isNothing", "([J)Z"⟩
abbrev b_Mo_multiply : ByteArray := prog_8_method_30_code
abbrev y_Mo_multiply : MethodName := ⟨R_Mo, "multiply", "([JI[JI)V"⟩
abbrev b_Mo_quotient : ByteArray := prog_8_method_31_code
abbrev y_Mo_quotient : MethodName := ⟨R_Mo, "quotient", "([JJ[J)I"⟩
abbrev b_Mo_bitsOf : ByteArray := prog_8_method_32_code
abbrev y_Mo_bitsOf : MethodName := ⟨R_Mo, "bitsOf", "(I)I"⟩
abbrev b_Mo_reckonChanges : ByteArray := prog_8_method_33_code
abbrev y_Mo_reckonChanges : MethodName := ⟨R_Mo, "reckonChanges", "(I)V"⟩
abbrev b_Mo_reckonBefore : ByteArray := prog_8_method_34_code
abbrev y_Mo_reckonBefore : MethodName := ⟨R_Mo, "reckonBefore", "()V"⟩
abbrev b_Mo_reckonBehind : ByteArray := prog_8_method_35_code
abbrev y_Mo_reckonBehind : MethodName := ⟨R_Mo, "reckonBehind", "()V"⟩
abbrev b_Mo_reckon : ByteArray := prog_8_method_36_code
abbrev y_Mo_reckon : MethodName := ⟨R_Mo, "reckon", "([J)V"⟩
abbrev b_Mo_useRates : ByteArray := prog_8_method_37_code
abbrev y_Mo_useRates : MethodName := ⟨R_Mo, "useRates", "()V"⟩
abbrev b_Mo_joint : ByteArray := prog_8_method_38_code
abbrev y_Mo_joint : MethodName := ⟨R_Mo, "joint", "()I"⟩
abbrev b_Mo_odds : ByteArray := prog_8_method_39_code
abbrev y_Mo_odds : MethodName := ⟨R_Mo, "odds", "(I)I"⟩
abbrev b_Mo_would : ByteArray := prog_8_method_40_code
abbrev y_Mo_would : MethodName := ⟨R_Mo, "would", "(II)I"⟩
abbrev b_Mo_best : ByteArray := prog_8_method_41_code
abbrev y_Mo_best : MethodName := ⟨R_Mo, "best", "(I)I"⟩
abbrev b_Mo_reckonAll : ByteArray := prog_8_method_42_code
abbrev y_Mo_reckonAll : MethodName := ⟨R_Mo, "reckonAll", "()V"⟩
abbrev b_Mo_isSame : ByteArray := prog_8_method_43_code
abbrev y_Mo_isSame : MethodName := ⟨R_Mo, "isSame", "(III)Z"⟩
abbrev b_Mo_chance : ByteArray := prog_8_method_44_code
abbrev y_Mo_chance : MethodName := ⟨R_Mo, "chance", "(IIII)I"⟩
abbrev b_Mo_turned : ByteArray := prog_8_method_45_code
abbrev y_Mo_turned : MethodName := ⟨R_Mo, "turned", "(II)I"⟩
abbrev b_Mo_shared : ByteArray := prog_8_method_46_code
abbrev y_Mo_shared : MethodName := ⟨R_Mo, "shared", "(III)I"⟩
abbrev b_Mo_likely : ByteArray := prog_8_method_47_code
abbrev y_Mo_likely : MethodName := ⟨R_Mo, "likely", "(I)I"⟩
abbrev b_Mo_length : ByteArray := prog_8_method_48_code
abbrev y_Mo_length : MethodName := ⟨R_Mo, "length", "()I"⟩
abbrev b_Mo_charAt : ByteArray := prog_8_method_49_code
abbrev y_Mo_charAt : MethodName := ⟨R_Mo, "charAt", "(I)C"⟩
abbrev mg_CL : List vw_C := [(R_Am, T_Am, 1), (R_Fa, T_Fa, 5), (R_Ma, T_Ma, 6), (R_Fi, T_Fi, 4), (R_Su, T_Su, 8), (R_LM, T_LM, 6), (R_Mo, T_Mo, 26)]
end
section
/-! My own rows over the kit: numbers are naturals (nI, lN), arrays hold naturals, one list of words for all methods. -/
/-- the words that stay when tables warm, and those of nest mates -/
def mg_T : List Cond := lw_tbl.filter goodWord
def mg_nw : Cond → Bool
  | .fieldLinkNest .. => true
  | .methodLinkNest .. => true
  | _ => false
def mg_NW : List Cond := lw_tbl.filter mg_nw
theorem mg_in {w : Cond} (i : Nat) (h : lw_tbl[i]? = some w) (hg : goodWord w = true) : w ∈ mg_T := List.mem_filter.mpr ⟨List.mem_of_getElem? h, hg⟩
theorem mg_inN {w : Cond} (i : Nat) (h : lw_tbl[i]? = some w) (hg : mg_nw w = true) : w ∈ mg_NW := List.mem_filter.mpr ⟨List.mem_of_getElem? h, hg⟩
def mg_ws (y : MethodName) (cc : ByteArray) (nL : Nat) (ret : Option FieldType) : List Cond := Cond.code y cc nL ret :: mg_T
theorem mg_good {y0 y : MethodName} {c0 cc : ByteArray} {n0 nL : Nat} {r0 ret : Option FieldType} (h : Cond.code y cc nL ret ∈ mg_T) : GoodIn (mg_ws y0 c0 n0 r0) (mg_ws y cc nL ret) := by
  intro w hw
  have hw2 : w ∈ mg_T := by
    rcases List.mem_cons.mp hw with e | e
    · rw [e]; exact h
    · exact e
  exact ⟨List.mem_cons_of_mem _ hw2, good_of_word (List.mem_filter.mp hw2).2⟩
/-- arrays of naturals -/
def mg_I (d : Nat → Nat) : Nat → Int32 := fun i => nI (d i)
def mg_L (d : Nat → Nat) : Nat → Int64 := fun i => lN (d i)
theorem mg_I_up (d : Nat → Nat) (k x : Nat) : upd (mg_I d) k (nI x) = mg_I (va_up d k x) := by
  funext j
  by_cases h : j = k
  · subst h; rw [pk_us]; show _ = nI _; rw [va_up_self]
  · rw [pk_un h]; show nI _ = nI _; rw [va_up_ne d x h]
theorem mg_L_up (d : Nat → Nat) (k x : Nat) : vp_updL (mg_L d) k (lN x) = mg_L (va_up d k x) := by
  funext j
  by_cases h : j = k
  · subst h; rw [pk_uLs]; show _ = lN _; rw [va_up_self]
  · rw [pk_uLn h]; show lN _ = lN _; rw [va_up_ne d x h]
/-- the array classes: int, long, char, boolean -/
def mg_TY (K : Nat → ClassId) : List (ClassId × FieldType) := [(K 0, .int), (K 1, .long), (K 2, .char), (K 3, .boolean)]
abbrev mg_ai (K : Nat → ClassId) (a n : Nat) (d : Nat → Nat) : Nat × va_E := (a, .inl (K 0, n, .inl (mg_I d)))
abbrev mg_al (K : Nat → ClassId) (a n : Nat) (d : Nat → Nat) : Nat × va_E := (a, .inl (K 1, n, .inr (.inl (mg_L d))))
abbrev mg_ac (K : Nat → ClassId) (a n : Nat) (d : Nat → Nat) : Nat × va_E := (a, .inl (K 2, n, .inl (mg_I d)))
abbrev mg_az (K : Nat → ClassId) (a n : Nat) (d : Nat → Nat) : Nat × va_E := (a, .inl (K 3, n, .inl (mg_I d)))
abbrev mg_ob (a ci : Nat) (fs : List Value) : Nat × va_E := (a, .inr (ci, fs))
/-- what the tables say, all through a method -/
def mg_K (D : va_G) (K : Nat → ClassId) (U : State) : Prop := va_K D mg_CL (mg_TY K) U ∧ ∀ w ∈ mg_NW, va_Nw w U
/-- the world: the cells, apart, and what has not been touched -/
def mg_H (D : va_G) (A : Nat → Prop) (H0 H : Heap) (locs : List Loc) (ws : va_W) : Prop := va_P D mg_CL ws H ∧ va_D A ws ∧ va_S A H0 H locs
theorem mg_nw_warm {w : Cond} (hw : mg_nw w = true) {s U : State} (hW : s.WarmedH U.vm) (h : va_Nw w s) : va_Nw w U := by
  cases w <;> first | exact va_Nw.warmF hW h | exact va_Nw.warmM hW h | (simp [mg_nw] at hw; done)
theorem mg_nw_on {w : Cond} (hw : mg_nw w = true) : w.onTables = true := by
  cases w <;> first | rfl | (simp [mg_nw] at hw; done)
theorem mg_K.warm {D : va_G} {K : Nat → ClassId} {s U : State} (hW : s.WarmedH U.vm) (h : mg_K D K s) : mg_K D K U :=
  ⟨va_K.moved hW.alike h.1, fun w hw => mg_nw_warm (List.mem_filter.mp hw).2 hW (h.2 w hw)⟩
theorem mg_K.calling {D : va_G} {K : Nat → ClassId} {U : State} {g : JFrame} {mk : MethodId} {a : Array Value} (h : mg_K D K U) : mg_K D K (U.calling g mk a) :=
  ⟨va_K.moved (u := U) (U := U.calling g mk a) (Vm.Alike.refl U.vm) h.1, fun w hw => va_Nw.same (mg_nw_on (List.mem_filter.mp hw).2) (rfl : U.vm = (U.calling g mk a).vm) (h.2 w hw)⟩
/-- a method's start -/
def mg_Pre (D : va_G) (K : Nat → ClassId) (av : List Value) (ws : va_W) (sz : Nat) : Array Value → State → Prop :=
  va_Pc av (fun U => U.heap.size = sz ∧ va_P D mg_CL ws U.heap ∧ mg_K D K U ∧ va_D (fun _ => True) ws)
theorem mg_Pre.blind (D : va_G) (K : Nat → ClassId) (av : List Value) (ws : va_W) (sz : Nat) : FrameBlind (mg_Pre D K av ws sz) := fun a U g mk q => by
  obtain ⟨q0, q1, qP, qK, qD⟩ := q
  exact ⟨q0, q1, qP, qK.calling, qD⟩
abbrev mg_B (D : va_G) (A : Nat → Prop) {S : Type} (ws' : S → va_W) : S → State → Prop := fun u t => va_P D mg_CL (ws' u) t.heap ∧ va_D A (ws' u)
/-- contracts of methods that make nothing: void, int -/
def mg_Mv (l : Launch) (D : va_G) (K : Nat → ClassId) (y : MethodName) (cc : ByteArray) (nL : Nat) (rm : Room) (av : List Value) (ws : va_W) {S : Type} (post : S → Prop) (ws' : S → va_W) : Prop :=
  ∀ sz, Met l y (mg_ws y cc nL none) rm (mg_Pre D K av ws sz) (va_Qv post (mg_B D (va_A ws sz) ws') (va_A ws sz)) 0 0 (va_A ws sz)
def mg_Mi (l : Launch) (D : va_G) (K : Nat → ClassId) (y : MethodName) (cc : ByteArray) (nL : Nat) (ret : FieldType) (rm : Room) (av : List Value) (ws : va_W) {S : Type} (post : Int32 → S → Prop) (ws' : S → va_W) : Prop :=
  ∀ sz, Met l y (mg_ws y cc nL (some ret)) rm (mg_Pre D K av ws sz) (va_Qi post (mg_B D (va_A ws sz) ws') (va_A ws sz)) 0 0 (va_A ws sz)
/-- a method's entry -/
theorem mg_entry {l : Launch} {D : va_G} {K : Nat → ClassId} {y : MethodName} {cc : ByteArray} {nL mc ms : Nat} {ret : Option FieldType} {rm : Room} {av : List Value} {ws : va_W} {sz : Nat} {Qc : (Nat → Prop) → Array Value → State → Outcome → State → Prop}
    (hy : plainName y.cls = true) (hn : (lg_sl av).length ≤ nL)
    (h : ∀ (p : Program) (e : Env) (s : State) (m : MethodId) (args : Array Value) (below : List Frame) (meth : Method) (c : Code) (A : Nat → Prop) (ls : Array Slot), CallFix p m c cc nL s args mg_T y.cls → meth.sig.returnType = ret → meth.locks = false → meth.name = y.name →
      (∀ q, s.heap.size ≤ q → A q) → mg_K D K s → mg_H D A s.heap s.heap [] ws → lv_has ls nL (lv_args 0 av) → W p l e rm s m args below meth c s.heap [] 0 0 (MQ below (Qc A) args s mc ms A) (F0 m 0 ls [])) :
    Met l y (mg_ws y cc nL ret) rm (mg_Pre D K av ws sz) (Qc (va_A ws sz)) mc ms (va_A ws sz) := by
  refine Met.ofW (cc := cc) (maxL := nL) (ret := ret) hy rfl ?_
  intro p e s m args below meth c s₁ B hml hv
  obtain ⟨rfl, hsz, hP, hK, hD0⟩ := hv
  have hts := atoms_spec (ws := mg_ws y cc nL ret) B.pre
  subst hsz
  have hl := lv_entry av (n := nL) hn
  rw [lg_entry_eq]
  generalize (lg_sl av ++ List.replicate (nL - (lg_sl av).length) Slot.unset).toArray = ls at hl ⊢
  exact h p e s m _ below meth c (va_A ws s.heap.size) ls ⟨B.exec, B.bytes, hml, findClass_of_methodNamed B.named, fun w hw => hts w (List.mem_cons_of_mem _ hw)⟩ B.returns B.notSynchronized (name_of_methodNamed B.named B.method).1
    (fun q h => Or.inr h) hK ⟨hP, hD0.self, va_S.rf⟩ hl
section MG
variable {p : Program} {l : Launch} {e : Env} {R : Room} {s : State} {m : MethodId} {args : Array Value} {below : List Frame} {meth : Method} {c : Code} {H : Heap} {locs : List Loc} {cells slots : Nat} {Q : State → Prop}
variable {cc : ByteArray} {nL pc : Nat} {own : String} {ls : Array Slot} {rest : List Value}
theorem mg_iconst (X : CallFix p m c cc nL s args mg_T own) (pc' : Nat) (k : Nat) {n : Int} (hdg : decode cc pc = .ok (.iconst n, 1)) (hv : Int32.ofInt n = nI k) (hq : pc + 1 = pc') (kk : W p l e R s m args below meth c H locs cells slots Q (F0 m pc' ls (.int (nI k) :: rest))) : W p l e R s m args below meth c H locs cells slots Q (F0 m pc ls (rest)) := by
  subst hq
  exact lv_iconst X.1 X.2.1 hdg hv kk
theorem mg_bipush (X : CallFix p m c cc nL s args mg_T own) (pc' : Nat) (k : Nat) {n : Int} (hdg : decode cc pc = .ok (.bipush n, 2)) (hv : (Int8.ofInt n).toInt32 = nI k) (hq : pc + 2 = pc') (kk : W p l e R s m args below meth c H locs cells slots Q (F0 m pc' ls (.int (nI k) :: rest))) : W p l e R s m args below meth c H locs cells slots Q (F0 m pc ls (rest)) := by
  subst hq
  exact lv_bipush X.1 X.2.1 hdg hv kk
theorem mg_sipush (X : CallFix p m c cc nL s args mg_T own) (pc' : Nat) (k : Nat) {n : Int} (hdg : decode cc pc = .ok (.sipush n, 3)) (hv : (Int16.ofInt n).toInt32 = nI k) (hq : pc + 3 = pc') (kk : W p l e R s m args below meth c H locs cells slots Q (F0 m pc' ls (.int (nI k) :: rest))) : W p l e R s m args below meth c H locs cells slots Q (F0 m pc ls (rest)) := by
  subst hq
  exact lv_sipush X.1 X.2.1 hdg hv kk
theorem mg_lconst (X : CallFix p m c cc nL s args mg_T own) (pc' : Nat) (k : Nat) {n : Fin 2} (hdg : decode cc pc = .ok (.lconst n, 1)) (hv : Int64.ofNat (n : Nat) = lN k) (hq : pc + 1 = pc') (kk : W p l e R s m args below meth c H locs cells slots Q (F0 m pc' ls (.long (lN k) :: rest))) : W p l e R s m args below meth c H locs cells slots Q (F0 m pc ls (rest)) := by
  subst hq
  exact lv_lconst X.1 X.2.1 hdg hv kk
theorem mg_ldc2 (X : CallFix p m c cc nL s args mg_T own) (pc' : Nat) (k : Nat) {v : Int64} {index : Nat} (hdg : decode cc pc = .ok (.ldc2_w index, 3)) (hc : Cond.constantLong own index v ∈ mg_T) (hv : v = lN k) (hq : pc + 3 = pc') (kk : W p l e R s m args below meth c H locs cells slots Q (F0 m pc' ls (.long (lN k) :: rest))) : W p l e R s m args below meth c H locs cells slots Q (F0 m pc ls (rest)) := by
  subst hq
  exact lv_ldc2 X.1 X.2.1 X.2.2.2.1 (X.2.2.2.2 _ hc) hdg (hv ▸ kk)
theorem mg_ldc (X : CallFix p m c cc nL s args mg_T own) (pc' : Nat) (k : Nat) {v : Int32} {index : Nat} (hdg : decode cc pc = .ok (.ldc index, 2)) (hc : Cond.constant own index v ∈ mg_T) (hv : v = nI k) (hq : pc + 2 = pc') (kk : W p l e R s m args below meth c H locs cells slots Q (F0 m pc' ls (.int (nI k) :: rest))) : W p l e R s m args below meth c H locs cells slots Q (F0 m pc ls (rest)) := by
  subst hq
  exact lv_ldc X.1 X.2.1 X.2.2.2.1 (X.2.2.2.2 _ hc) hdg (hv ▸ kk)
theorem mg_iload_n (X : CallFix p m c cc nL s args mg_T own) (pc' : Nat) {k : Fin 4} {x : Int32} (hdg : decode cc pc = .ok (.iload_n k, 1)) (hl : ls[(k : Nat)]? = some (.val (.int x))) (hq : pc + 1 = pc') (kk : W p l e R s m args below meth c H locs cells slots Q (F0 m pc' ls (.int x :: rest))) : W p l e R s m args below meth c H locs cells slots Q (F0 m pc ls (rest)) := by
  subst hq
  exact lv_iload_n X.1 X.2.1 hdg rfl hl kk
theorem mg_iload (X : CallFix p m c cc nL s args mg_T own) (pc' : Nat) {k : Nat} {x : Int32} (hdg : decode cc pc = .ok (.iload k, 2)) (hl : ls[k]? = some (.val (.int x))) (hq : pc + 2 = pc') (kk : W p l e R s m args below meth c H locs cells slots Q (F0 m pc' ls (.int x :: rest))) : W p l e R s m args below meth c H locs cells slots Q (F0 m pc ls (rest)) := by
  subst hq
  exact lv_iload X.1 X.2.1 hdg hl kk
theorem mg_istore_n (X : CallFix p m c cc nL s args mg_T own) (pc' : Nat) (lv' : List (Nat × Value)) {k : Fin 4} {x : Int32} {lv : List (Nat × Value)} (hdg : decode cc pc = .ok (.istore_n k, 1)) (h : lv_has ls nL lv) (hn : (k : Nat) < nL) (hl : ((k : Nat), Value.int x) :: lv.filter (fun q => !(q.1 == (k : Nat)) && !(q.1 + 1 == (k : Nat) && q.2.category == 2)) = lv') (hq : pc + 1 = pc') (kk : ∀ ls' : Array Slot, lv_has ls' nL lv' → W p l e R s m args below meth c H locs cells slots Q (F0 m pc' ls' rest)) : W p l e R s m args below meth c H locs cells slots Q (F0 m pc ls (.int x :: rest)) := by
  subst hq
  exact lv_istore_n X.1 X.2.1 hdg rfl h hn hl kk
theorem mg_istore (X : CallFix p m c cc nL s args mg_T own) (pc' : Nat) (lv' : List (Nat × Value)) {k : Nat} {x : Int32} {lv : List (Nat × Value)} (hdg : decode cc pc = .ok (.istore k, 2)) (h : lv_has ls nL lv) (hn : k < nL) (hl : (k, Value.int x) :: lv.filter (fun q => !(q.1 == k) && !(q.1 + 1 == k && q.2.category == 2)) = lv') (hq : pc + 2 = pc') (kk : ∀ ls' : Array Slot, lv_has ls' nL lv' → W p l e R s m args below meth c H locs cells slots Q (F0 m pc' ls' rest)) : W p l e R s m args below meth c H locs cells slots Q (F0 m pc ls (.int x :: rest)) := by
  subst hq
  exact lv_istore X.1 X.2.1 hdg h hn hl kk
theorem mg_lload_n (X : CallFix p m c cc nL s args mg_T own) (pc' : Nat) {k : Fin 4} {x : Int64} (hdg : decode cc pc = .ok (.lload_n k, 1)) (hl : ls[(k : Nat)]? = some (.val (.long x))) (hq : pc + 1 = pc') (kk : W p l e R s m args below meth c H locs cells slots Q (F0 m pc' ls (.long x :: rest))) : W p l e R s m args below meth c H locs cells slots Q (F0 m pc ls (rest)) := by
  subst hq
  exact lv_lload_n X.1 X.2.1 hdg rfl hl kk
theorem mg_lload (X : CallFix p m c cc nL s args mg_T own) (pc' : Nat) {k : Nat} {x : Int64} (hdg : decode cc pc = .ok (.lload k, 2)) (hl : ls[k]? = some (.val (.long x))) (hq : pc + 2 = pc') (kk : W p l e R s m args below meth c H locs cells slots Q (F0 m pc' ls (.long x :: rest))) : W p l e R s m args below meth c H locs cells slots Q (F0 m pc ls (rest)) := by
  subst hq
  exact lv_lload X.1 X.2.1 hdg hl kk
theorem mg_lstore_n (X : CallFix p m c cc nL s args mg_T own) (pc' : Nat) (lv' : List (Nat × Value)) {k : Fin 4} {x : Int64} {lv : List (Nat × Value)} (hdg : decode cc pc = .ok (.lstore_n k, 1)) (h : lv_has ls nL lv) (hn : (k : Nat) + 1 < nL) (hl : ((k : Nat), Value.long x) :: lv.filter (fun q => !(q.1 == (k : Nat)) && (!(q.1 == (k : Nat) + 1) && !(q.1 + 1 == (k : Nat) && q.2.category == 2))) = lv') (hq : pc + 1 = pc') (kk : ∀ ls' : Array Slot, lv_has ls' nL lv' → W p l e R s m args below meth c H locs cells slots Q (F0 m pc' ls' rest)) : W p l e R s m args below meth c H locs cells slots Q (F0 m pc ls (.long x :: rest)) := by
  subst hq
  exact lv_lstore_n X.1 X.2.1 hdg rfl h hn hl kk
theorem mg_lstore (X : CallFix p m c cc nL s args mg_T own) (pc' : Nat) (lv' : List (Nat × Value)) {k : Nat} {x : Int64} {lv : List (Nat × Value)} (hdg : decode cc pc = .ok (.lstore k, 2)) (h : lv_has ls nL lv) (hn : k + 1 < nL) (hl : (k, Value.long x) :: lv.filter (fun q => !(q.1 == k) && (!(q.1 == k + 1) && !(q.1 + 1 == k && q.2.category == 2))) = lv') (hq : pc + 2 = pc') (kk : ∀ ls' : Array Slot, lv_has ls' nL lv' → W p l e R s m args below meth c H locs cells slots Q (F0 m pc' ls' rest)) : W p l e R s m args below meth c H locs cells slots Q (F0 m pc ls (.long x :: rest)) := by
  subst hq
  exact lv_lstore X.1 X.2.1 hdg h hn hl kk
theorem mg_aload_n (X : CallFix p m c cc nL s args mg_T own) (pc' : Nat) {k : Fin 4} {x : Nat} (hdg : decode cc pc = .ok (.aload_n k, 1)) (hl : ls[(k : Nat)]? = some (.val (.ref x))) (hq : pc + 1 = pc') (kk : W p l e R s m args below meth c H locs cells slots Q (F0 m pc' ls (.ref x :: rest))) : W p l e R s m args below meth c H locs cells slots Q (F0 m pc ls (rest)) := by
  subst hq
  exact lv_aload_n X.1 X.2.1 hdg rfl hl kk
theorem mg_aload (X : CallFix p m c cc nL s args mg_T own) (pc' : Nat) {k : Nat} {x : Nat} (hdg : decode cc pc = .ok (.aload k, 2)) (hl : ls[k]? = some (.val (.ref x))) (hq : pc + 2 = pc') (kk : W p l e R s m args below meth c H locs cells slots Q (F0 m pc' ls (.ref x :: rest))) : W p l e R s m args below meth c H locs cells slots Q (F0 m pc ls (rest)) := by
  subst hq
  exact lv_aload X.1 X.2.1 hdg hl kk
theorem mg_astore_n (X : CallFix p m c cc nL s args mg_T own) (pc' : Nat) (lv' : List (Nat × Value)) {k : Fin 4} {x : Nat} {lv : List (Nat × Value)} (hdg : decode cc pc = .ok (.astore_n k, 1)) (h : lv_has ls nL lv) (hn : (k : Nat) < nL) (hl : ((k : Nat), Value.ref x) :: lv.filter (fun q => !(q.1 == (k : Nat)) && !(q.1 + 1 == (k : Nat) && q.2.category == 2)) = lv') (hq : pc + 1 = pc') (kk : ∀ ls' : Array Slot, lv_has ls' nL lv' → W p l e R s m args below meth c H locs cells slots Q (F0 m pc' ls' rest)) : W p l e R s m args below meth c H locs cells slots Q (F0 m pc ls (.ref x :: rest)) := by
  subst hq
  exact lv_astore_n X.1 X.2.1 hdg rfl h hn hl kk
theorem mg_astore (X : CallFix p m c cc nL s args mg_T own) (pc' : Nat) (lv' : List (Nat × Value)) {k : Nat} {x : Nat} {lv : List (Nat × Value)} (hdg : decode cc pc = .ok (.astore k, 2)) (h : lv_has ls nL lv) (hn : k < nL) (hl : (k, Value.ref x) :: lv.filter (fun q => !(q.1 == k) && !(q.1 + 1 == k && q.2.category == 2)) = lv') (hq : pc + 2 = pc') (kk : ∀ ls' : Array Slot, lv_has ls' nL lv' → W p l e R s m args below meth c H locs cells slots Q (F0 m pc' ls' rest)) : W p l e R s m args below meth c H locs cells slots Q (F0 m pc ls (.ref x :: rest)) := by
  subst hq
  exact lv_astore X.1 X.2.1 hdg h hn hl kk
theorem mg_iinc (X : CallFix p m c cc nL s args mg_T own) (pc' : Nat) (lv' : List (Nat × Value)) (v : Nat) {i k : Nat} {n : Int} {x : Int32} {lv : List (Nat × Value)} (hdg : decode cc pc = .ok (.iinc i n, 3)) (h : lv_has ls nL lv) (hk : lv[k]? = some (i, .int x)) (hv : x + Int32.ofInt n = nI v) (hn : i < nL) (hl : (i, Value.int (nI v)) :: lv.filter (fun q => !(q.1 == i) && !(q.1 + 1 == i && q.2.category == 2)) = lv') (hq : pc + 3 = pc') (kk : ∀ ls' : Array Slot, lv_has ls' nL lv' → W p l e R s m args below meth c H locs cells slots Q (F0 m pc' ls' rest)) : W p l e R s m args below meth c H locs cells slots Q (F0 m pc ls rest) := by
  subst hq
  exact lv_iinc X.1 X.2.1 hdg h hk hv hn hl kk
theorem mg_iadd (X : CallFix p m c cc nL s args mg_T own) (pc' : Nat) (v : Int32) {x y : Int32} (hdg : decode cc pc = .ok (.iadd, 1)) (hv : x + y = v) (hq : pc + 1 = pc') (kk : W p l e R s m args below meth c H locs cells slots Q (F0 m pc' ls (.int v :: rest))) : W p l e R s m args below meth c H locs cells slots Q (F0 m pc ls (.int y :: .int x :: rest)) := by
  subst hq
  exact lv_iadd X.1 X.2.1 hdg (hv ▸ kk)
theorem mg_isub (X : CallFix p m c cc nL s args mg_T own) (pc' : Nat) (v : Int32) {x y : Int32} (hdg : decode cc pc = .ok (.isub, 1)) (hv : x - y = v) (hq : pc + 1 = pc') (kk : W p l e R s m args below meth c H locs cells slots Q (F0 m pc' ls (.int v :: rest))) : W p l e R s m args below meth c H locs cells slots Q (F0 m pc ls (.int y :: .int x :: rest)) := by
  subst hq
  exact lv_isub X.1 X.2.1 hdg (hv ▸ kk)
theorem mg_imul (X : CallFix p m c cc nL s args mg_T own) (pc' : Nat) (v : Int32) {x y : Int32} (hdg : decode cc pc = .ok (.imul, 1)) (hv : x * y = v) (hq : pc + 1 = pc') (kk : W p l e R s m args below meth c H locs cells slots Q (F0 m pc' ls (.int v :: rest))) : W p l e R s m args below meth c H locs cells slots Q (F0 m pc ls (.int y :: .int x :: rest)) := by
  subst hq
  exact lv_imul X.1 X.2.1 hdg (hv ▸ kk)
theorem mg_iand (X : CallFix p m c cc nL s args mg_T own) (pc' : Nat) (v : Int32) {x y : Int32} (hdg : decode cc pc = .ok (.iand, 1)) (hv : x &&& y = v) (hq : pc + 1 = pc') (kk : W p l e R s m args below meth c H locs cells slots Q (F0 m pc' ls (.int v :: rest))) : W p l e R s m args below meth c H locs cells slots Q (F0 m pc ls (.int y :: .int x :: rest)) := by
  subst hq
  exact lv_iand X.1 X.2.1 hdg (hv ▸ kk)
theorem mg_ior (X : CallFix p m c cc nL s args mg_T own) (pc' : Nat) (v : Int32) {x y : Int32} (hdg : decode cc pc = .ok (.ior, 1)) (hv : x ||| y = v) (hq : pc + 1 = pc') (kk : W p l e R s m args below meth c H locs cells slots Q (F0 m pc' ls (.int v :: rest))) : W p l e R s m args below meth c H locs cells slots Q (F0 m pc ls (.int y :: .int x :: rest)) := by
  subst hq
  exact lv_ior X.1 X.2.1 hdg (hv ▸ kk)
theorem mg_ixor (X : CallFix p m c cc nL s args mg_T own) (pc' : Nat) (v : Int32) {x y : Int32} (hdg : decode cc pc = .ok (.ixor, 1)) (hv : x ^^^ y = v) (hq : pc + 1 = pc') (kk : W p l e R s m args below meth c H locs cells slots Q (F0 m pc' ls (.int v :: rest))) : W p l e R s m args below meth c H locs cells slots Q (F0 m pc ls (.int y :: .int x :: rest)) := by
  subst hq
  exact lv_ixor X.1 X.2.1 hdg (hv ▸ kk)
theorem mg_ishl (X : CallFix p m c cc nL s args mg_T own) (pc' : Nat) (v : Int32) {x y : Int32} (hdg : decode cc pc = .ok (.ishl, 1)) (hv : x <<< (y &&& 31) = v) (hq : pc + 1 = pc') (kk : W p l e R s m args below meth c H locs cells slots Q (F0 m pc' ls (.int v :: rest))) : W p l e R s m args below meth c H locs cells slots Q (F0 m pc ls (.int y :: .int x :: rest)) := by
  subst hq
  exact lv_ishl X.1 X.2.1 hdg (hv ▸ kk)
theorem mg_ishr (X : CallFix p m c cc nL s args mg_T own) (pc' : Nat) (v : Int32) {x y : Int32} (hdg : decode cc pc = .ok (.ishr, 1)) (hv : x >>> (y &&& 31) = v) (hq : pc + 1 = pc') (kk : W p l e R s m args below meth c H locs cells slots Q (F0 m pc' ls (.int v :: rest))) : W p l e R s m args below meth c H locs cells slots Q (F0 m pc ls (.int y :: .int x :: rest)) := by
  subst hq
  exact lv_ishr X.1 X.2.1 hdg (hv ▸ kk)
theorem mg_ladd (X : CallFix p m c cc nL s args mg_T own) (pc' : Nat) (v : Int64) {x y : Int64} (hdg : decode cc pc = .ok (.ladd, 1)) (hv : x + y = v) (hq : pc + 1 = pc') (kk : W p l e R s m args below meth c H locs cells slots Q (F0 m pc' ls (.long v :: rest))) : W p l e R s m args below meth c H locs cells slots Q (F0 m pc ls (.long y :: .long x :: rest)) := by
  subst hq
  exact lv_ladd X.1 X.2.1 hdg (hv ▸ kk)
theorem mg_lsub (X : CallFix p m c cc nL s args mg_T own) (pc' : Nat) (v : Int64) {x y : Int64} (hdg : decode cc pc = .ok (.lsub, 1)) (hv : x - y = v) (hq : pc + 1 = pc') (kk : W p l e R s m args below meth c H locs cells slots Q (F0 m pc' ls (.long v :: rest))) : W p l e R s m args below meth c H locs cells slots Q (F0 m pc ls (.long y :: .long x :: rest)) := by
  subst hq
  exact lv_lsub X.1 X.2.1 hdg (hv ▸ kk)
theorem mg_lmul (X : CallFix p m c cc nL s args mg_T own) (pc' : Nat) (v : Int64) {x y : Int64} (hdg : decode cc pc = .ok (.lmul, 1)) (hv : x * y = v) (hq : pc + 1 = pc') (kk : W p l e R s m args below meth c H locs cells slots Q (F0 m pc' ls (.long v :: rest))) : W p l e R s m args below meth c H locs cells slots Q (F0 m pc ls (.long y :: .long x :: rest)) := by
  subst hq
  exact lv_lmul X.1 X.2.1 hdg (hv ▸ kk)
theorem mg_ne0 {b : Nat} (h : 0 < b) (hb : b < 2 ^ 31) : ¬ nI b = 0 := nI_ne0 h hb
theorem mg_lne0 {b : Nat} (h : 0 < b) (hb : b < 2 ^ 63) : ¬ lN b = 0 := fun q => by
  have h2 := (pk_lEQ hb (show 0 < 2 ^ 63 by decide)).mp q
  omega
theorem mg_idiv (X : CallFix p m c cc nL s args mg_T own) (pc' : Nat) {a b : Nat} (hdg : decode cc pc = .ok (.idiv, 1)) (ha : a < 2 ^ 31) (h0 : 0 < b) (hb : b < 2 ^ 31) (hq : pc + 1 = pc') (kk : W p l e R s m args below meth c H locs cells slots Q (F0 m pc' ls (.int (nI (a / b)) :: rest))) : W p l e R s m args below meth c H locs cells slots Q (F0 m pc ls (.int (nI b) :: .int (nI a) :: rest)) := by
  subst hq
  exact lv_idiv X.1 X.2.1 hdg (mg_ne0 h0 hb) (by rw [pk_div ha h0 hb]; exact kk)
theorem mg_irem (X : CallFix p m c cc nL s args mg_T own) (pc' : Nat) {a b : Nat} (hdg : decode cc pc = .ok (.irem, 1)) (ha : a < 2 ^ 31) (h0 : 0 < b) (hb : b < 2 ^ 31) (hq : pc + 1 = pc') (kk : W p l e R s m args below meth c H locs cells slots Q (F0 m pc' ls (.int (nI (a % b)) :: rest))) : W p l e R s m args below meth c H locs cells slots Q (F0 m pc ls (.int (nI b) :: .int (nI a) :: rest)) := by
  subst hq
  exact lv_irem X.1 X.2.1 hdg (mg_ne0 h0 hb) (by rw [pk_rem ha h0 hb]; exact kk)
theorem mg_ldiv (X : CallFix p m c cc nL s args mg_T own) (pc' : Nat) {a b : Nat} (hdg : decode cc pc = .ok (.ldiv, 1)) (ha : a < 2 ^ 63) (h0 : 0 < b) (hb : b < 2 ^ 63) (hq : pc + 1 = pc') (kk : W p l e R s m args below meth c H locs cells slots Q (F0 m pc' ls (.long (lN (a / b)) :: rest))) : W p l e R s m args below meth c H locs cells slots Q (F0 m pc ls (.long (lN b) :: .long (lN a) :: rest)) := by
  subst hq
  exact lv_ldiv X.1 X.2.1 hdg (mg_lne0 h0 hb) (by rw [pk_lDiv ha h0 hb]; exact kk)
theorem mg_lrem (X : CallFix p m c cc nL s args mg_T own) (pc' : Nat) {a b : Nat} (hdg : decode cc pc = .ok (.lrem, 1)) (ha : a < 2 ^ 63) (h0 : 0 < b) (hb : b < 2 ^ 63) (hq : pc + 1 = pc') (kk : W p l e R s m args below meth c H locs cells slots Q (F0 m pc' ls (.long (lN (a % b)) :: rest))) : W p l e R s m args below meth c H locs cells slots Q (F0 m pc ls (.long (lN b) :: .long (lN a) :: rest)) := by
  subst hq
  exact lv_lrem X.1 X.2.1 hdg (mg_lne0 h0 hb) (by rw [pk_lRem ha h0 hb]; exact kk)
theorem mg_i2l (X : CallFix p m c cc nL s args mg_T own) (pc' : Nat) {a : Nat} (hdg : decode cc pc = .ok (.i2l, 1)) (ha : a < 2 ^ 31) (hq : pc + 1 = pc') (kk : W p l e R s m args below meth c H locs cells slots Q (F0 m pc' ls (.long (lN a) :: rest))) : W p l e R s m args below meth c H locs cells slots Q (F0 m pc ls (.int (nI a) :: rest)) := by
  subst hq
  exact lv_i2l X.1 X.2.1 hdg (nI_l ha) kk
theorem mg_l2i (X : CallFix p m c cc nL s args mg_T own) (pc' : Nat) {a : Nat} (hdg : decode cc pc = .ok (.l2i, 1)) (hq : pc + 1 = pc') (kk : W p l e R s m args below meth c H locs cells slots Q (F0 m pc' ls (.int (nI a) :: rest))) : W p l e R s m args below meth c H locs cells slots Q (F0 m pc ls (.long (lN a) :: rest)) := by
  subst hq
  exact lv_l2i X.1 X.2.1 hdg (lN_i a) kk
theorem mg_dup (X : CallFix p m c cc nL s args mg_T own) (pc' : Nat) {v : Value} (hdg : decode cc pc = .ok (.dup, 1)) (hc : v.category = 1) (hq : pc + 1 = pc') (kk : W p l e R s m args below meth c H locs cells slots Q (F0 m pc' ls (v :: v :: rest))) : W p l e R s m args below meth c H locs cells slots Q (F0 m pc ls (v :: rest)) := by
  subst hq
  exact lv_dup X.1 X.2.1 hdg hc kk
theorem mg_pop (X : CallFix p m c cc nL s args mg_T own) (pc' : Nat) {v : Value} (hdg : decode cc pc = .ok (.pop, 1)) (hc : v.category = 1) (hq : pc + 1 = pc') (kk : W p l e R s m args below meth c H locs cells slots Q (F0 m pc' ls (rest))) : W p l e R s m args below meth c H locs cells slots Q (F0 m pc ls (v :: rest)) := by
  subst hq
  exact lv_pop X.1 X.2.1 hdg hc kk
theorem mg_goto (X : CallFix p m c cc nL s args mg_T own) (tgt : Nat) {off : Int} (hdg : decode cc pc = .ok (.goto off, 3)) (ht : (pc : Int) + off = (tgt : Int)) (kk : W p l e R s m args below meth c H locs cells slots Q (F0 m tgt ls rest)) : W p l e R s m args below meth c H locs cells slots Q (F0 m pc ls rest) := lv_goto X.1 X.2.1 hdg ht kk
theorem mg_icmp_ge (X : CallFix p m c cc nL s args mg_T own) (tgt pc' : Nat) {a b : Nat} (ha : a < 2 ^ 31) (hb : b < 2 ^ 31) {off : Int} (hdg : decode cc pc = .ok (.if_icmp .ge off, 3)) (ht : (pc : Int) + off = (tgt : Int)) (hq : pc + 3 = pc') (kt : b ≤ a → W p l e R s m args below meth c H locs cells slots Q (F0 m tgt ls rest)) (kf : a < b → W p l e R s m args below meth c H locs cells slots Q (F0 m pc' ls rest)) : W p l e R s m args below meth c H locs cells slots Q (F0 m pc ls (.int (nI b) :: .int (nI a) :: rest)) := by
  subst hq
  exact lv_icmp_ge X.1 X.2.1 hdg ht (fun h => kt ((nI_leI hb ha).mp h)) (fun h => kf (Nat.not_le.mp (fun q => h ((nI_leI hb ha).mpr q))))
theorem mg_icmp_lt (X : CallFix p m c cc nL s args mg_T own) (tgt pc' : Nat) {a b : Nat} (ha : a < 2 ^ 31) (hb : b < 2 ^ 31) {off : Int} (hdg : decode cc pc = .ok (.if_icmp .lt off, 3)) (ht : (pc : Int) + off = (tgt : Int)) (hq : pc + 3 = pc') (kt : a < b → W p l e R s m args below meth c H locs cells slots Q (F0 m tgt ls rest)) (kf : b ≤ a → W p l e R s m args below meth c H locs cells slots Q (F0 m pc' ls rest)) : W p l e R s m args below meth c H locs cells slots Q (F0 m pc ls (.int (nI b) :: .int (nI a) :: rest)) := by
  subst hq
  exact lv_icmp_lt X.1 X.2.1 hdg ht (fun h => kt ((nI_ltI ha hb).mp h)) (fun h => kf (Nat.not_lt.mp (fun q => h ((nI_ltI ha hb).mpr q))))
theorem mg_icmp_gt (X : CallFix p m c cc nL s args mg_T own) (tgt pc' : Nat) {a b : Nat} (ha : a < 2 ^ 31) (hb : b < 2 ^ 31) {off : Int} (hdg : decode cc pc = .ok (.if_icmp .gt off, 3)) (ht : (pc : Int) + off = (tgt : Int)) (hq : pc + 3 = pc') (kt : b < a → W p l e R s m args below meth c H locs cells slots Q (F0 m tgt ls rest)) (kf : a ≤ b → W p l e R s m args below meth c H locs cells slots Q (F0 m pc' ls rest)) : W p l e R s m args below meth c H locs cells slots Q (F0 m pc ls (.int (nI b) :: .int (nI a) :: rest)) := by
  subst hq
  exact lv_icmp_gt X.1 X.2.1 hdg ht (fun h => kt ((nI_ltI hb ha).mp h)) (fun h => kf (Nat.not_lt.mp (fun q => h ((nI_ltI hb ha).mpr q))))
theorem mg_icmp_le (X : CallFix p m c cc nL s args mg_T own) (tgt pc' : Nat) {a b : Nat} (ha : a < 2 ^ 31) (hb : b < 2 ^ 31) {off : Int} (hdg : decode cc pc = .ok (.if_icmp .le off, 3)) (ht : (pc : Int) + off = (tgt : Int)) (hq : pc + 3 = pc') (kt : a ≤ b → W p l e R s m args below meth c H locs cells slots Q (F0 m tgt ls rest)) (kf : b < a → W p l e R s m args below meth c H locs cells slots Q (F0 m pc' ls rest)) : W p l e R s m args below meth c H locs cells slots Q (F0 m pc ls (.int (nI b) :: .int (nI a) :: rest)) := by
  subst hq
  exact lv_icmp_le X.1 X.2.1 hdg ht (fun h => kt ((nI_leI ha hb).mp h)) (fun h => kf (Nat.not_le.mp (fun q => h ((nI_leI ha hb).mpr q))))
theorem mg_eq32 {a b : Nat} (ha : a < 2 ^ 32) (hb : b < 2 ^ 32) : nI a = nI b ↔ a = b := by
  constructor
  · intro h
    have h1 := congrArg (fun z : Int32 => z.toBitVec.toNat) h
    rwa [pk_tn ha, pk_tn hb] at h1
  · intro h; rw [h]
theorem mg_icmp_eq (X : CallFix p m c cc nL s args mg_T own) (tgt pc' : Nat) {a b : Nat} (ha : a < 2 ^ 32) (hb : b < 2 ^ 32) {off : Int} (hdg : decode cc pc = .ok (.if_icmp .eq off, 3)) (ht : (pc : Int) + off = (tgt : Int)) (hq : pc + 3 = pc') (kt : a = b → W p l e R s m args below meth c H locs cells slots Q (F0 m tgt ls rest)) (kf : a ≠ b → W p l e R s m args below meth c H locs cells slots Q (F0 m pc' ls rest)) : W p l e R s m args below meth c H locs cells slots Q (F0 m pc ls (.int (nI b) :: .int (nI a) :: rest)) := by
  subst hq
  exact lv_icmp_eq X.1 X.2.1 hdg ht (fun h => kt ((mg_eq32 ha hb).mp h)) (fun h => kf (fun q => h ((mg_eq32 ha hb).mpr q)))
theorem mg_icmp_ne (X : CallFix p m c cc nL s args mg_T own) (tgt pc' : Nat) {a b : Nat} (ha : a < 2 ^ 32) (hb : b < 2 ^ 32) {off : Int} (hdg : decode cc pc = .ok (.if_icmp .ne off, 3)) (ht : (pc : Int) + off = (tgt : Int)) (hq : pc + 3 = pc') (kt : a ≠ b → W p l e R s m args below meth c H locs cells slots Q (F0 m tgt ls rest)) (kf : a = b → W p l e R s m args below meth c H locs cells slots Q (F0 m pc' ls rest)) : W p l e R s m args below meth c H locs cells slots Q (F0 m pc ls (.int (nI b) :: .int (nI a) :: rest)) := by
  subst hq
  exact lv_icmp_ne X.1 X.2.1 hdg ht (fun h => kt (fun q => h ((mg_eq32 ha hb).mpr q))) (fun h => kf ((mg_eq32 ha hb).mp h))
theorem mg_if_eq (X : CallFix p m c cc nL s args mg_T own) (tgt pc' : Nat) {a : Nat} (ha : a < 2 ^ 32) {off : Int} (hdg : decode cc pc = .ok (.ifCond .eq off, 3)) (ht : (pc : Int) + off = (tgt : Int)) (hq : pc + 3 = pc') (kt : a = 0 → W p l e R s m args below meth c H locs cells slots Q (F0 m tgt ls rest)) (kf : a ≠ 0 → W p l e R s m args below meth c H locs cells slots Q (F0 m pc' ls rest)) : W p l e R s m args below meth c H locs cells slots Q (F0 m pc ls (.int (nI a) :: rest)) := by
  subst hq
  exact lv_if_eq X.1 X.2.1 hdg ht (fun h => kt ((mg_eq32 ha (show 0 < 2 ^ 32 by decide)).mp h)) (fun h => kf (fun q => h ((mg_eq32 ha (show 0 < 2 ^ 32 by decide)).mpr q)))
theorem mg_if_ne (X : CallFix p m c cc nL s args mg_T own) (tgt pc' : Nat) {a : Nat} (ha : a < 2 ^ 32) {off : Int} (hdg : decode cc pc = .ok (.ifCond .ne off, 3)) (ht : (pc : Int) + off = (tgt : Int)) (hq : pc + 3 = pc') (kt : a ≠ 0 → W p l e R s m args below meth c H locs cells slots Q (F0 m tgt ls rest)) (kf : a = 0 → W p l e R s m args below meth c H locs cells slots Q (F0 m pc' ls rest)) : W p l e R s m args below meth c H locs cells slots Q (F0 m pc ls (.int (nI a) :: rest)) := by
  subst hq
  exact lv_if_ne X.1 X.2.1 hdg ht (fun h => kt (fun q => h ((mg_eq32 ha (show 0 < 2 ^ 32 by decide)).mpr q))) (fun h => kf ((mg_eq32 ha (show 0 < 2 ^ 32 by decide)).mp h))
theorem mg_if_gt (X : CallFix p m c cc nL s args mg_T own) (tgt pc' : Nat) {a : Nat} (ha : a < 2 ^ 31) {off : Int} (hdg : decode cc pc = .ok (.ifCond .gt off, 3)) (ht : (pc : Int) + off = (tgt : Int)) (hq : pc + 3 = pc') (kt : 0 < a → W p l e R s m args below meth c H locs cells slots Q (F0 m tgt ls rest)) (kf : a = 0 → W p l e R s m args below meth c H locs cells slots Q (F0 m pc' ls rest)) : W p l e R s m args below meth c H locs cells slots Q (F0 m pc ls (.int (nI a) :: rest)) := by
  subst hq
  exact lv_if_gt X.1 X.2.1 hdg ht (fun h => kt (Nat.pos_of_ne_zero (fun q => by subst q; exact absurd h (by decide +kernel)))) (fun h => kf (Nat.eq_zero_of_not_pos (fun q => h (nI_lt q ha))))
theorem mg_if_le (X : CallFix p m c cc nL s args mg_T own) (tgt pc' : Nat) {a : Nat} (ha : a < 2 ^ 31) {off : Int} (hdg : decode cc pc = .ok (.ifCond .le off, 3)) (ht : (pc : Int) + off = (tgt : Int)) (hq : pc + 3 = pc') (kt : a = 0 → W p l e R s m args below meth c H locs cells slots Q (F0 m tgt ls rest)) (kf : 0 < a → W p l e R s m args below meth c H locs cells slots Q (F0 m pc' ls rest)) : W p l e R s m args below meth c H locs cells slots Q (F0 m pc ls (.int (nI a) :: rest)) := by
  subst hq
  exact lv_if_le X.1 X.2.1 hdg ht (fun h => kt (Nat.eq_zero_of_not_pos (fun q => nI_nle q ha h))) (fun h => kf (Nat.pos_of_ne_zero (fun q => h (by subst q; decide +kernel))))
/-- an int that is one of the first n naturals -/
def mg_lt (x : Int32) (n : Nat) : Prop := ∃ j, j < n ∧ x = nI j
theorem mg_lt_neg {x : Int32} {n : Nat} (h : x < 0) (hn : n ≤ 2 ^ 31) : ¬ mg_lt x n := fun ⟨j, hj, e⟩ => nI_pos (show j < 2 ^ 31 by omega) (e ▸ h)
theorem mg_lt_ge {j n : Nat} (hj : j < 2 ^ 31) (h : n ≤ j) : ¬ mg_lt (nI j) n := fun ⟨i, hi, e⟩ => by
  have h1 := (nI_eq hj (show i < 2 ^ 31 by omega)).mp e
  omega
theorem mg_lt_in {j n : Nat} (h : j < n) : mg_lt (nI j) n := ⟨j, h, rfl⟩
theorem mg_iflt_r (X : CallFix p m c cc nL s args mg_T own) (tgt pc' : Nat) {x : Int32} {off : Int} (hdg : decode cc pc = .ok (.ifCond .lt off, 3)) (ht : (pc : Int) + off = (tgt : Int)) (hq : pc + 3 = pc') (kt : x < 0 → W p l e R s m args below meth c H locs cells slots Q (F0 m tgt ls rest)) (kf : ∀ j : Nat, j < 2 ^ 31 → x = nI j → W p l e R s m args below meth c H locs cells slots Q (F0 m pc' ls rest)) : W p l e R s m args below meth c H locs cells slots Q (F0 m pc ls (.int x :: rest)) := by
  subst hq
  refine lv_if_lt X.1 X.2.1 hdg ht kt (fun h => ?_)
  obtain ⟨j, hj, e⟩ := nI_of h
  exact kf j hj e
end MG
section MH
variable {p : Program} {l : Launch} {e : Env} {R : Room} {s : State} {m : MethodId} {args : Array Value} {below : List Frame} {meth : Method} {c : Code} {H : Heap} {locs : List Loc} {cells slots : Nat} {Q : State → Prop}
variable {cc : ByteArray} {nL pc : Nat} {own : String} {ls : Array Slot} {rest : List Value} {D : va_G} {K : Nat → ClassId} {A : Nat → Prop} {ws : va_W} {H0 : Heap} {a n k x : Nat} {d : Nat → Nat}
theorem mg_iald (X : CallFix p m c cc nL s args mg_T own) (hK : mg_K D K s) (hw : mg_H D A H0 H locs ws) (pc' q0 : Nat) (ha : ws[q0]? = some (mg_ai K a n d)) (hk : k < n) (hn : n < 2 ^ 31) (hdg : decode cc pc = .ok (.iaload, 1)) (hq : pc + 1 = pc')
    (kk : W p l e R s m args below meth c H locs cells slots Q (F0 m pc' ls (.int (nI (d k)) :: rest))) : W p l e R s m args below meth c H locs cells slots Q (F0 m pc ls (.int (nI k) :: .ref a :: rest)) := by
  subst hq
  refine va_iald X.1 X.2.1 hK.1 hw.1 q0 0 ha rfl (vp_in_nI hk hn) hdg ?_
  rw [nI_clamp (Nat.lt_trans hk hn)]
  exact kk
theorem mg_lald (X : CallFix p m c cc nL s args mg_T own) (hK : mg_K D K s) (hw : mg_H D A H0 H locs ws) (pc' q0 : Nat) (ha : ws[q0]? = some (mg_al K a n d)) (hk : k < n) (hn : n < 2 ^ 31) (hdg : decode cc pc = .ok (.laload, 1)) (hq : pc + 1 = pc')
    (kk : W p l e R s m args below meth c H locs cells slots Q (F0 m pc' ls (.long (lN (d k)) :: rest))) : W p l e R s m args below meth c H locs cells slots Q (F0 m pc ls (.int (nI k) :: .ref a :: rest)) := by
  subst hq
  refine va_lald X.1 X.2.1 hK.1 hw.1 q0 1 ha rfl (vp_in_nI hk hn) hdg ?_
  rw [nI_clamp (Nat.lt_trans hk hn)]
  exact kk
theorem mg_cald (X : CallFix p m c cc nL s args mg_T own) (hK : mg_K D K s) (hw : mg_H D A H0 H locs ws) (pc' q0 : Nat) (ha : ws[q0]? = some (mg_ac K a n d)) (hk : k < n) (hn : n < 2 ^ 31) (hdg : decode cc pc = .ok (.caload, 1)) (hq : pc + 1 = pc')
    (kk : W p l e R s m args below meth c H locs cells slots Q (F0 m pc' ls (.int (nI (d k)) :: rest))) : W p l e R s m args below meth c H locs cells slots Q (F0 m pc ls (.int (nI k) :: .ref a :: rest)) := by
  subst hq
  refine va_cald X.1 X.2.1 hK.1 hw.1 q0 2 ha rfl (vp_in_nI hk hn) hdg ?_
  rw [nI_clamp (Nat.lt_trans hk hn)]
  exact kk
theorem mg_zald (X : CallFix p m c cc nL s args mg_T own) (hK : mg_K D K s) (hw : mg_H D A H0 H locs ws) (pc' q0 : Nat) (ha : ws[q0]? = some (mg_az K a n d)) (hk : k < n) (hn : n < 2 ^ 31) (hdg : decode cc pc = .ok (.baload, 1)) (hq : pc + 1 = pc')
    (kk : W p l e R s m args below meth c H locs cells slots Q (F0 m pc' ls (.int (nI (d k)) :: rest))) : W p l e R s m args below meth c H locs cells slots Q (F0 m pc ls (.int (nI k) :: .ref a :: rest)) := by
  subst hq
  refine va_zald X.1 X.2.1 hK.1 hw.1 q0 3 ha rfl (vp_in_nI hk hn) hdg ?_
  rw [nI_clamp (Nat.lt_trans hk hn)]
  exact kk
theorem mg_iast (X : CallFix p m c cc nL s args mg_T own) (hK : mg_K D K s) (hw : mg_H D A H0 H locs ws) (pc' q0 : Nat) (ws' : va_W) (ha : ws[q0]? = some (mg_ai K a n d)) (hk : k < n) (hn : n < 2 ^ 31) (hdg : decode cc pc = .ok (.iastore, 1)) (he : ws.set q0 (mg_ai K a n (va_up d k x)) = ws') (hq : pc + 1 = pc')
    (kk : ∀ (H1 : Heap) (locs1 : List Loc), mg_H D A H0 H1 locs1 ws' → W p l e R s m args below meth c H1 locs1 cells slots Q (F0 m pc' ls rest)) : W p l e R s m args below meth c H locs cells slots Q (F0 m pc ls (.int (nI x) :: .int (nI k) :: .ref a :: rest)) := by
  subst hq; subst he
  refine va_iast X.1 X.2.1 hK.1 hw.1 hw.2.1 hw.2.2 q0 0 ha rfl (vp_in_nI hk hn) hdg (fun H1 locs1 h1 h2 h3 => ?_)
  rw [nI_clamp (Nat.lt_trans hk hn), mg_I_up] at h1 h2
  exact kk H1 locs1 ⟨h1, h2, h3⟩
theorem mg_last (X : CallFix p m c cc nL s args mg_T own) (hK : mg_K D K s) (hw : mg_H D A H0 H locs ws) (pc' q0 : Nat) (ws' : va_W) (ha : ws[q0]? = some (mg_al K a n d)) (hk : k < n) (hn : n < 2 ^ 31) (hdg : decode cc pc = .ok (.lastore, 1)) (he : ws.set q0 (mg_al K a n (va_up d k x)) = ws') (hq : pc + 1 = pc')
    (kk : ∀ (H1 : Heap) (locs1 : List Loc), mg_H D A H0 H1 locs1 ws' → W p l e R s m args below meth c H1 locs1 cells slots Q (F0 m pc' ls rest)) : W p l e R s m args below meth c H locs cells slots Q (F0 m pc ls (.long (lN x) :: .int (nI k) :: .ref a :: rest)) := by
  subst hq; subst he
  refine va_last X.1 X.2.1 hK.1 hw.1 hw.2.1 hw.2.2 q0 1 ha rfl (vp_in_nI hk hn) hdg (fun H1 locs1 h1 h2 h3 => ?_)
  rw [nI_clamp (Nat.lt_trans hk hn), mg_L_up] at h1 h2
  exact kk H1 locs1 ⟨h1, h2, h3⟩
theorem mg_nar_c (hx : x < 65536) : vp_nar .char (nI x) = nI x := by
  unfold vp_nar
  rw [(pk_charN hx).1]
theorem mg_nar_z (hx : x < 2) : vp_nar .boolean (nI x) = nI x := by
  rcases (show x = 0 ∨ x = 1 by omega) with h | h <;> subst h <;> decide +kernel
theorem mg_cast (X : CallFix p m c cc nL s args mg_T own) (hK : mg_K D K s) (hw : mg_H D A H0 H locs ws) (pc' q0 : Nat) (ws' : va_W) (ha : ws[q0]? = some (mg_ac K a n d)) (hk : k < n) (hn : n < 2 ^ 31) (hx : x < 65536) (hdg : decode cc pc = .ok (.castore, 1)) (he : ws.set q0 (mg_ac K a n (va_up d k x)) = ws') (hq : pc + 1 = pc')
    (kk : ∀ (H1 : Heap) (locs1 : List Loc), mg_H D A H0 H1 locs1 ws' → W p l e R s m args below meth c H1 locs1 cells slots Q (F0 m pc' ls rest)) : W p l e R s m args below meth c H locs cells slots Q (F0 m pc ls (.int (nI x) :: .int (nI k) :: .ref a :: rest)) := by
  subst hq; subst he
  refine va_cast X.1 X.2.1 hK.1 hw.1 hw.2.1 hw.2.2 q0 2 ha rfl (vp_in_nI hk hn) hdg (fun H1 locs1 h1 h2 h3 => ?_)
  rw [nI_clamp (Nat.lt_trans hk hn), mg_nar_c hx, mg_I_up] at h1 h2
  exact kk H1 locs1 ⟨h1, h2, h3⟩
theorem mg_zast (X : CallFix p m c cc nL s args mg_T own) (hK : mg_K D K s) (hw : mg_H D A H0 H locs ws) (pc' q0 : Nat) (ws' : va_W) (ha : ws[q0]? = some (mg_az K a n d)) (hk : k < n) (hn : n < 2 ^ 31) (hx : x < 2) (hdg : decode cc pc = .ok (.bastore, 1)) (he : ws.set q0 (mg_az K a n (va_up d k x)) = ws') (hq : pc + 1 = pc')
    (kk : ∀ (H1 : Heap) (locs1 : List Loc), mg_H D A H0 H1 locs1 ws' → W p l e R s m args below meth c H1 locs1 cells slots Q (F0 m pc' ls rest)) : W p l e R s m args below meth c H locs cells slots Q (F0 m pc ls (.int (nI x) :: .int (nI k) :: .ref a :: rest)) := by
  subst hq; subst he
  refine va_zast X.1 X.2.1 hK.1 hw.1 hw.2.1 hw.2.2 q0 3 ha rfl (vp_in_nI hk hn) hdg (fun H1 locs1 h1 h2 h3 => ?_)
  rw [nI_clamp (Nat.lt_trans hk hn), mg_nar_z hx, mg_I_up] at h1 h2
  exact kk H1 locs1 ⟨h1, h2, h3⟩
/-- a field: its link from the class own, its place -/
def mg_F (own : String) (index ci k : Nat) : Prop := ∃ (C : String) (T : u_T) (N : Nat), mg_CL[ci]? = some (C, T, N) ∧ k < N ∧ (∀ w ∈ u_ws C T N, w ∈ mg_T) ∧ (T k).1 = C ∧
  (Cond.fieldLink own index C (T k).2.1 (T k).2.2.1 ∈ mg_T ∨ ∃ host, Cond.fieldLinkNest own index C (T k).2.1 (T k).2.2.1 host ∈ mg_NW)
def mg_Fp (own : String) (index ci k : Nat) (ty : FieldType) (fin : Bool) : Prop := ∃ (C : String) (T : u_T) (N : Nat) (ty0 : Nat → FieldType), mg_CL[ci]? = some (C, T, N) ∧ k < N ∧ (∀ w ∈ u_ws C T N, w ∈ mg_T) ∧ (T k).1 = C ∧
  (∀ j, j < N → parseFieldDescriptor (T j).2.2.1 = some (ty0 j)) ∧ (∀ a, a < N → ∀ b, b < N → a ≠ b → (T a).2.1 ≠ (T b).2.1) ∧ (T k).2.2.2 = fin ∧ parseFieldDescriptor (T k).2.2.1 = some ty ∧ (fin = true → C = own) ∧
  (Cond.fieldLink own index C (T k).2.1 (T k).2.2.1 ∈ mg_T ∨ (fin = false ∧ ∃ host, Cond.fieldLinkNest own index C (T k).2.1 (T k).2.2.1 host ∈ mg_NW))
theorem mg_get (X : CallFix p m c cc nL s args mg_T own) (hK : mg_K D K s) (hw : mg_H D A H0 H locs ws) (pc' q0 k : Nat) {index ci : Nat} {fs : List Value} {v : Value} (hf : mg_F own index ci k) (he : ws[q0]? = some (mg_ob a ci fs)) (hv : fs[k]? = some v) (hdg : decode cc pc = .ok (.getfield index, 3)) (hq : pc + 3 = pc')
    (kk : W p l e R s m args below meth c H locs cells slots Q (F0 m pc' ls (v :: rest))) : W p l e R s m args below meth c H locs cells slots Q (F0 m pc ls (.ref a :: rest)) := by
  subst hq
  obtain ⟨C, T, N, hc, hk, hin, hC, h | ⟨host, h⟩⟩ := hf
  · exact va_get X.1 X.2.1 X.2.2.2.2 hin X.2.2.2.1 hK.1 hw.1 q0 he hc k hk (X.2.2.2.2 _ h) (fun x hx => by rw [hC] at hx; exact hx) hv hdg kk
  · exact va_getN X.1 X.2.1 X.2.2.2.2 hin X.2.2.2.1 hK.1 hw.1 q0 he hc k hk (va_Nw.use rfl (hK.2 _ h)) (fun x hx => by rw [hC] at hx; exact hx) hv hdg kk
theorem mg_put (X : CallFix p m c cc nL s args mg_T own) (hK : mg_K D K s) (hw : mg_H D A H0 H locs ws) (pc' q0 k : Nat) (ws' : va_W) {index ci : Nat} {fs : List Value} {v : Value} {ty : FieldType} (hf : mg_Fp own index ci k ty false) (he : ws[q0]? = some (mg_ob a ci fs)) (hl : k < fs.length) (hn : narrow ty v = v) (hfit : fits ty v = true) (hdg : decode cc pc = .ok (.putfield index, 3)) (hset : ws.set q0 (mg_ob a ci (fs.set k v)) = ws') (hq : pc + 3 = pc')
    (kk : ∀ (H1 : Heap) (locs1 : List Loc), mg_H D A H0 H1 locs1 ws' → W p l e R s m args below meth c H1 locs1 cells slots Q (F0 m pc' ls rest)) : W p l e R s m args below meth c H locs cells slots Q (F0 m pc ls (v :: .ref a :: rest)) := by
  subst hq; subst hset
  obtain ⟨C, T, N, ty0, hc, hk, hin, hC, hty, hnm, hfin, hd, -, h | ⟨-, host, h⟩⟩ := hf
  · exact va_put X.1 X.2.1 X.2.2.2.2 hin ty0 hty hnm X.2.2.2.1 hK.1 hw.1 hw.2.1 hw.2.2 q0 he hc k hk (X.2.2.2.2 _ h) (fun x hx => by rw [hC] at hx; exact hx) hfin hd hn hfit hl hdg (fun H1 locs1 h1 h2 h3 => kk H1 locs1 ⟨h1, h2, h3⟩)
  · exact va_putN X.1 X.2.1 X.2.2.2.2 hin ty0 hty hnm X.2.2.2.1 hK.1 hw.1 hw.2.1 hw.2.2 q0 he hc k hk (va_Nw.use rfl (hK.2 _ h)) (fun x hx => by rw [hC] at hx; exact hx) hfin hd hn hfit hl hdg (fun H1 locs1 h1 h2 h3 => kk H1 locs1 ⟨h1, h2, h3⟩)
theorem mg_putF (X : CallFix p m c cc nL s args mg_T own) (hnm0 : meth.name = "<init>") (hK : mg_K D K s) (hw : mg_H D A H0 H locs ws) (pc' q0 k : Nat) (ws' : va_W) {index ci : Nat} {fs : List Value} {v : Value} {ty : FieldType} (hf : mg_Fp own index ci k ty true) (he : ws[q0]? = some (mg_ob a ci fs)) (hl : k < fs.length) (hn : narrow ty v = v) (hfit : fits ty v = true) (hdg : decode cc pc = .ok (.putfield index, 3)) (hset : ws.set q0 (mg_ob a ci (fs.set k v)) = ws') (hq : pc + 3 = pc')
    (kk : ∀ (H1 : Heap) (locs1 : List Loc), mg_H D A H0 H1 locs1 ws' → W p l e R s m args below meth c H1 locs1 cells slots Q (F0 m pc' ls rest)) : W p l e R s m args below meth c H locs cells slots Q (F0 m pc ls (v :: .ref a :: rest)) := by
  subst hq; subst hset
  obtain ⟨C, T, N, ty0, hc, hk, hin, hC, hty, hnm, hfin, hd, ho, h | ⟨h, -⟩⟩ := hf
  · exact va_putF X.1 X.2.1 X.2.2.2.2 hin ty0 hty hnm X.2.2.2.1 hK.1 hw.1 hw.2.1 hw.2.2 q0 he hc k hk (X.2.2.2.2 _ h) (fun x hx => by rw [hC] at hx; exact hx) hfin hnm0 (hC.trans (ho rfl)) hd hn hfit hl hdg (fun H1 locs1 h1 h2 h3 => kk H1 locs1 ⟨h1, h2, h3⟩)
  · cases h
/-- the ends -/
theorem mg_vret {S : Type} {post : S → Prop} {ws' : S → va_W} (X : CallFix p m c cc nL s args mg_T own) (hr : meth.sig.returnType = none) (hlk : meth.locks = false) (u : S) (hp : post u) (hw : mg_H D A s.heap H locs (ws' u)) (hdg : decode cc pc = .ok (.return_, 1)) :
    W p l e R s m args below meth c H locs cells slots (MQ below (va_Qv post (mg_B D A ws') A) args s cells slots A) (F0 m pc ls []) :=
  W.vret X.1 X.2.1 hr (fun t ht _ => ⟨⟨u, rfl, hp, by rw [ht]; exact hw.1, hw.2.1⟩, hw.2.2.F ht⟩) hw.2.2.2.2 hdg hlk
theorem mg_iret {S : Type} {post : Int32 → S → Prop} {ws' : S → va_W} {ty : FieldType} {r : Int32} (X : CallFix p m c cc nL s args mg_T own) (hr : meth.sig.returnType = some ty) (hlk : meth.locks = false) (hn : narrow ty (.int r) = .int r) (u : S) (hp : post r u) (hw : mg_H D A s.heap H locs (ws' u)) (hdg : decode cc pc = .ok (.ireturn, 1)) :
    W p l e R s m args below meth c H locs cells slots (MQ below (va_Qi post (mg_B D A ws') A) args s cells slots A) (F0 m pc ls [.int r]) :=
  W.zret X.1 X.2.1 hr hn (fun t ht _ => ⟨⟨r, u, rfl, hp, by rw [ht]; exact hw.1, hw.2.1⟩, hw.2.2.F ht⟩) hw.2.2.2.2 hdg hlk
theorem mg_nz (hx : x < 2) : narrow .boolean (.int (nI x)) = .int (nI x) := by
  rcases (show x = 0 ∨ x = 1 by omega) with h | h <;> subst h <;> decide +kernel
end MH
/-- the callee's cells put back at their places -/
def mg_pt : va_W → List Nat → va_W → va_W
  | ws, i :: is, q :: qs => mg_pt (ws.set i q) is qs
  | ws, _, _ => ws
theorem mg_pt_spec : ∀ (is : List Nat) (ws wc : va_W) (k : Nat) (q : Nat × va_E), (mg_pt ws is wc)[k]? = some q → (∃ j : Nat, is[j]? = some k ∧ wc[j]? = some q) ∨ (ws[k]? = some q ∧ ∀ j : Nat, is[j]? = some k → wc.length ≤ j) := by
  intro is
  induction is with
  | nil =>
    intro ws wc k q h
    have h1 : ws[k]? = some q := by cases wc <;> exact h
    exact Or.inr ⟨h1, fun j hj => by simp at hj⟩
  | cons i is ih =>
    intro ws wc k q h
    cases wc with
    | nil => exact Or.inr ⟨h, fun j _ => Nat.zero_le j⟩
    | cons c0 cs =>
      rcases ih (ws.set i c0) cs k q h with ⟨j, h1, h2⟩ | ⟨h1, h2⟩
      · exact Or.inl ⟨j + 1, h1, h2⟩
      · by_cases hk : k = i
        · subst hk
          rw [List.getElem?_set] at h1
          by_cases hl : k < ws.length
          · rw [if_pos rfl, if_pos hl] at h1
            exact Or.inl ⟨0, rfl, h1⟩
          · rw [if_pos rfl, if_neg hl] at h1
            cases h1
        · rw [List.getElem?_set_ne (Ne.symm hk)] at h1
          refine Or.inr ⟨h1, fun j hj => ?_⟩
          cases j with
          | zero => exact absurd (Option.some.inj hj).symm hk
          | succ j => exact Nat.succ_le_succ (h2 j hj)
theorem mg_at {ws wc : va_W} {is : List Nat} (hs : is.map (fun i => ws[i]?) = wc.map some) {j : Nat} {q : Nat × va_E} (hq : wc[j]? = some q) : ∃ i : Nat, is[j]? = some i ∧ ws[i]? = some q := by
  have h1 : (is.map (fun i => ws[i]?))[j]? = some (some q) := by rw [hs, List.getElem?_map, hq]; rfl
  rw [List.getElem?_map] at h1
  cases hi : is[j]? with
  | none => rw [hi] at h1; cases h1
  | some i => rw [hi] at h1; exact ⟨i, rfl, Option.some.inj h1⟩
theorem mg_join {D : va_G} {A : Nat → Prop} {H0 H H1 : Heap} {locs : List Loc} {ws wc w1 : va_W} {isC : List Nat} (hw : mg_H D A H0 H locs ws) (hC : isC.map (fun i => ws[i]?) = wc.map some) (had : w1.map (fun q => q.1) = wc.map (fun q => q.1))
    (hk : ∀ q : Nat, q < H.size → ¬ va_A wc H.size q → H1[q]? = H[q]?) (hP1 : va_P D mg_CL w1 H1) : va_P D mg_CL (mg_pt ws isC w1) H1 ∧ va_D A (mg_pt ws isC w1) := by
  have hlen1 : isC.length = wc.length := by have := congrArg List.length hC; simpa using this
  have hlen2 : w1.length = wc.length := by have := congrArg List.length had; simpa using this
  have hadr : ∀ (j : Nat) (q : Nat × va_E), w1[j]? = some q → ∃ e, wc[j]? = some (q.1, e) := by
    intro j q hq
    have h1 : (w1.map (fun q => q.1))[j]? = some q.1 := by rw [List.getElem?_map, hq]; rfl
    rw [had, List.getElem?_map] at h1
    cases hj : wc[j]? with
    | none => rw [hj] at h1; cases h1
    | some y =>
      rw [hj] at h1
      have h2 : y.1 = q.1 := Option.some.inj h1
      exact ⟨y.2, by rw [← h2]⟩
  have same : ∀ (k : Nat) (q : Nat × va_E), (mg_pt ws isC w1)[k]? = some q → ∃ e, ws[k]? = some (q.1, e) := by
    intro k q hq
    rcases mg_pt_spec isC ws w1 k q hq with ⟨j, h1, h2⟩ | ⟨h1, -⟩
    · obtain ⟨e, he⟩ := hadr j q h2
      obtain ⟨i, h3, h4⟩ := mg_at hC he
      cases h1.symm.trans h3
      exact ⟨e, h4⟩
    · exact ⟨q.2, h1⟩
  refine ⟨fun k q hq => ?_, fun i j x y hx hy hxy => ?_, fun k q hq => ?_⟩
  · rcases mg_pt_spec isC ws w1 k q hq with ⟨j, h1, h2⟩ | ⟨h1, h2⟩
    · exact hP1 j q h2
    · refine (hw.1 k q h1).kept (hk q.1 (hw.1 k q h1).lt (fun hA => ?_))
      rcases hA with ⟨j, e, hj⟩ | hA
      · obtain ⟨i, h3, h4⟩ := mg_at hC hj
        have hki : k = i := hw.2.1.1 k i q (q.1, e) h1 h4 rfl
        subst hki
        have h5 := h2 j h3
        have h6 : j < isC.length := (List.getElem?_eq_some_iff.mp h3).1
        omega
      · have := (hw.1 k q h1).lt
        omega
  · obtain ⟨e1, h1⟩ := same i x hx
    obtain ⟨e2, h2⟩ := same j y hy
    exact hw.2.1.1 i j _ _ h1 h2 hxy
  · obtain ⟨e1, h1⟩ := same k q hq
    exact hw.2.1.2 k (q.1, e1) h1
theorem mg_freeC {D : va_G} {A : Nat → Prop} {H0 H : Heap} {locs : List Loc} {ws wc : va_W} {isC : List Nat} (hw : mg_H D A H0 H locs ws) (hA : ∀ q, H0.size ≤ q → A q) (hC : isC.map (fun i => ws[i]?) = wc.map some) : ∀ q, va_A wc H.size q → A q := va_free hw.2.1 hw.2.2 hA isC hC
/-- the callee's cells, cut out -/
theorem mg_cut {D : va_G} {ws wc : va_W} {isC : List Nat} {H : Heap} (hP : va_P D mg_CL ws H) (hC : isC.map (fun i => ws[i]?) = wc.map some) : va_P D mg_CL wc H := fun j q hq => by
  obtain ⟨i, -, h⟩ := mg_at hC hq
  exact hP i q h
theorem mg_cutD {A : Nat → Prop} {ws wc : va_W} {isC : List Nat} (hD : va_D A ws) (hn : va_nd isC = true) (hC : isC.map (fun i => ws[i]?) = wc.map some) : va_D A wc := hD.sub isC hn hC
/-- what is known of a call of an instance method -/
def mg_CV (own : String) (index : Nat) (y : MethodName) (cc : ByteArray) (nL : Nat) (ret : Option FieldType) (n : Nat) : Prop :=
  (Cond.methodLink own index y ∈ mg_T ∨ ∃ host, Cond.methodLinkNest own index y host ∈ mg_NW) ∧ Cond.instanceMethod y ∈ mg_T ∧ Cond.selects y.cls y y ∈ mg_T ∧ Cond.initialized y.cls ∈ mg_T ∧ Cond.code y cc nL ret ∈ mg_T ∧
  y.cls ≠ "java/lang/invoke/MethodHandle" ∧ y.cls ≠ "java/lang/invoke/VarHandle" ∧ (parseMethodDescriptor y.desc).map (fun d => d.parameters.length) = some n
def mg_CS (own : String) (index : Nat) (y : MethodName) (cc : ByteArray) (nL : Nat) (ret : Option FieldType) (n : Nat) : Prop :=
  Cond.methodLink own index y ∈ mg_T ∧ Cond.static y ∈ mg_T ∧ Cond.initialized y.cls ∈ mg_T ∧ Cond.code y cc nL ret ∈ mg_T ∧
  y.cls ≠ "java/lang/invoke/MethodHandle" ∧ y.cls ≠ "java/lang/invoke/VarHandle" ∧ (parseMethodDescriptor y.desc).map (fun d => d.parameters.length) = some n
section MC
variable {p : Program} {l : Launch} {e : Env} {R : Room} {s : State} {m : MethodId} {args : Array Value} {below : List Frame} {meth : Method} {c : Code} {H : Heap} {locs : List Loc} {cells slots : Nat} {Q : State → Prop}
variable {cc c1 : ByteArray} {nL pc n1 n mc ms sz index : Nat} {own : String} {ls : Array Slot} {rest As st0 : List Value} {D : va_G} {K : Nat → ClassId} {A : Nat → Prop} {ws wc : va_W} {b : Nat} {y : MethodName} {ret : Option FieldType} {rm : Room} {Qc : Array Value → State → Outcome → State → Prop} {free : Addr → Prop}
theorem mg_runV (X : CallFix p m c cc nL s args mg_T own) (hK : mg_K D K s) (hw : mg_H D A s.heap H locs ws) (isC : List Nat) (q0 : Nat) {ci N : Nat} {T : u_T} {fs : List Value} (hb : ws[q0]? = some (mg_ob b ci fs)) (hcl : mg_CL[ci]? = some (y.cls, T, N))
    (hM : Met l y (mg_ws y c1 n1 ret) rm (mg_Pre D K (.ref b :: As) wc H.size) Qc mc ms free) (hc : mg_CV own index y c1 n1 ret n) (hrc : rm.cells = mc) (hrs : rm.slots = ms) (hR : rm.frames + 1 ≤ R.frames ∧ 8 + (n1 + 11) + rm.locals ≤ R.locals)
    (hC : isC.map (fun i => ws[i]?) = wc.map some) (hnd : va_nd isC = true) (hn : As.length = n) (hls : ls.size = nL) (hst : st0 = As.reverse ++ .ref b :: rest) (hcat : (rest.map fun v => v.category).sum ≤ 8) (hdg : decode cc pc = .ok (.invokevirtual index, 3)) (hf : cells + mc ≤ R.cells ∧ slots + ms ≤ R.slots) :
    va_Run p l e R s m args below meth c H locs cells slots mc ms (F0 m pc ls st0) rest (Qc (Value.ref b :: As).toArray) free := by
  obtain ⟨hl, h1, h2, h3, h4, h5, h6, h7⟩ := hc
  have hT := X.2.2.2.2
  have hgood : GoodIn mg_T (mg_ws y c1 n1 ret) := fun w hw => by
    have hw2 : w ∈ mg_T := by
      rcases List.mem_cons.mp hw with e | e
      · rw [e]; exact h4
      · exact e
    exact ⟨hw2, good_of_word (List.mem_filter.mp hw2).2⟩
  have hpre : PreV s H y.cls b (mg_Pre D K (.ref b :: As) wc H.size) As := ⟨mg_Pre.blind D K _ wc H.size, va_recv hK.1 hw.1 hcl hb, fun U hU hW => ⟨rfl, by rw [hU], by rw [hU]; exact mg_cut hw.1 hC, hK.warm hW, (mg_cutD hw.2.1 hnd hC).weaken (fun _ _ _ _ => trivial)⟩⟩
  have hroom : 2 * (F0 m pc ls st0).monitorRoom + (rest.map fun v => v.category).sum ≤ 8 := by show 2 * 0 + _ ≤ 8; omega
  rcases hl with hl | ⟨host, hl⟩
  · exact va_runV X hM ⟨callB_of n hT hgood rfl hrc hrs (hT _ h3) (hT _ hl) ⟨h5, h6, h7⟩ hR, hT _ h1, hT _ h2⟩ hpre rfl hn hls hst hroom hdg hf
  · exact va_runVN X hM ⟨va_cnB n hT hgood rfl hrc hrs (hK.2 _ hl) (hT _ h3) ⟨h5, h6, h7⟩ hR, hT _ h1, hT _ h2⟩ hpre rfl hn hls hst hroom hdg hf
theorem mg_runS (X : CallFix p m c cc nL s args mg_T own) (hK : mg_K D K s) (hw : mg_H D A s.heap H locs ws) (isC : List Nat)
    (hM : Met l y (mg_ws y c1 n1 ret) rm (mg_Pre D K As wc H.size) Qc mc ms free) (hc : mg_CS own index y c1 n1 ret n) (hrc : rm.cells = mc) (hrs : rm.slots = ms) (hR : rm.frames + 1 ≤ R.frames ∧ 8 + (n1 + 11) + rm.locals ≤ R.locals)
    (hC : isC.map (fun i => ws[i]?) = wc.map some) (hnd : va_nd isC = true) (hn : As.length = n) (hls : ls.size = nL) (hst : st0 = As.reverse ++ rest) (hcat : (rest.map fun v => v.category).sum ≤ 8) (hdg : decode cc pc = .ok (.invokestatic index, 3)) (hf : cells + mc ≤ R.cells ∧ slots + ms ≤ R.slots) :
    va_Run p l e R s m args below meth c H locs cells slots mc ms (F0 m pc ls st0) rest (Qc As.toArray) free := by
  obtain ⟨hl, h1, h3, h4, h5, h6, h7⟩ := hc
  have hT := X.2.2.2.2
  have hgood : GoodIn mg_T (mg_ws y c1 n1 ret) := fun w hw => by
    have hw2 : w ∈ mg_T := by
      rcases List.mem_cons.mp hw with e | e
      · rw [e]; exact h4
      · exact e
    exact ⟨hw2, good_of_word (List.mem_filter.mp hw2).2⟩
  have hpre : PreS s H (mg_Pre D K As wc H.size) As := ⟨mg_Pre.blind D K _ wc H.size, fun U hU hW => ⟨rfl, by rw [hU], by rw [hU]; exact mg_cut hw.1 hC, hK.warm hW, (mg_cutD hw.2.1 hnd hC).weaken (fun _ _ _ _ => trivial)⟩⟩
  have hroom : 2 * (F0 m pc ls st0).monitorRoom + (rest.map fun v => v.category).sum ≤ 8 := by show 2 * 0 + _ ≤ 8; omega
  exact va_runS X hM ⟨callB_of n hT hgood rfl hrc hrs (hT _ h3) (hT _ hl) ⟨h5, h6, h7⟩ hR, hT _ h1⟩ hpre rfl hn hls hst hroom hdg hf
/-- a void call: the callee's cells come back at their places -/
theorem mg_backv {S : Type} {post : S → Prop} {wc' : S → va_W} {av : Array Value} (hw : mg_H D A s.heap H locs ws) (hA : ∀ q, s.heap.size ≤ q → A q) (isC : List Nat) (w1 : S → va_W) (hC : isC.map (fun i => ws[i]?) = wc.map some) (had : ∀ u, (wc' u).map (fun q => q.1) = wc.map (fun q => q.1)) (hw1 : ∀ u, mg_pt ws isC (wc' u) = w1 u)
    (hr : va_Run p l e R s m args below meth c H locs cells slots 0 0 (F0 m pc ls st0) rest (va_Qv post (mg_B D (va_A wc H.size) wc') (va_A wc H.size) av) (va_A wc H.size))
    (kk : ∀ (u : S) (H1 : Heap) (locs1 : List Loc), post u → mg_H D A s.heap H1 locs1 (w1 u) → W p l e R s m args below meth c H1 locs1 cells slots Q (F0 m (pc + 3) ls rest)) : W p l e R s m args below meth c H locs cells slots Q (F0 m pc ls st0) := by
  have hF := mg_freeC hw hA hC
  refine va_callv hr hw.2.2 (fun q _ h => hF q h) hF (fun u t H1 locs1 ht _ hp hB _ hk hS => ?_)
  have hP1 := hB.1
  rw [ht] at hP1
  have hj := mg_join hw hC (had u) hk hP1
  rw [hw1 u] at hj
  exact kk u H1 locs1 hp ⟨hj.1, hj.2, hS⟩
theorem mg_backi {S : Type} {post : Int32 → S → Prop} {wc' : S → va_W} {av : Array Value} (hw : mg_H D A s.heap H locs ws) (hA : ∀ q, s.heap.size ≤ q → A q) (isC : List Nat) (w1 : S → va_W) (hC : isC.map (fun i => ws[i]?) = wc.map some) (had : ∀ u, (wc' u).map (fun q => q.1) = wc.map (fun q => q.1)) (hw1 : ∀ u, mg_pt ws isC (wc' u) = w1 u)
    (hr : va_Run p l e R s m args below meth c H locs cells slots 0 0 (F0 m pc ls st0) rest (va_Qi post (mg_B D (va_A wc H.size) wc') (va_A wc H.size) av) (va_A wc H.size))
    (kk : ∀ (r : Int32) (u : S) (H1 : Heap) (locs1 : List Loc), post r u → mg_H D A s.heap H1 locs1 (w1 u) → W p l e R s m args below meth c H1 locs1 cells slots Q (F0 m (pc + 3) ls (.int r :: rest))) : W p l e R s m args below meth c H locs cells slots Q (F0 m pc ls st0) := by
  have hF := mg_freeC hw hA hC
  refine va_calli hr hw.2.2 (fun q _ h => hF q h) hF (fun r u t H1 locs1 ht _ hp hB _ hk hS => ?_)
  have hP1 := hB.1
  rw [ht] at hP1
  have hj := mg_join hw hC (had u) hk hP1
  rw [hw1 u] at hj
  exact kk r u H1 locs1 hp ⟨hj.1, hj.2, hS⟩
end MC
end
section
section MD
variable {p : Program} {l : Launch} {e : Env} {R : Room} {s : State} {m : MethodId} {args : Array Value} {below : List Frame} {meth : Method} {c : Code} {H : Heap} {locs : List Loc} {cells slots : Nat} {Q : State → Prop}
variable {cc c1 : ByteArray} {nL pc n1 n index : Nat} {own : String} {ls : Array Slot} {rest As st0 : List Value} {D : va_G} {K : Nat → ClassId} {A : Nat → Prop} {ws wc : va_W} {b : Nat} {y : MethodName} {rm : Room} {ret : FieldType}
theorem mg_callVv {S : Type} {post : S → Prop} {wc' : S → va_W} (X : CallFix p m c cc nL s args mg_T own) (hK : mg_K D K s) (hw : mg_H D A s.heap H locs ws) (hA : ∀ q, s.heap.size ≤ q → A q) (pc' : Nat) (isC : List Nat) (q0 : Nat) (w1 : S → va_W) {ci N : Nat} {T : u_T} {fs : List Value} (hb : ws[q0]? = some (mg_ob b ci fs)) (hcl : mg_CL[ci]? = some (y.cls, T, N))
    (hM : mg_Mv l D K y c1 n1 rm (.ref b :: As) wc post wc') (hc : mg_CV own index y c1 n1 none n) (hR : rm.frames + 1 ≤ R.frames ∧ 8 + (n1 + 11) + rm.locals ≤ R.locals)
    (hrc : rm.cells = 0 ∧ rm.slots = 0) (hC : isC.map (fun i => ws[i]?) = wc.map some) (hnd : va_nd isC = true) (hn : As.length = n) (hls : ls.size = nL) (hst : st0 = As.reverse ++ .ref b :: rest) (hcat : (rest.map fun v => v.category).sum ≤ 8) (hdg : decode cc pc = .ok (.invokevirtual index, 3)) (hf : cells ≤ R.cells ∧ slots ≤ R.slots)
    (had : ∀ u, (wc' u).map (fun q => q.1) = wc.map (fun q => q.1)) (hw1 : ∀ u, mg_pt ws isC (wc' u) = w1 u) (hq : pc + 3 = pc')
    (kk : ∀ (u : S) (H1 : Heap) (locs1 : List Loc), post u → mg_H D A s.heap H1 locs1 (w1 u) → W p l e R s m args below meth c H1 locs1 cells slots Q (F0 m pc' ls rest)) : W p l e R s m args below meth c H locs cells slots Q (F0 m pc ls st0) := by
  subst hq
  exact mg_backv hw hA isC w1 hC had hw1 (mg_runV X hK hw isC q0 hb hcl (hM H.size) hc hrc.1 hrc.2 hR hC hnd hn hls hst hcat hdg hf) kk
theorem mg_callVi {S : Type} {post : Int32 → S → Prop} {wc' : S → va_W} (X : CallFix p m c cc nL s args mg_T own) (hK : mg_K D K s) (hw : mg_H D A s.heap H locs ws) (hA : ∀ q, s.heap.size ≤ q → A q) (pc' : Nat) (isC : List Nat) (q0 : Nat) (w1 : S → va_W) {ci N : Nat} {T : u_T} {fs : List Value} (hb : ws[q0]? = some (mg_ob b ci fs)) (hcl : mg_CL[ci]? = some (y.cls, T, N))
    (hM : mg_Mi l D K y c1 n1 ret rm (.ref b :: As) wc post wc') (hc : mg_CV own index y c1 n1 (some ret) n) (hR : rm.frames + 1 ≤ R.frames ∧ 8 + (n1 + 11) + rm.locals ≤ R.locals)
    (hrc : rm.cells = 0 ∧ rm.slots = 0) (hC : isC.map (fun i => ws[i]?) = wc.map some) (hnd : va_nd isC = true) (hn : As.length = n) (hls : ls.size = nL) (hst : st0 = As.reverse ++ .ref b :: rest) (hcat : (rest.map fun v => v.category).sum ≤ 8) (hdg : decode cc pc = .ok (.invokevirtual index, 3)) (hf : cells ≤ R.cells ∧ slots ≤ R.slots)
    (had : ∀ u, (wc' u).map (fun q => q.1) = wc.map (fun q => q.1)) (hw1 : ∀ u, mg_pt ws isC (wc' u) = w1 u) (hq : pc + 3 = pc')
    (kk : ∀ (r : Int32) (u : S) (H1 : Heap) (locs1 : List Loc), post r u → mg_H D A s.heap H1 locs1 (w1 u) → W p l e R s m args below meth c H1 locs1 cells slots Q (F0 m pc' ls (.int r :: rest))) : W p l e R s m args below meth c H locs cells slots Q (F0 m pc ls st0) := by
  subst hq
  exact mg_backi hw hA isC w1 hC had hw1 (mg_runV X hK hw isC q0 hb hcl (hM H.size) hc hrc.1 hrc.2 hR hC hnd hn hls hst hcat hdg hf) kk
theorem mg_callSv {S : Type} {post : S → Prop} {wc' : S → va_W} (X : CallFix p m c cc nL s args mg_T own) (hK : mg_K D K s) (hw : mg_H D A s.heap H locs ws) (hA : ∀ q, s.heap.size ≤ q → A q) (pc' : Nat) (isC : List Nat) (w1 : S → va_W)
    (hM : mg_Mv l D K y c1 n1 rm As wc post wc') (hc : mg_CS own index y c1 n1 none n) (hR : rm.frames + 1 ≤ R.frames ∧ 8 + (n1 + 11) + rm.locals ≤ R.locals)
    (hrc : rm.cells = 0 ∧ rm.slots = 0) (hC : isC.map (fun i => ws[i]?) = wc.map some) (hnd : va_nd isC = true) (hn : As.length = n) (hls : ls.size = nL) (hst : st0 = As.reverse ++ rest) (hcat : (rest.map fun v => v.category).sum ≤ 8) (hdg : decode cc pc = .ok (.invokestatic index, 3)) (hf : cells ≤ R.cells ∧ slots ≤ R.slots)
    (had : ∀ u, (wc' u).map (fun q => q.1) = wc.map (fun q => q.1)) (hw1 : ∀ u, mg_pt ws isC (wc' u) = w1 u) (hq : pc + 3 = pc')
    (kk : ∀ (u : S) (H1 : Heap) (locs1 : List Loc), post u → mg_H D A s.heap H1 locs1 (w1 u) → W p l e R s m args below meth c H1 locs1 cells slots Q (F0 m pc' ls rest)) : W p l e R s m args below meth c H locs cells slots Q (F0 m pc ls st0) := by
  subst hq
  exact mg_backv hw hA isC w1 hC had hw1 (mg_runS X hK hw isC (hM H.size) hc hrc.1 hrc.2 hR hC hnd hn hls hst hcat hdg hf) kk
theorem mg_callSi {S : Type} {post : Int32 → S → Prop} {wc' : S → va_W} (X : CallFix p m c cc nL s args mg_T own) (hK : mg_K D K s) (hw : mg_H D A s.heap H locs ws) (hA : ∀ q, s.heap.size ≤ q → A q) (pc' : Nat) (isC : List Nat) (w1 : S → va_W)
    (hM : mg_Mi l D K y c1 n1 ret rm As wc post wc') (hc : mg_CS own index y c1 n1 (some ret) n) (hR : rm.frames + 1 ≤ R.frames ∧ 8 + (n1 + 11) + rm.locals ≤ R.locals)
    (hrc : rm.cells = 0 ∧ rm.slots = 0) (hC : isC.map (fun i => ws[i]?) = wc.map some) (hnd : va_nd isC = true) (hn : As.length = n) (hls : ls.size = nL) (hst : st0 = As.reverse ++ rest) (hcat : (rest.map fun v => v.category).sum ≤ 8) (hdg : decode cc pc = .ok (.invokestatic index, 3)) (hf : cells ≤ R.cells ∧ slots ≤ R.slots)
    (had : ∀ u, (wc' u).map (fun q => q.1) = wc.map (fun q => q.1)) (hw1 : ∀ u, mg_pt ws isC (wc' u) = w1 u) (hq : pc + 3 = pc')
    (kk : ∀ (r : Int32) (u : S) (H1 : Heap) (locs1 : List Loc), post r u → mg_H D A s.heap H1 locs1 (w1 u) → W p l e R s m args below meth c H1 locs1 cells slots Q (F0 m pc' ls (.int r :: rest))) : W p l e R s m args below meth c H locs cells slots Q (F0 m pc ls st0) := by
  subst hq
  exact mg_backi hw hA isC w1 hC had hw1 (mg_runS X hK hw isC (hM H.size) hc hrc.1 hrc.2 hR hC hnd hn hls hst hcat hdg hf) kk
/-- truth values, counting down, negative numbers -/
theorem mg_ft1 (P : Prop) : ft_c P < 2 := by
  by_cases h : P
  · rw [ft_c1 h]; omega
  · rw [ft_c0 h]; omega
theorem mg_bif_eq (X : CallFix p m c cc nL s args mg_T own) (tgt pc' : Nat) {P : Prop} {off : Int} (hdg : decode cc pc = .ok (.ifCond .eq off, 3)) (ht : (pc : Int) + off = (tgt : Int)) (hq : pc + 3 = pc') (kt : ¬ P → W p l e R s m args below meth c H locs cells slots Q (F0 m tgt ls rest)) (kf : P → W p l e R s m args below meth c H locs cells slots Q (F0 m pc' ls rest)) : W p l e R s m args below meth c H locs cells slots Q (F0 m pc ls (.int (nI (ft_c P)) :: rest)) :=
  mg_if_eq X tgt pc' (Nat.lt_trans (mg_ft1 P) (by decide)) hdg ht hq (fun h => kt (fun hp => by rw [ft_c1 hp] at h; omega)) (fun h => kf (Classical.not_not.mp (fun hp => h (ft_c0 hp))))
theorem mg_bif_ne (X : CallFix p m c cc nL s args mg_T own) (tgt pc' : Nat) {P : Prop} {off : Int} (hdg : decode cc pc = .ok (.ifCond .ne off, 3)) (ht : (pc : Int) + off = (tgt : Int)) (hq : pc + 3 = pc') (kt : P → W p l e R s m args below meth c H locs cells slots Q (F0 m tgt ls rest)) (kf : ¬ P → W p l e R s m args below meth c H locs cells slots Q (F0 m pc' ls rest)) : W p l e R s m args below meth c H locs cells slots Q (F0 m pc ls (.int (nI (ft_c P)) :: rest)) :=
  mg_if_ne X tgt pc' (Nat.lt_trans (mg_ft1 P) (by decide)) hdg ht hq (fun h => kt (Classical.not_not.mp (fun hp => h (ft_c0 hp)))) (fun h => kf (fun hp => by rw [ft_c1 hp] at h; omega))
theorem mg_inc1 (a : Nat) : nI a + Int32.ofInt 1 = nI (a + 1) := (nI_succ a).symm
theorem mg_incn (a n : Nat) : nI a + Int32.ofInt n = nI (a + n) := by
  rw [← nI_add]; rfl
def mg_dn : Nat → Int32
  | 0 => nI 4294967295
  | j + 1 => nI j
theorem mg_dn_eq (a : Nat) : nI a + Int32.ofInt (-1) = mg_dn a := by
  cases a with
  | zero => decide +kernel
  | succ j => exact pk_m1 j
theorem mg_dec1 {a : Nat} (h : 0 < a) : nI a + Int32.ofInt (-1) = nI (a - 1) := by
  obtain ⟨j, rfl⟩ : ∃ j, a = j + 1 := ⟨a - 1, by omega⟩
  exact pk_m1 j
theorem mg_iincD (X : CallFix p m c cc nL s args mg_T own) (pc' : Nat) (lv' : List (Nat × Value)) {i k v : Nat} {lv : List (Nat × Value)} (hdg : decode cc pc = .ok (.iinc i (-1), 3)) (h : lv_has ls nL lv) (hk : lv[k]? = some (i, .int (nI v))) (hn : i < nL) (hl : (i, Value.int (mg_dn v)) :: lv.filter (fun q => !(q.1 == i) && !(q.1 + 1 == i && q.2.category == 2)) = lv') (hq : pc + 3 = pc') (kk : ∀ ls' : Array Slot, lv_has ls' nL lv' → W p l e R s m args below meth c H locs cells slots Q (F0 m pc' ls' rest)) : W p l e R s m args below meth c H locs cells slots Q (F0 m pc ls rest) := by
  subst hq
  exact lv_iinc X.1 X.2.1 hdg h hk (mg_dn_eq v) hn hl kk
theorem mg_m1 : nI 4294967295 < 0 := by decide +kernel
theorem mg_iflt_y (X : CallFix p m c cc nL s args mg_T own) (tgt : Nat) {off : Int} (hdg : decode cc pc = .ok (.ifCond .lt off, 3)) (ht : (pc : Int) + off = (tgt : Int)) (kt : W p l e R s m args below meth c H locs cells slots Q (F0 m tgt ls rest)) : W p l e R s m args below meth c H locs cells slots Q (F0 m pc ls (.int (nI 4294967295) :: rest)) :=
  lv_if_lt X.1 X.2.1 hdg ht (fun _ => kt) (fun h => absurd mg_m1 h)
theorem mg_iflt_n (X : CallFix p m c cc nL s args mg_T own) (pc' : Nat) {a : Nat} (ha : a < 2 ^ 31) {off : Int} {tgt : Nat} (hdg : decode cc pc = .ok (.ifCond .lt off, 3)) (ht : (pc : Int) + off = (tgt : Int)) (hq : pc + 3 = pc') (kf : W p l e R s m args below meth c H locs cells slots Q (F0 m pc' ls rest)) : W p l e R s m args below meth c H locs cells slots Q (F0 m pc ls (.int (nI a) :: rest)) := by
  subst hq
  exact lv_if_lt X.1 X.2.1 hdg ht (fun h => absurd h (nI_pos ha)) (fun _ => kf)
end MD
/-! Shifts and masks of naturals. -/
theorem mg_sl : ∀ n, n < 32 → ((nI n &&& 31).toBitVec.smod 32).toNat = n := by decide +kernel
theorem mg_shl {b : Nat} (hb : b < 31) : nI 1 <<< (nI b &&& 31) = nI (2 ^ b) := by
  have h : 2 ^ b < 2 ^ 31 := Nat.pow_lt_pow_right (by decide) hb
  rw [pk_shlN (n := 1) _ b (mg_sl b (by omega)) (by omega), Nat.one_mul]
theorem mg_shr {w e : Nat} (hw : w < 2 ^ 31) (he : e < 32) : nI w >>> (nI e &&& 31) = nI (w / 2 ^ e) := pk_shrN hw _ e (mg_sl e he)
theorem mg_and1 {x : Nat} (hx : x < 2 ^ 32) : nI x &&& nI 1 = nI (x % 2) := pk_andN hx 1 (by decide +kernel)
theorem mg_tb {w b : Nat} : w / 2 ^ b % 2 = 1 ↔ w.testBit b = true := by
  rw [Nat.testBit_eq_decide_div_mod_eq]; simp
theorem mg_tb0 {w b : Nat} : w / 2 ^ b % 2 = 0 ↔ w.testBit b = false := by
  rw [Nat.testBit_eq_decide_div_mod_eq]
  have := Nat.mod_lt (w / 2 ^ b) (show 0 < 2 by decide)
  constructor
  · intro h; rw [h]; rfl
  · intro h
    have h2 : ¬ w / 2 ^ b % 2 = 1 := by simpa using h
    omega
theorem mg_and (a b : Nat) : nI a &&& nI b = nI (a &&& b) := by
  apply Int32.toBitVec_inj.mp
  apply BitVec.eq_of_toNat_eq
  show ((BitVec.ofNat 32 a) &&& (BitVec.ofNat 32 b)).toNat = (BitVec.ofNat 32 (a &&& b)).toNat
  rw [BitVec.toNat_and, BitVec.toNat_ofNat, BitVec.toNat_ofNat, BitVec.toNat_ofNat]
  exact (Nat.and_mod_two_pow ..).symm
theorem mg_or (a b : Nat) : nI a ||| nI b = nI (a ||| b) := by
  apply Int32.toBitVec_inj.mp
  apply BitVec.eq_of_toNat_eq
  show ((BitVec.ofNat 32 a) ||| (BitVec.ofNat 32 b)).toNat = (BitVec.ofNat 32 (a ||| b)).toNat
  rw [BitVec.toNat_or, BitVec.toNat_ofNat, BitVec.toNat_ofNat, BitVec.toNat_ofNat]
  exact (Nat.or_mod_two_pow ..).symm
theorem mg_xor (a b : Nat) : nI a ^^^ nI b = nI (a ^^^ b) := by
  apply Int32.toBitVec_inj.mp
  apply BitVec.eq_of_toNat_eq
  show ((BitVec.ofNat 32 a) ^^^ (BitVec.ofNat 32 b)).toNat = (BitVec.ofNat 32 (a ^^^ b)).toNat
  rw [BitVec.toNat_xor, BitVec.toNat_ofNat, BitVec.toNat_ofNat, BitVec.toNat_ofNat]
  exact (Nat.xor_mod_two_pow ..).symm
theorem mg_andp {w b : Nat} : w &&& 2 ^ b = 0 ↔ w.testBit b = false := by
  constructor
  · intro h
    have h1 : (w &&& 2 ^ b).testBit b = false := by rw [h]; simp
    rw [Nat.testBit_and, Nat.testBit_two_pow_self, Bool.and_true] at h1
    exact h1
  · intro h
    apply Nat.eq_of_testBit_eq
    intro i
    rw [Nat.testBit_and, Nat.testBit_two_pow, Nat.zero_testBit]
    by_cases e : b = i
    · subst e; rw [h]; rfl
    · simp [e]
theorem mg_orx {w b : Nat} (h : w.testBit b = false) : w ||| 2 ^ b = w ^^^ 2 ^ b := by
  apply Nat.eq_of_testBit_eq
  intro i
  rw [Nat.testBit_or, Nat.testBit_xor, Nat.testBit_two_pow]
  by_cases e : b = i
  · subst e; rw [h]; simp
  · simp [e]
section ME
variable {p : Program} {l : Launch} {e : Env} {R : Room} {s : State} {m : MethodId} {args : Array Value} {below : List Frame} {meth : Method} {c : Code} {H : Heap} {locs : List Loc} {cells slots : Nat} {Q : State → Prop}
variable {cc : ByteArray} {nL pc : Nat} {own : String} {ls : Array Slot} {rest : List Value}
theorem mg_lcmp_eq (X : CallFix p m c cc nL s args mg_T own) (tgt pc' : Nat) {a b : Nat} (ha : a < 2 ^ 63) (hb : b < 2 ^ 63) {off : Int} (hd1 : decode cc pc = .ok (.lcmp, 1)) (hd2 : decode cc (pc + 1) = .ok (.ifCond .eq off, 3)) (ht : ((pc + 1 : Nat) : Int) + off = (tgt : Int)) (hq : pc + 1 + 3 = pc') (kt : a = b → W p l e R s m args below meth c H locs cells slots Q (F0 m tgt ls rest)) (kf : a ≠ b → W p l e R s m args below meth c H locs cells slots Q (F0 m pc' ls rest)) : W p l e R s m args below meth c H locs cells slots Q (F0 m pc ls (.long (lN b) :: .long (lN a) :: rest)) := by
  subst hq
  refine W.lcmp X.1 X.2.1 hd1 ?_
  exact lv_if_eq X.1 X.2.1 hd2 ht (fun h => kt ((pk_lEQ ha hb).mp ((lg_cmp_eq _ _).mp h))) (fun h => kf (fun q => h ((lg_cmp_eq _ _).mpr ((pk_lEQ ha hb).mpr q))))
theorem mg_lcmp_ne (X : CallFix p m c cc nL s args mg_T own) (tgt pc' : Nat) {a b : Nat} (ha : a < 2 ^ 63) (hb : b < 2 ^ 63) {off : Int} (hd1 : decode cc pc = .ok (.lcmp, 1)) (hd2 : decode cc (pc + 1) = .ok (.ifCond .ne off, 3)) (ht : ((pc + 1 : Nat) : Int) + off = (tgt : Int)) (hq : pc + 1 + 3 = pc') (kt : a ≠ b → W p l e R s m args below meth c H locs cells slots Q (F0 m tgt ls rest)) (kf : a = b → W p l e R s m args below meth c H locs cells slots Q (F0 m pc' ls rest)) : W p l e R s m args below meth c H locs cells slots Q (F0 m pc ls (.long (lN b) :: .long (lN a) :: rest)) := by
  subst hq
  refine W.lcmp X.1 X.2.1 hd1 ?_
  exact lv_if_ne X.1 X.2.1 hd2 ht (fun h => kt (fun q => h ((lg_cmp_eq _ _).mpr ((pk_lEQ ha hb).mpr q)))) (fun h => kf ((pk_lEQ ha hb).mp ((lg_cmp_eq _ _).mp h)))
theorem mg_lcmp_le (X : CallFix p m c cc nL s args mg_T own) (tgt pc' : Nat) {a b : Nat} (ha : a < 2 ^ 63) (hb : b < 2 ^ 63) {off : Int} (hd1 : decode cc pc = .ok (.lcmp, 1)) (hd2 : decode cc (pc + 1) = .ok (.ifCond .le off, 3)) (ht : ((pc + 1 : Nat) : Int) + off = (tgt : Int)) (hq : pc + 1 + 3 = pc') (kt : a ≤ b → W p l e R s m args below meth c H locs cells slots Q (F0 m tgt ls rest)) (kf : b < a → W p l e R s m args below meth c H locs cells slots Q (F0 m pc' ls rest)) : W p l e R s m args below meth c H locs cells slots Q (F0 m pc ls (.long (lN b) :: .long (lN a) :: rest)) := by
  subst hq
  refine W.lcmp X.1 X.2.1 hd1 ?_
  exact lv_if_le X.1 X.2.1 hd2 ht (fun h => kt ((pk_lLE ha hb).mp ((lg_cmp_le _ _).mp h))) (fun h => kf (Nat.not_le.mp (fun q => h ((lg_cmp_le _ _).mpr ((pk_lLE ha hb).mpr q)))))
theorem mg_lcmp_ge (X : CallFix p m c cc nL s args mg_T own) (tgt pc' : Nat) {a b : Nat} (ha : a < 2 ^ 63) (hb : b < 2 ^ 63) {off : Int} (hd1 : decode cc pc = .ok (.lcmp, 1)) (hd2 : decode cc (pc + 1) = .ok (.ifCond .ge off, 3)) (ht : ((pc + 1 : Nat) : Int) + off = (tgt : Int)) (hq : pc + 1 + 3 = pc') (kt : b ≤ a → W p l e R s m args below meth c H locs cells slots Q (F0 m tgt ls rest)) (kf : a < b → W p l e R s m args below meth c H locs cells slots Q (F0 m pc' ls rest)) : W p l e R s m args below meth c H locs cells slots Q (F0 m pc ls (.long (lN b) :: .long (lN a) :: rest)) := by
  subst hq
  refine W.lcmp X.1 X.2.1 hd1 ?_
  exact lv_if_ge X.1 X.2.1 hd2 ht (fun h => kt ((pk_lLE hb ha).mp ((lg_cmp_ge _ _).mp h))) (fun h => kf (Nat.not_le.mp (fun q => h ((lg_cmp_ge _ _).mpr ((pk_lLE hb ha).mpr q)))))
theorem mg_lcmp_gt (X : CallFix p m c cc nL s args mg_T own) (tgt pc' : Nat) {a b : Nat} (ha : a < 2 ^ 63) (hb : b < 2 ^ 63) {off : Int} (hd1 : decode cc pc = .ok (.lcmp, 1)) (hd2 : decode cc (pc + 1) = .ok (.ifCond .gt off, 3)) (ht : ((pc + 1 : Nat) : Int) + off = (tgt : Int)) (hq : pc + 1 + 3 = pc') (kt : b < a → W p l e R s m args below meth c H locs cells slots Q (F0 m tgt ls rest)) (kf : a ≤ b → W p l e R s m args below meth c H locs cells slots Q (F0 m pc' ls rest)) : W p l e R s m args below meth c H locs cells slots Q (F0 m pc ls (.long (lN b) :: .long (lN a) :: rest)) := by
  subst hq
  refine W.lcmp X.1 X.2.1 hd1 ?_
  exact lv_if_gt X.1 X.2.1 hd2 ht (fun h => kt ((pk_lLT hb ha).mp ((lg_cmp_gt _ _).mp h))) (fun h => kf (Nat.not_lt.mp (fun q => h ((lg_cmp_gt _ _).mpr ((pk_lLT hb ha).mpr q)))))
theorem mg_lcmp_lt (X : CallFix p m c cc nL s args mg_T own) (tgt pc' : Nat) {a b : Nat} (ha : a < 2 ^ 63) (hb : b < 2 ^ 63) {off : Int} (hd1 : decode cc pc = .ok (.lcmp, 1)) (hd2 : decode cc (pc + 1) = .ok (.ifCond .lt off, 3)) (ht : ((pc + 1 : Nat) : Int) + off = (tgt : Int)) (hq : pc + 1 + 3 = pc') (kt : a < b → W p l e R s m args below meth c H locs cells slots Q (F0 m tgt ls rest)) (kf : b ≤ a → W p l e R s m args below meth c H locs cells slots Q (F0 m pc' ls rest)) : W p l e R s m args below meth c H locs cells slots Q (F0 m pc ls (.long (lN b) :: .long (lN a) :: rest)) := by
  subst hq
  refine W.lcmp X.1 X.2.1 hd1 ?_
  exact lv_if_lt X.1 X.2.1 hd2 ht (fun h => kt ((pk_lLT ha hb).mp ((lg_cmp_lt _ _).mp h))) (fun h => kf (Nat.not_lt.mp (fun q => h ((lg_cmp_lt _ _).mpr ((pk_lLT ha hb).mpr q)))))
end ME
end
section
theorem mg_inws {C : String} {T : u_T} {N : Nat} (is : List Nat) (h : u_ws C T N = is.filterMap (fun i => lw_tbl[i]?)) (hg : (u_ws C T N).all goodWord = true) : ∀ w ∈ u_ws C T N, w ∈ mg_T := fun w hw => by
  have h1 := List.all_eq_true.mp hg w hw
  rw [h] at hw
  obtain ⟨i, -, hi⟩ := List.mem_filterMap.mp hw
  exact mg_in i hi h1
set_option maxRecDepth 20000 in
theorem in_Am : ∀ w ∈ u_ws R_Am T_Am 1, w ∈ mg_T := mg_inws [144] (by decide +kernel) (by decide +kernel)
set_option maxRecDepth 20000 in
theorem in_Fa : ∀ w ∈ u_ws R_Fa T_Fa 5, w ∈ mg_T := mg_inws [69, 71, 73, 75, 77] (by decide +kernel) (by decide +kernel)
set_option maxRecDepth 20000 in
theorem in_Ma : ∀ w ∈ u_ws R_Ma T_Ma 6, w ∈ mg_T := mg_inws [99, 101, 103, 105, 107, 109] (by decide +kernel) (by decide +kernel)
set_option maxRecDepth 20000 in
theorem in_Fi : ∀ w ∈ u_ws R_Fi T_Fi 4, w ∈ mg_T := mg_inws [122, 124, 126, 128] (by decide +kernel) (by decide +kernel)
set_option maxRecDepth 20000 in
theorem in_Su : ∀ w ∈ u_ws R_Su T_Su 8, w ∈ mg_T := mg_inws [157, 159, 161, 163, 165, 167, 169, 171] (by decide +kernel) (by decide +kernel)
set_option maxRecDepth 20000 in
theorem in_LM : ∀ w ∈ u_ws R_LM T_LM 6, w ∈ mg_T := mg_inws [180, 182, 184, 186, 188, 190] (by decide +kernel) (by decide +kernel)
set_option maxRecDepth 20000 in
theorem in_Mo : ∀ w ∈ u_ws R_Mo T_Mo 26, w ∈ mg_T := mg_inws [681, 683, 685, 687, 689, 691, 693, 695, 697, 699, 701, 703, 705, 707, 709, 711, 713, 715, 717, 719, 721, 723, 725, 727, 729, 731] (by decide +kernel) (by decide +kernel)
end
section
theorem mg_cb_6 : (Int8.ofInt (6)).toInt32 = nI 6 := by decide +kernel
theorem mg_cb_16 : (Int8.ofInt (16)).toInt32 = nI 16 := by decide +kernel
theorem mg_ci_m1 : Int32.ofInt (-1) = nI 4294967295 := by decide +kernel
theorem mg_ci_0 : Int32.ofInt (0) = nI 0 := by decide +kernel
theorem mg_ci_1 : Int32.ofInt (1) = nI 1 := by decide +kernel
theorem mg_ci_5 : Int32.ofInt (5) = nI 5 := by decide +kernel
theorem f_Am_11 : mg_F "LinkedMarkers$Amounts" 11 0 0 := ⟨R_Am, T_Am, 1, rfl, by decide, in_Am, rfl, Or.inl (mg_in 143 (by decide +kernel) (by decide +kernel))⟩
theorem cw_Am_15 : Cond.constantLong "LinkedMarkers$Amounts" 15 1000000000 ∈ mg_T := mg_in 517 (by decide +kernel) (by decide +kernel)
end
section
theorem d_Am_set_0 : decode b_Am_set 0 = .ok (.iload_n 1, 1) := by decide +kernel
theorem d_Am_set_1 : decode b_Am_set 1 = .ok (.bipush 6, 2) := by decide +kernel
theorem d_Am_set_3 : decode b_Am_set 3 = .ok (.imul, 1) := by decide +kernel
theorem d_Am_set_4 : decode b_Am_set 4 = .ok (.istore_n 3, 1) := by decide +kernel
theorem d_Am_set_5 : decode b_Am_set 5 = .ok (.aload_n 0, 1) := by decide +kernel
theorem d_Am_set_6 : decode b_Am_set 6 = .ok (.getfield 11, 3) := by decide +kernel
theorem d_Am_set_9 : decode b_Am_set 9 = .ok (.iload_n 3, 1) := by decide +kernel
theorem d_Am_set_10 : decode b_Am_set 10 = .ok (.iload_n 2, 1) := by decide +kernel
theorem d_Am_set_11 : decode b_Am_set 11 = .ok (.i2l, 1) := by decide +kernel
theorem d_Am_set_12 : decode b_Am_set 12 = .ok (.lastore, 1) := by decide +kernel
theorem d_Am_set_13 : decode b_Am_set 13 = .ok (.iconst 1, 1) := by decide +kernel
theorem d_Am_set_14 : decode b_Am_set 14 = .ok (.istore 4, 2) := by decide +kernel
theorem d_Am_set_16 : decode b_Am_set 16 = .ok (.iload 4, 2) := by decide +kernel
theorem d_Am_set_18 : decode b_Am_set 18 = .ok (.bipush 6, 2) := by decide +kernel
theorem d_Am_set_20 : decode b_Am_set 20 = .ok (.if_icmp .ge 19, 3) := by decide +kernel
theorem d_Am_set_23 : decode b_Am_set 23 = .ok (.aload_n 0, 1) := by decide +kernel
theorem d_Am_set_24 : decode b_Am_set 24 = .ok (.getfield 11, 3) := by decide +kernel
theorem d_Am_set_27 : decode b_Am_set 27 = .ok (.iload_n 3, 1) := by decide +kernel
theorem d_Am_set_28 : decode b_Am_set 28 = .ok (.iload 4, 2) := by decide +kernel
theorem d_Am_set_30 : decode b_Am_set 30 = .ok (.iadd, 1) := by decide +kernel
theorem d_Am_set_31 : decode b_Am_set 31 = .ok (.lconst 0, 1) := by decide +kernel
theorem d_Am_set_32 : decode b_Am_set 32 = .ok (.lastore, 1) := by decide +kernel
theorem d_Am_set_33 : decode b_Am_set 33 = .ok (.iinc 4 1, 3) := by decide +kernel
theorem d_Am_set_36 : decode b_Am_set 36 = .ok (.goto (-20), 3) := by decide +kernel
theorem d_Am_set_39 : decode b_Am_set 39 = .ok (.return_, 1) := by decide +kernel
theorem d_Am_copy_0 : decode b_Am_copy 0 = .ok (.iconst 0, 1) := by decide +kernel
theorem d_Am_copy_1 : decode b_Am_copy 1 = .ok (.istore_n 3, 1) := by decide +kernel
theorem d_Am_copy_2 : decode b_Am_copy 2 = .ok (.iload_n 3, 1) := by decide +kernel
theorem d_Am_copy_3 : decode b_Am_copy 3 = .ok (.bipush 6, 2) := by decide +kernel
theorem d_Am_copy_5 : decode b_Am_copy 5 = .ok (.if_icmp .ge 31, 3) := by decide +kernel
theorem d_Am_copy_8 : decode b_Am_copy 8 = .ok (.aload_n 0, 1) := by decide +kernel
theorem d_Am_copy_9 : decode b_Am_copy 9 = .ok (.getfield 11, 3) := by decide +kernel
theorem d_Am_copy_12 : decode b_Am_copy 12 = .ok (.iload_n 1, 1) := by decide +kernel
theorem d_Am_copy_13 : decode b_Am_copy 13 = .ok (.bipush 6, 2) := by decide +kernel
theorem d_Am_copy_15 : decode b_Am_copy 15 = .ok (.imul, 1) := by decide +kernel
theorem d_Am_copy_16 : decode b_Am_copy 16 = .ok (.iload_n 3, 1) := by decide +kernel
theorem d_Am_copy_17 : decode b_Am_copy 17 = .ok (.iadd, 1) := by decide +kernel
theorem d_Am_copy_18 : decode b_Am_copy 18 = .ok (.aload_n 0, 1) := by decide +kernel
theorem d_Am_copy_19 : decode b_Am_copy 19 = .ok (.getfield 11, 3) := by decide +kernel
theorem d_Am_copy_22 : decode b_Am_copy 22 = .ok (.iload_n 2, 1) := by decide +kernel
theorem d_Am_copy_23 : decode b_Am_copy 23 = .ok (.bipush 6, 2) := by decide +kernel
theorem d_Am_copy_25 : decode b_Am_copy 25 = .ok (.imul, 1) := by decide +kernel
theorem d_Am_copy_26 : decode b_Am_copy 26 = .ok (.iload_n 3, 1) := by decide +kernel
theorem d_Am_copy_27 : decode b_Am_copy 27 = .ok (.iadd, 1) := by decide +kernel
theorem d_Am_copy_28 : decode b_Am_copy 28 = .ok (.laload, 1) := by decide +kernel
theorem d_Am_copy_29 : decode b_Am_copy 29 = .ok (.lastore, 1) := by decide +kernel
theorem d_Am_copy_30 : decode b_Am_copy 30 = .ok (.iinc 3 1, 3) := by decide +kernel
theorem d_Am_copy_33 : decode b_Am_copy 33 = .ok (.goto (-31), 3) := by decide +kernel
theorem d_Am_copy_36 : decode b_Am_copy 36 = .ok (.return_, 1) := by decide +kernel
theorem d_Am_add_0 : decode b_Am_add 0 = .ok (.lconst 0, 1) := by decide +kernel
theorem d_Am_add_1 : decode b_Am_add 1 = .ok (.lstore 4, 2) := by decide +kernel
theorem d_Am_add_3 : decode b_Am_add 3 = .ok (.iconst 0, 1) := by decide +kernel
theorem d_Am_add_4 : decode b_Am_add 4 = .ok (.istore 6, 2) := by decide +kernel
theorem d_Am_add_6 : decode b_Am_add 6 = .ok (.iload 6, 2) := by decide +kernel
theorem d_Am_add_8 : decode b_Am_add 8 = .ok (.bipush 6, 2) := by decide +kernel
theorem d_Am_add_10 : decode b_Am_add 10 = .ok (.if_icmp .ge 65, 3) := by decide +kernel
theorem d_Am_add_13 : decode b_Am_add 13 = .ok (.aload_n 0, 1) := by decide +kernel
theorem d_Am_add_14 : decode b_Am_add 14 = .ok (.getfield 11, 3) := by decide +kernel
theorem d_Am_add_17 : decode b_Am_add 17 = .ok (.iload_n 1, 1) := by decide +kernel
theorem d_Am_add_18 : decode b_Am_add 18 = .ok (.bipush 6, 2) := by decide +kernel
theorem d_Am_add_20 : decode b_Am_add 20 = .ok (.imul, 1) := by decide +kernel
theorem d_Am_add_21 : decode b_Am_add 21 = .ok (.iload 6, 2) := by decide +kernel
theorem d_Am_add_23 : decode b_Am_add 23 = .ok (.iadd, 1) := by decide +kernel
theorem d_Am_add_24 : decode b_Am_add 24 = .ok (.laload, 1) := by decide +kernel
theorem d_Am_add_25 : decode b_Am_add 25 = .ok (.aload_n 2, 1) := by decide +kernel
theorem d_Am_add_26 : decode b_Am_add 26 = .ok (.getfield 11, 3) := by decide +kernel
theorem d_Am_add_29 : decode b_Am_add 29 = .ok (.iload_n 3, 1) := by decide +kernel
theorem d_Am_add_30 : decode b_Am_add 30 = .ok (.bipush 6, 2) := by decide +kernel
theorem d_Am_add_32 : decode b_Am_add 32 = .ok (.imul, 1) := by decide +kernel
theorem d_Am_add_33 : decode b_Am_add 33 = .ok (.iload 6, 2) := by decide +kernel
theorem d_Am_add_35 : decode b_Am_add 35 = .ok (.iadd, 1) := by decide +kernel
theorem d_Am_add_36 : decode b_Am_add 36 = .ok (.laload, 1) := by decide +kernel
theorem d_Am_add_37 : decode b_Am_add 37 = .ok (.ladd, 1) := by decide +kernel
theorem d_Am_add_38 : decode b_Am_add 38 = .ok (.lload 4, 2) := by decide +kernel
theorem d_Am_add_40 : decode b_Am_add 40 = .ok (.ladd, 1) := by decide +kernel
theorem d_Am_add_41 : decode b_Am_add 41 = .ok (.lstore 7, 2) := by decide +kernel
theorem d_Am_add_43 : decode b_Am_add 43 = .ok (.aload_n 0, 1) := by decide +kernel
theorem d_Am_add_44 : decode b_Am_add 44 = .ok (.getfield 11, 3) := by decide +kernel
theorem d_Am_add_47 : decode b_Am_add 47 = .ok (.iload_n 1, 1) := by decide +kernel
theorem d_Am_add_48 : decode b_Am_add 48 = .ok (.bipush 6, 2) := by decide +kernel
theorem d_Am_add_50 : decode b_Am_add 50 = .ok (.imul, 1) := by decide +kernel
theorem d_Am_add_51 : decode b_Am_add 51 = .ok (.iload 6, 2) := by decide +kernel
theorem d_Am_add_53 : decode b_Am_add 53 = .ok (.iadd, 1) := by decide +kernel
theorem d_Am_add_54 : decode b_Am_add 54 = .ok (.lload 7, 2) := by decide +kernel
theorem d_Am_add_56 : decode b_Am_add 56 = .ok (.ldc2_w 15, 3) := by decide +kernel
theorem d_Am_add_59 : decode b_Am_add 59 = .ok (.lrem, 1) := by decide +kernel
theorem d_Am_add_60 : decode b_Am_add 60 = .ok (.lastore, 1) := by decide +kernel
theorem d_Am_add_61 : decode b_Am_add 61 = .ok (.lload 7, 2) := by decide +kernel
theorem d_Am_add_63 : decode b_Am_add 63 = .ok (.ldc2_w 15, 3) := by decide +kernel
theorem d_Am_add_66 : decode b_Am_add 66 = .ok (.ldiv, 1) := by decide +kernel
theorem d_Am_add_67 : decode b_Am_add 67 = .ok (.lstore 4, 2) := by decide +kernel
theorem d_Am_add_69 : decode b_Am_add 69 = .ok (.iinc 6 1, 3) := by decide +kernel
theorem d_Am_add_72 : decode b_Am_add 72 = .ok (.goto (-66), 3) := by decide +kernel
theorem d_Am_add_75 : decode b_Am_add 75 = .ok (.return_, 1) := by decide +kernel
theorem d_Am_multiply_0 : decode b_Am_multiply 0 = .ok (.iload_n 1, 1) := by decide +kernel
theorem d_Am_multiply_1 : decode b_Am_multiply 1 = .ok (.bipush 6, 2) := by decide +kernel
theorem d_Am_multiply_3 : decode b_Am_multiply 3 = .ok (.imul, 1) := by decide +kernel
theorem d_Am_multiply_4 : decode b_Am_multiply 4 = .ok (.istore_n 3, 1) := by decide +kernel
theorem d_Am_multiply_5 : decode b_Am_multiply 5 = .ok (.lconst 0, 1) := by decide +kernel
theorem d_Am_multiply_6 : decode b_Am_multiply 6 = .ok (.lstore 4, 2) := by decide +kernel
theorem d_Am_multiply_8 : decode b_Am_multiply 8 = .ok (.iconst 0, 1) := by decide +kernel
theorem d_Am_multiply_9 : decode b_Am_multiply 9 = .ok (.istore 6, 2) := by decide +kernel
theorem d_Am_multiply_11 : decode b_Am_multiply 11 = .ok (.iload 6, 2) := by decide +kernel
theorem d_Am_multiply_13 : decode b_Am_multiply 13 = .ok (.bipush 6, 2) := by decide +kernel
theorem d_Am_multiply_15 : decode b_Am_multiply 15 = .ok (.if_icmp .ge 49, 3) := by decide +kernel
theorem d_Am_multiply_18 : decode b_Am_multiply 18 = .ok (.aload_n 0, 1) := by decide +kernel
theorem d_Am_multiply_19 : decode b_Am_multiply 19 = .ok (.getfield 11, 3) := by decide +kernel
theorem d_Am_multiply_22 : decode b_Am_multiply 22 = .ok (.iload_n 3, 1) := by decide +kernel
theorem d_Am_multiply_23 : decode b_Am_multiply 23 = .ok (.iload 6, 2) := by decide +kernel
theorem d_Am_multiply_25 : decode b_Am_multiply 25 = .ok (.iadd, 1) := by decide +kernel
theorem d_Am_multiply_26 : decode b_Am_multiply 26 = .ok (.laload, 1) := by decide +kernel
theorem d_Am_multiply_27 : decode b_Am_multiply 27 = .ok (.iload_n 2, 1) := by decide +kernel
theorem d_Am_multiply_28 : decode b_Am_multiply 28 = .ok (.i2l, 1) := by decide +kernel
theorem d_Am_multiply_29 : decode b_Am_multiply 29 = .ok (.lmul, 1) := by decide +kernel
theorem d_Am_multiply_30 : decode b_Am_multiply 30 = .ok (.lload 4, 2) := by decide +kernel
theorem d_Am_multiply_32 : decode b_Am_multiply 32 = .ok (.ladd, 1) := by decide +kernel
theorem d_Am_multiply_33 : decode b_Am_multiply 33 = .ok (.lstore 7, 2) := by decide +kernel
theorem d_Am_multiply_35 : decode b_Am_multiply 35 = .ok (.aload_n 0, 1) := by decide +kernel
theorem d_Am_multiply_36 : decode b_Am_multiply 36 = .ok (.getfield 11, 3) := by decide +kernel
theorem d_Am_multiply_39 : decode b_Am_multiply 39 = .ok (.iload_n 3, 1) := by decide +kernel
theorem d_Am_multiply_40 : decode b_Am_multiply 40 = .ok (.iload 6, 2) := by decide +kernel
theorem d_Am_multiply_42 : decode b_Am_multiply 42 = .ok (.iadd, 1) := by decide +kernel
theorem d_Am_multiply_43 : decode b_Am_multiply 43 = .ok (.lload 7, 2) := by decide +kernel
theorem d_Am_multiply_45 : decode b_Am_multiply 45 = .ok (.ldc2_w 15, 3) := by decide +kernel
theorem d_Am_multiply_48 : decode b_Am_multiply 48 = .ok (.lrem, 1) := by decide +kernel
theorem d_Am_multiply_49 : decode b_Am_multiply 49 = .ok (.lastore, 1) := by decide +kernel
theorem d_Am_multiply_50 : decode b_Am_multiply 50 = .ok (.lload 7, 2) := by decide +kernel
theorem d_Am_multiply_52 : decode b_Am_multiply 52 = .ok (.ldc2_w 15, 3) := by decide +kernel
theorem d_Am_multiply_55 : decode b_Am_multiply 55 = .ok (.ldiv, 1) := by decide +kernel
theorem d_Am_multiply_56 : decode b_Am_multiply 56 = .ok (.lstore 4, 2) := by decide +kernel
theorem d_Am_multiply_58 : decode b_Am_multiply 58 = .ok (.iinc 6 1, 3) := by decide +kernel
theorem d_Am_multiply_61 : decode b_Am_multiply 61 = .ok (.goto (-50), 3) := by decide +kernel
theorem d_Am_multiply_64 : decode b_Am_multiply 64 = .ok (.return_, 1) := by decide +kernel
theorem d_Am_setProduct_0 : decode b_Am_setProduct 0 = .ok (.iload_n 1, 1) := by decide +kernel
theorem d_Am_setProduct_1 : decode b_Am_setProduct 1 = .ok (.bipush 6, 2) := by decide +kernel
theorem d_Am_setProduct_3 : decode b_Am_setProduct 3 = .ok (.imul, 1) := by decide +kernel
theorem d_Am_setProduct_4 : decode b_Am_setProduct 4 = .ok (.istore 4, 2) := by decide +kernel
theorem d_Am_setProduct_6 : decode b_Am_setProduct 6 = .ok (.lconst 0, 1) := by decide +kernel
theorem d_Am_setProduct_7 : decode b_Am_setProduct 7 = .ok (.lstore 5, 2) := by decide +kernel
theorem d_Am_setProduct_9 : decode b_Am_setProduct 9 = .ok (.iconst 0, 1) := by decide +kernel
theorem d_Am_setProduct_10 : decode b_Am_setProduct 10 = .ok (.istore 7, 2) := by decide +kernel
theorem d_Am_setProduct_12 : decode b_Am_setProduct 12 = .ok (.iload 7, 2) := by decide +kernel
theorem d_Am_setProduct_14 : decode b_Am_setProduct 14 = .ok (.bipush 6, 2) := by decide +kernel
theorem d_Am_setProduct_16 : decode b_Am_setProduct 16 = .ok (.if_icmp .ge 78, 3) := by decide +kernel
theorem d_Am_setProduct_19 : decode b_Am_setProduct 19 = .ok (.iconst 0, 1) := by decide +kernel
theorem d_Am_setProduct_20 : decode b_Am_setProduct 20 = .ok (.istore 8, 2) := by decide +kernel
theorem d_Am_setProduct_22 : decode b_Am_setProduct 22 = .ok (.iload 8, 2) := by decide +kernel
theorem d_Am_setProduct_24 : decode b_Am_setProduct 24 = .ok (.iload 7, 2) := by decide +kernel
theorem d_Am_setProduct_26 : decode b_Am_setProduct 26 = .ok (.if_icmp .gt 38, 3) := by decide +kernel
theorem d_Am_setProduct_29 : decode b_Am_setProduct 29 = .ok (.lload 5, 2) := by decide +kernel
theorem d_Am_setProduct_31 : decode b_Am_setProduct 31 = .ok (.aload_n 2, 1) := by decide +kernel
theorem d_Am_setProduct_32 : decode b_Am_setProduct 32 = .ok (.getfield 11, 3) := by decide +kernel
theorem d_Am_setProduct_35 : decode b_Am_setProduct 35 = .ok (.iload 4, 2) := by decide +kernel
theorem d_Am_setProduct_37 : decode b_Am_setProduct 37 = .ok (.iload 8, 2) := by decide +kernel
theorem d_Am_setProduct_39 : decode b_Am_setProduct 39 = .ok (.iadd, 1) := by decide +kernel
theorem d_Am_setProduct_40 : decode b_Am_setProduct 40 = .ok (.laload, 1) := by decide +kernel
theorem d_Am_setProduct_41 : decode b_Am_setProduct 41 = .ok (.aload_n 3, 1) := by decide +kernel
theorem d_Am_setProduct_42 : decode b_Am_setProduct 42 = .ok (.getfield 11, 3) := by decide +kernel
theorem d_Am_setProduct_45 : decode b_Am_setProduct 45 = .ok (.iload 4, 2) := by decide +kernel
theorem d_Am_setProduct_47 : decode b_Am_setProduct 47 = .ok (.iload 7, 2) := by decide +kernel
theorem d_Am_setProduct_49 : decode b_Am_setProduct 49 = .ok (.iadd, 1) := by decide +kernel
theorem d_Am_setProduct_50 : decode b_Am_setProduct 50 = .ok (.iload 8, 2) := by decide +kernel
theorem d_Am_setProduct_52 : decode b_Am_setProduct 52 = .ok (.isub, 1) := by decide +kernel
theorem d_Am_setProduct_53 : decode b_Am_setProduct 53 = .ok (.laload, 1) := by decide +kernel
theorem d_Am_setProduct_54 : decode b_Am_setProduct 54 = .ok (.lmul, 1) := by decide +kernel
theorem d_Am_setProduct_55 : decode b_Am_setProduct 55 = .ok (.ladd, 1) := by decide +kernel
theorem d_Am_setProduct_56 : decode b_Am_setProduct 56 = .ok (.lstore 5, 2) := by decide +kernel
theorem d_Am_setProduct_58 : decode b_Am_setProduct 58 = .ok (.iinc 8 1, 3) := by decide +kernel
theorem d_Am_setProduct_61 : decode b_Am_setProduct 61 = .ok (.goto (-39), 3) := by decide +kernel
theorem d_Am_setProduct_64 : decode b_Am_setProduct 64 = .ok (.aload_n 0, 1) := by decide +kernel
theorem d_Am_setProduct_65 : decode b_Am_setProduct 65 = .ok (.getfield 11, 3) := by decide +kernel
theorem d_Am_setProduct_68 : decode b_Am_setProduct 68 = .ok (.iload 4, 2) := by decide +kernel
theorem d_Am_setProduct_70 : decode b_Am_setProduct 70 = .ok (.iload 7, 2) := by decide +kernel
theorem d_Am_setProduct_72 : decode b_Am_setProduct 72 = .ok (.iadd, 1) := by decide +kernel
theorem d_Am_setProduct_73 : decode b_Am_setProduct 73 = .ok (.lload 5, 2) := by decide +kernel
theorem d_Am_setProduct_75 : decode b_Am_setProduct 75 = .ok (.ldc2_w 15, 3) := by decide +kernel
theorem d_Am_setProduct_78 : decode b_Am_setProduct 78 = .ok (.lrem, 1) := by decide +kernel
theorem d_Am_setProduct_79 : decode b_Am_setProduct 79 = .ok (.lastore, 1) := by decide +kernel
theorem d_Am_setProduct_80 : decode b_Am_setProduct 80 = .ok (.lload 5, 2) := by decide +kernel
theorem d_Am_setProduct_82 : decode b_Am_setProduct 82 = .ok (.ldc2_w 15, 3) := by decide +kernel
theorem d_Am_setProduct_85 : decode b_Am_setProduct 85 = .ok (.ldiv, 1) := by decide +kernel
theorem d_Am_setProduct_86 : decode b_Am_setProduct 86 = .ok (.lstore 5, 2) := by decide +kernel
theorem d_Am_setProduct_88 : decode b_Am_setProduct 88 = .ok (.iinc 7 1, 3) := by decide +kernel
theorem d_Am_setProduct_91 : decode b_Am_setProduct 91 = .ok (.goto (-79), 3) := by decide +kernel
theorem d_Am_setProduct_94 : decode b_Am_setProduct 94 = .ok (.return_, 1) := by decide +kernel
theorem d_Am_blend_0 : decode b_Am_blend 0 = .ok (.bipush 16, 2) := by decide +kernel
theorem d_Am_blend_2 : decode b_Am_blend 2 = .ok (.iload_n 3, 1) := by decide +kernel
theorem d_Am_blend_3 : decode b_Am_blend 3 = .ok (.isub, 1) := by decide +kernel
theorem d_Am_blend_4 : decode b_Am_blend 4 = .ok (.istore 4, 2) := by decide +kernel
theorem d_Am_blend_6 : decode b_Am_blend 6 = .ok (.lconst 0, 1) := by decide +kernel
theorem d_Am_blend_7 : decode b_Am_blend 7 = .ok (.lstore 5, 2) := by decide +kernel
theorem d_Am_blend_9 : decode b_Am_blend 9 = .ok (.lconst 0, 1) := by decide +kernel
theorem d_Am_blend_10 : decode b_Am_blend 10 = .ok (.lstore 7, 2) := by decide +kernel
theorem d_Am_blend_12 : decode b_Am_blend 12 = .ok (.iconst 0, 1) := by decide +kernel
theorem d_Am_blend_13 : decode b_Am_blend 13 = .ok (.istore 9, 2) := by decide +kernel
theorem d_Am_blend_15 : decode b_Am_blend 15 = .ok (.iload 9, 2) := by decide +kernel
theorem d_Am_blend_17 : decode b_Am_blend 17 = .ok (.bipush 6, 2) := by decide +kernel
theorem d_Am_blend_19 : decode b_Am_blend 19 = .ok (.if_icmp .ge 123, 3) := by decide +kernel
theorem d_Am_blend_22 : decode b_Am_blend 22 = .ok (.aload_n 0, 1) := by decide +kernel
theorem d_Am_blend_23 : decode b_Am_blend 23 = .ok (.getfield 11, 3) := by decide +kernel
theorem d_Am_blend_26 : decode b_Am_blend 26 = .ok (.iload_n 1, 1) := by decide +kernel
theorem d_Am_blend_27 : decode b_Am_blend 27 = .ok (.bipush 6, 2) := by decide +kernel
theorem d_Am_blend_29 : decode b_Am_blend 29 = .ok (.imul, 1) := by decide +kernel
theorem d_Am_blend_30 : decode b_Am_blend 30 = .ok (.iload 9, 2) := by decide +kernel
theorem d_Am_blend_32 : decode b_Am_blend 32 = .ok (.iadd, 1) := by decide +kernel
theorem d_Am_blend_33 : decode b_Am_blend 33 = .ok (.laload, 1) := by decide +kernel
theorem d_Am_blend_34 : decode b_Am_blend 34 = .ok (.lstore 10, 2) := by decide +kernel
theorem d_Am_blend_36 : decode b_Am_blend 36 = .ok (.aload_n 0, 1) := by decide +kernel
theorem d_Am_blend_37 : decode b_Am_blend 37 = .ok (.getfield 11, 3) := by decide +kernel
theorem d_Am_blend_40 : decode b_Am_blend 40 = .ok (.iload_n 2, 1) := by decide +kernel
theorem d_Am_blend_41 : decode b_Am_blend 41 = .ok (.bipush 6, 2) := by decide +kernel
theorem d_Am_blend_43 : decode b_Am_blend 43 = .ok (.imul, 1) := by decide +kernel
theorem d_Am_blend_44 : decode b_Am_blend 44 = .ok (.iload 9, 2) := by decide +kernel
theorem d_Am_blend_46 : decode b_Am_blend 46 = .ok (.iadd, 1) := by decide +kernel
theorem d_Am_blend_47 : decode b_Am_blend 47 = .ok (.laload, 1) := by decide +kernel
theorem d_Am_blend_48 : decode b_Am_blend 48 = .ok (.lstore 12, 2) := by decide +kernel
theorem d_Am_blend_50 : decode b_Am_blend 50 = .ok (.iload 4, 2) := by decide +kernel
theorem d_Am_blend_52 : decode b_Am_blend 52 = .ok (.i2l, 1) := by decide +kernel
theorem d_Am_blend_53 : decode b_Am_blend 53 = .ok (.lload 10, 2) := by decide +kernel
theorem d_Am_blend_55 : decode b_Am_blend 55 = .ok (.lmul, 1) := by decide +kernel
theorem d_Am_blend_56 : decode b_Am_blend 56 = .ok (.iload_n 3, 1) := by decide +kernel
theorem d_Am_blend_57 : decode b_Am_blend 57 = .ok (.i2l, 1) := by decide +kernel
theorem d_Am_blend_58 : decode b_Am_blend 58 = .ok (.lload 12, 2) := by decide +kernel
theorem d_Am_blend_60 : decode b_Am_blend 60 = .ok (.lmul, 1) := by decide +kernel
theorem d_Am_blend_61 : decode b_Am_blend 61 = .ok (.ladd, 1) := by decide +kernel
theorem d_Am_blend_62 : decode b_Am_blend 62 = .ok (.lload 5, 2) := by decide +kernel
theorem d_Am_blend_64 : decode b_Am_blend 64 = .ok (.ladd, 1) := by decide +kernel
theorem d_Am_blend_65 : decode b_Am_blend 65 = .ok (.lstore 14, 2) := by decide +kernel
theorem d_Am_blend_67 : decode b_Am_blend 67 = .ok (.iload_n 3, 1) := by decide +kernel
theorem d_Am_blend_68 : decode b_Am_blend 68 = .ok (.i2l, 1) := by decide +kernel
theorem d_Am_blend_69 : decode b_Am_blend 69 = .ok (.lload 10, 2) := by decide +kernel
theorem d_Am_blend_71 : decode b_Am_blend 71 = .ok (.lmul, 1) := by decide +kernel
theorem d_Am_blend_72 : decode b_Am_blend 72 = .ok (.iload 4, 2) := by decide +kernel
theorem d_Am_blend_74 : decode b_Am_blend 74 = .ok (.i2l, 1) := by decide +kernel
theorem d_Am_blend_75 : decode b_Am_blend 75 = .ok (.lload 12, 2) := by decide +kernel
theorem d_Am_blend_77 : decode b_Am_blend 77 = .ok (.lmul, 1) := by decide +kernel
theorem d_Am_blend_78 : decode b_Am_blend 78 = .ok (.ladd, 1) := by decide +kernel
theorem d_Am_blend_79 : decode b_Am_blend 79 = .ok (.lload 7, 2) := by decide +kernel
theorem d_Am_blend_81 : decode b_Am_blend 81 = .ok (.ladd, 1) := by decide +kernel
theorem d_Am_blend_82 : decode b_Am_blend 82 = .ok (.lstore 16, 2) := by decide +kernel
theorem d_Am_blend_84 : decode b_Am_blend 84 = .ok (.aload_n 0, 1) := by decide +kernel
theorem d_Am_blend_85 : decode b_Am_blend 85 = .ok (.getfield 11, 3) := by decide +kernel
theorem d_Am_blend_88 : decode b_Am_blend 88 = .ok (.iload_n 1, 1) := by decide +kernel
theorem d_Am_blend_89 : decode b_Am_blend 89 = .ok (.bipush 6, 2) := by decide +kernel
theorem d_Am_blend_91 : decode b_Am_blend 91 = .ok (.imul, 1) := by decide +kernel
theorem d_Am_blend_92 : decode b_Am_blend 92 = .ok (.iload 9, 2) := by decide +kernel
theorem d_Am_blend_94 : decode b_Am_blend 94 = .ok (.iadd, 1) := by decide +kernel
theorem d_Am_blend_95 : decode b_Am_blend 95 = .ok (.lload 14, 2) := by decide +kernel
theorem d_Am_blend_97 : decode b_Am_blend 97 = .ok (.ldc2_w 15, 3) := by decide +kernel
theorem d_Am_blend_100 : decode b_Am_blend 100 = .ok (.lrem, 1) := by decide +kernel
theorem d_Am_blend_101 : decode b_Am_blend 101 = .ok (.lastore, 1) := by decide +kernel
theorem d_Am_blend_102 : decode b_Am_blend 102 = .ok (.aload_n 0, 1) := by decide +kernel
theorem d_Am_blend_103 : decode b_Am_blend 103 = .ok (.getfield 11, 3) := by decide +kernel
theorem d_Am_blend_106 : decode b_Am_blend 106 = .ok (.iload_n 2, 1) := by decide +kernel
theorem d_Am_blend_107 : decode b_Am_blend 107 = .ok (.bipush 6, 2) := by decide +kernel
theorem d_Am_blend_109 : decode b_Am_blend 109 = .ok (.imul, 1) := by decide +kernel
theorem d_Am_blend_110 : decode b_Am_blend 110 = .ok (.iload 9, 2) := by decide +kernel
theorem d_Am_blend_112 : decode b_Am_blend 112 = .ok (.iadd, 1) := by decide +kernel
theorem d_Am_blend_113 : decode b_Am_blend 113 = .ok (.lload 16, 2) := by decide +kernel
theorem d_Am_blend_115 : decode b_Am_blend 115 = .ok (.ldc2_w 15, 3) := by decide +kernel
theorem d_Am_blend_118 : decode b_Am_blend 118 = .ok (.lrem, 1) := by decide +kernel
theorem d_Am_blend_119 : decode b_Am_blend 119 = .ok (.lastore, 1) := by decide +kernel
theorem d_Am_blend_120 : decode b_Am_blend 120 = .ok (.lload 14, 2) := by decide +kernel
theorem d_Am_blend_122 : decode b_Am_blend 122 = .ok (.ldc2_w 15, 3) := by decide +kernel
theorem d_Am_blend_125 : decode b_Am_blend 125 = .ok (.ldiv, 1) := by decide +kernel
theorem d_Am_blend_126 : decode b_Am_blend 126 = .ok (.lstore 5, 2) := by decide +kernel
theorem d_Am_blend_128 : decode b_Am_blend 128 = .ok (.lload 16, 2) := by decide +kernel
theorem d_Am_blend_130 : decode b_Am_blend 130 = .ok (.ldc2_w 15, 3) := by decide +kernel
theorem d_Am_blend_133 : decode b_Am_blend 133 = .ok (.ldiv, 1) := by decide +kernel
theorem d_Am_blend_134 : decode b_Am_blend 134 = .ok (.lstore 7, 2) := by decide +kernel
theorem d_Am_blend_136 : decode b_Am_blend 136 = .ok (.iinc 9 1, 3) := by decide +kernel
theorem d_Am_blend_139 : decode b_Am_blend 139 = .ok (.goto (-124), 3) := by decide +kernel
theorem d_Am_blend_142 : decode b_Am_blend 142 = .ok (.return_, 1) := by decide +kernel
theorem d_Am_isZero_0 : decode b_Am_isZero 0 = .ok (.iconst 0, 1) := by decide +kernel
theorem d_Am_isZero_1 : decode b_Am_isZero 1 = .ok (.istore_n 2, 1) := by decide +kernel
theorem d_Am_isZero_2 : decode b_Am_isZero 2 = .ok (.iload_n 2, 1) := by decide +kernel
theorem d_Am_isZero_3 : decode b_Am_isZero 3 = .ok (.bipush 6, 2) := by decide +kernel
theorem d_Am_isZero_5 : decode b_Am_isZero 5 = .ok (.if_icmp .ge 27, 3) := by decide +kernel
theorem d_Am_isZero_8 : decode b_Am_isZero 8 = .ok (.aload_n 0, 1) := by decide +kernel
theorem d_Am_isZero_9 : decode b_Am_isZero 9 = .ok (.getfield 11, 3) := by decide +kernel
theorem d_Am_isZero_12 : decode b_Am_isZero 12 = .ok (.iload_n 1, 1) := by decide +kernel
theorem d_Am_isZero_13 : decode b_Am_isZero 13 = .ok (.bipush 6, 2) := by decide +kernel
theorem d_Am_isZero_15 : decode b_Am_isZero 15 = .ok (.imul, 1) := by decide +kernel
theorem d_Am_isZero_16 : decode b_Am_isZero 16 = .ok (.iload_n 2, 1) := by decide +kernel
theorem d_Am_isZero_17 : decode b_Am_isZero 17 = .ok (.iadd, 1) := by decide +kernel
theorem d_Am_isZero_18 : decode b_Am_isZero 18 = .ok (.laload, 1) := by decide +kernel
theorem d_Am_isZero_19 : decode b_Am_isZero 19 = .ok (.lconst 0, 1) := by decide +kernel
theorem d_Am_isZero_20 : decode b_Am_isZero 20 = .ok (.lcmp, 1) := by decide +kernel
theorem d_Am_isZero_21 : decode b_Am_isZero 21 = .ok (.ifCond .eq 5, 3) := by decide +kernel
theorem d_Am_isZero_24 : decode b_Am_isZero 24 = .ok (.iconst 0, 1) := by decide +kernel
theorem d_Am_isZero_25 : decode b_Am_isZero 25 = .ok (.ireturn, 1) := by decide +kernel
theorem d_Am_isZero_26 : decode b_Am_isZero 26 = .ok (.iinc 2 1, 3) := by decide +kernel
theorem d_Am_isZero_29 : decode b_Am_isZero 29 = .ok (.goto (-27), 3) := by decide +kernel
theorem d_Am_isZero_32 : decode b_Am_isZero 32 = .ok (.iconst 1, 1) := by decide +kernel
theorem d_Am_isZero_33 : decode b_Am_isZero 33 = .ok (.ireturn, 1) := by decide +kernel
theorem d_Am_compare_0 : decode b_Am_compare 0 = .ok (.iconst 5, 1) := by decide +kernel
theorem d_Am_compare_1 : decode b_Am_compare 1 = .ok (.istore_n 3, 1) := by decide +kernel
theorem d_Am_compare_2 : decode b_Am_compare 2 = .ok (.iload_n 3, 1) := by decide +kernel
theorem d_Am_compare_3 : decode b_Am_compare 3 = .ok (.ifCond .lt 57, 3) := by decide +kernel
theorem d_Am_compare_6 : decode b_Am_compare 6 = .ok (.aload_n 0, 1) := by decide +kernel
theorem d_Am_compare_7 : decode b_Am_compare 7 = .ok (.getfield 11, 3) := by decide +kernel
theorem d_Am_compare_10 : decode b_Am_compare 10 = .ok (.iload_n 1, 1) := by decide +kernel
theorem d_Am_compare_11 : decode b_Am_compare 11 = .ok (.bipush 6, 2) := by decide +kernel
theorem d_Am_compare_13 : decode b_Am_compare 13 = .ok (.imul, 1) := by decide +kernel
theorem d_Am_compare_14 : decode b_Am_compare 14 = .ok (.iload_n 3, 1) := by decide +kernel
theorem d_Am_compare_15 : decode b_Am_compare 15 = .ok (.iadd, 1) := by decide +kernel
theorem d_Am_compare_16 : decode b_Am_compare 16 = .ok (.laload, 1) := by decide +kernel
theorem d_Am_compare_17 : decode b_Am_compare 17 = .ok (.lstore 4, 2) := by decide +kernel
theorem d_Am_compare_19 : decode b_Am_compare 19 = .ok (.aload_n 0, 1) := by decide +kernel
theorem d_Am_compare_20 : decode b_Am_compare 20 = .ok (.getfield 11, 3) := by decide +kernel
theorem d_Am_compare_23 : decode b_Am_compare 23 = .ok (.iload_n 2, 1) := by decide +kernel
theorem d_Am_compare_24 : decode b_Am_compare 24 = .ok (.bipush 6, 2) := by decide +kernel
theorem d_Am_compare_26 : decode b_Am_compare 26 = .ok (.imul, 1) := by decide +kernel
theorem d_Am_compare_27 : decode b_Am_compare 27 = .ok (.iload_n 3, 1) := by decide +kernel
theorem d_Am_compare_28 : decode b_Am_compare 28 = .ok (.iadd, 1) := by decide +kernel
theorem d_Am_compare_29 : decode b_Am_compare 29 = .ok (.laload, 1) := by decide +kernel
theorem d_Am_compare_30 : decode b_Am_compare 30 = .ok (.lstore 6, 2) := by decide +kernel
theorem d_Am_compare_32 : decode b_Am_compare 32 = .ok (.lload 4, 2) := by decide +kernel
theorem d_Am_compare_34 : decode b_Am_compare 34 = .ok (.lload 6, 2) := by decide +kernel
theorem d_Am_compare_36 : decode b_Am_compare 36 = .ok (.lcmp, 1) := by decide +kernel
theorem d_Am_compare_37 : decode b_Am_compare 37 = .ok (.ifCond .eq 17, 3) := by decide +kernel
theorem d_Am_compare_40 : decode b_Am_compare 40 = .ok (.lload 4, 2) := by decide +kernel
theorem d_Am_compare_42 : decode b_Am_compare 42 = .ok (.lload 6, 2) := by decide +kernel
theorem d_Am_compare_44 : decode b_Am_compare 44 = .ok (.lcmp, 1) := by decide +kernel
theorem d_Am_compare_45 : decode b_Am_compare 45 = .ok (.ifCond .le 7, 3) := by decide +kernel
theorem d_Am_compare_48 : decode b_Am_compare 48 = .ok (.iconst 1, 1) := by decide +kernel
theorem d_Am_compare_49 : decode b_Am_compare 49 = .ok (.goto 4, 3) := by decide +kernel
theorem d_Am_compare_52 : decode b_Am_compare 52 = .ok (.iconst (-1), 1) := by decide +kernel
theorem d_Am_compare_53 : decode b_Am_compare 53 = .ok (.ireturn, 1) := by decide +kernel
theorem d_Am_compare_54 : decode b_Am_compare 54 = .ok (.iinc 3 (-1), 3) := by decide +kernel
theorem d_Am_compare_57 : decode b_Am_compare 57 = .ok (.goto (-55), 3) := by decide +kernel
theorem d_Am_compare_60 : decode b_Am_compare 60 = .ok (.iconst 0, 1) := by decide +kernel
theorem d_Am_compare_61 : decode b_Am_compare 61 = .ok (.ireturn, 1) := by decide +kernel
end
section
set_option maxRecDepth 100000 in
set_option maxHeartbeats 4000000 in
theorem k_Am_set (l : Launch) (D : va_G) (K : Nat → ClassId) (h : Nat) (q : Nat) (n : Nat) (i : Nat) (v : Nat) (d : Nat → Nat) (V : Nat → Nat) (hn : n ≤ 64) (hR : am_R n d V) (hi : i < n) (hv : v < 1000000000) : mg_Mv l D K y_Am_set b_Am_set 5 ({ frames := 0, cells := 0, slots := 0, locals := 0 }) [.ref (h), .int (nI (i)), .int (nI (v))] [mg_ob h 0 [.ref (q)], mg_al K q (n * 6) d] (fun (u : (Nat → Nat)) => am_R n u (va_up V i v)) (fun (u : (Nat → Nat)) => [mg_ob h 0 [.ref (q)], mg_al K q (n * 6) u]) := by
  intro sz
  refine mg_entry (Qc := fun A => va_Qv (fun (u : (Nat → Nat)) => am_R n u (va_up V i v)) (mg_B D A (fun (u : (Nat → Nat)) => [mg_ob h 0 [.ref (q)], mg_al K q (n * 6) u])) A) (by decide) (Nat.le_of_ble_eq_true rfl) ?_
  intro p e s m args below meth c A ls X hr hlk hnm hA hK hw hl
  have hl : lv_has ls 5 [(0, .ref (h)), (1, .int (nI (i))), (2, .int (nI (v)))] := hl
  refine mg_iload_n X 1 d_Am_set_0 (lv_at hl 1 rfl) rfl ?_
  refine mg_bipush X 3 6 d_Am_set_1 mg_cb_6 rfl ?_
  refine mg_imul X 4 (nI (i * 6)) d_Am_set_3 (pk_mul _ _) rfl ?_
  refine mg_istore_n X 5 [(3, .int (nI (i * 6))), (0, .ref (h)), (1, .int (nI (i))), (2, .int (nI (v)))] d_Am_set_4 hl (by decide) rfl rfl (fun ls hl => ?_)
  refine mg_aload_n X 6 d_Am_set_5 (lv_at hl 1 rfl) rfl ?_
  refine mg_get X hK hw 9 0 0 f_Am_11 rfl rfl d_Am_set_6 rfl ?_
  refine mg_iload_n X 10 d_Am_set_9 (lv_at hl 0 rfl) rfl ?_
  refine mg_iload_n X 11 d_Am_set_10 (lv_at hl 3 rfl) rfl ?_
  refine mg_i2l X 12 d_Am_set_11 (by omega) rfl ?_
  refine mg_last X hK hw 13 1 [mg_ob h 0 [.ref (q)], mg_al K q (n * 6) (va_up d (i * 6) v)] rfl (by omega) (by omega) d_Am_set_12 rfl rfl (fun H locs hw => ?_)
  refine mg_iconst X 14 1 d_Am_set_13 mg_ci_1 rfl ?_
  refine mg_istore X 16 [(4, .int (nI (1))), (3, .int (nI (i * 6))), (0, .ref (h)), (1, .int (nI (i))), (2, .int (nI (v)))] d_Am_set_14 hl (by decide) rfl rfl (fun ls hl => ?_)
  have L16 : ∀ (n0 : Nat) (k : Nat) (u : Nat → Nat), n0 = 6 - k → (am_setI n i v k d u) → (k ≤ 6) → ∀ (ls : Array Slot) (H : Heap) (locs : List Loc), lv_has ls 5 [(0, .ref (h)), (1, .int (nI (i))), (2, .int (nI (v))), (3, .int (nI (i * 6))), (4, .int (nI (k)))] → mg_H D A s.heap H locs [mg_ob h 0 [.ref (q)], mg_al K q (n * 6) u] → W p l e ({ frames := 0, cells := 0, slots := 0, locals := 0 }) s m args below meth c H locs 0 0 (MQ below (va_Qv (fun (u : (Nat → Nat)) => am_R n u (va_up V i v)) (mg_B D A (fun (u : (Nat → Nat)) => [mg_ob h 0 [.ref (q)], mg_al K q (n * 6) u])) A) args s 0 0 A) (F0 m 16 ls []) := by
    intro n0
    induction n0 using Nat.strongRecOn with
    | ind n0 ih16 =>
    intro k u hm16 hI hk ls H locs hl hw
    refine mg_iload X 18 d_Am_set_16 (lv_at hl 4 rfl) rfl ?_
    refine mg_bipush X 20 6 d_Am_set_18 mg_cb_6 rfl ?_
    refine mg_icmp_ge X 39 23 (by omega) (by omega) d_Am_set_20 (by decide) rfl (fun hb => ?_) (fun hb => ?_)
    · -- pc 20 t
      exact mg_vret X hr hlk (u) (by obtain rfl : k = 6 := (by omega); exact am_setF hI hR) hw d_Am_set_39
    · -- pc 20 f
      refine mg_aload_n X 24 d_Am_set_23 (lv_at hl 0 rfl) rfl ?_
      refine mg_get X hK hw 27 0 0 f_Am_11 rfl rfl d_Am_set_24 rfl ?_
      refine mg_iload_n X 28 d_Am_set_27 (lv_at hl 3 rfl) rfl ?_
      refine mg_iload X 30 d_Am_set_28 (lv_at hl 4 rfl) rfl ?_
      refine mg_iadd X 31 (nI ((i * 6) + k)) d_Am_set_30 (nI_add _ _) rfl ?_
      refine mg_lconst X 32 0 d_Am_set_31 rfl rfl ?_
      refine mg_last X hK hw 33 1 [mg_ob h 0 [.ref (q)], mg_al K q (n * 6) (va_up u ((i * 6) + k) 0)] rfl (by omega) (by omega) d_Am_set_32 rfl rfl (fun H locs hw => ?_)
      refine mg_iinc X 36 [(4, .int (nI (k + 1))), (0, .ref (h)), (1, .int (nI (i))), (2, .int (nI (v))), (3, .int (nI (i * 6)))] (k + 1) d_Am_set_33 hl (k := 4) rfl (mg_inc1 _) (by decide) rfl rfl (fun ls hl => ?_)
      refine mg_goto X 16 d_Am_set_36 (by decide) ?_
      have hl : lv_has ls 5 [(0, .ref (h)), (1, .int (nI (i))), (2, .int (nI (v))), (3, .int (nI (i * 6))), (4, .int (nI (k + 1)))] := lv_sub hl [1, 2, 3, 4, 0] rfl
      exact ih16 _ (by omega) (k + 1) (va_up u ((i * 6) + k) 0) rfl (am_setS hI hi hb) (by omega) ls _ _ hl hw
  have hl : lv_has ls 5 [(0, .ref (h)), (1, .int (nI (i))), (2, .int (nI (v))), (3, .int (nI (i * 6))), (4, .int (nI (1)))] := lv_sub hl [2, 3, 4, 1, 0] rfl
  exact L16 _ 1 (va_up d (i * 6) v) rfl (am_set1 hR.1 hi hv) (by omega) ls _ _ hl hw

set_option maxRecDepth 100000 in
set_option maxHeartbeats 4000000 in
theorem k_Am_copy (l : Launch) (D : va_G) (K : Nat → ClassId) (h : Nat) (q : Nat) (n : Nat) (t : Nat) (f : Nat) (d : Nat → Nat) (V : Nat → Nat) (hn : n ≤ 64) (hR : am_R n d V) (ht : t < n) (hf : f < n) : mg_Mv l D K y_Am_copy b_Am_copy 4 ({ frames := 0, cells := 0, slots := 0, locals := 0 }) [.ref (h), .int (nI (t)), .int (nI (f))] [mg_ob h 0 [.ref (q)], mg_al K q (n * 6) d] (fun (u : (Nat → Nat)) => am_R n u (va_up V t (V f))) (fun (u : (Nat → Nat)) => [mg_ob h 0 [.ref (q)], mg_al K q (n * 6) u]) := by
  intro sz
  refine mg_entry (Qc := fun A => va_Qv (fun (u : (Nat → Nat)) => am_R n u (va_up V t (V f))) (mg_B D A (fun (u : (Nat → Nat)) => [mg_ob h 0 [.ref (q)], mg_al K q (n * 6) u])) A) (by decide) (Nat.le_of_ble_eq_true rfl) ?_
  intro p e s m args below meth c A ls X hr hlk hnm hA hK hw hl
  have hl : lv_has ls 4 [(0, .ref (h)), (1, .int (nI (t))), (2, .int (nI (f)))] := hl
  refine mg_iconst X 1 0 d_Am_copy_0 mg_ci_0 rfl ?_
  refine mg_istore_n X 2 [(3, .int (nI (0))), (0, .ref (h)), (1, .int (nI (t))), (2, .int (nI (f)))] d_Am_copy_1 hl (by decide) rfl rfl (fun ls hl => ?_)
  have L2 : ∀ (n0 : Nat) (k : Nat) (u : Nat → Nat), n0 = 6 - k → (am_cpI n t f k d u) → (k ≤ 6) → ∀ (ls : Array Slot) (H : Heap) (locs : List Loc), lv_has ls 4 [(0, .ref (h)), (1, .int (nI (t))), (2, .int (nI (f))), (3, .int (nI (k)))] → mg_H D A s.heap H locs [mg_ob h 0 [.ref (q)], mg_al K q (n * 6) u] → W p l e ({ frames := 0, cells := 0, slots := 0, locals := 0 }) s m args below meth c H locs 0 0 (MQ below (va_Qv (fun (u : (Nat → Nat)) => am_R n u (va_up V t (V f))) (mg_B D A (fun (u : (Nat → Nat)) => [mg_ob h 0 [.ref (q)], mg_al K q (n * 6) u])) A) args s 0 0 A) (F0 m 2 ls []) := by
    intro n0
    induction n0 using Nat.strongRecOn with
    | ind n0 ih2 =>
    intro k u hm2 hI hk ls H locs hl hw
    refine mg_iload_n X 3 d_Am_copy_2 (lv_at hl 3 rfl) rfl ?_
    refine mg_bipush X 5 6 d_Am_copy_3 mg_cb_6 rfl ?_
    refine mg_icmp_ge X 36 8 (by omega) (by omega) d_Am_copy_5 (by decide) rfl (fun hb => ?_) (fun hb => ?_)
    · -- pc 5 t
      exact mg_vret X hr hlk (u) (by obtain rfl : k = 6 := (by omega); exact am_cpF hI hR hf) hw d_Am_copy_36
    · -- pc 5 f
      refine mg_aload_n X 9 d_Am_copy_8 (lv_at hl 0 rfl) rfl ?_
      refine mg_get X hK hw 12 0 0 f_Am_11 rfl rfl d_Am_copy_9 rfl ?_
      refine mg_iload_n X 13 d_Am_copy_12 (lv_at hl 1 rfl) rfl ?_
      refine mg_bipush X 15 6 d_Am_copy_13 mg_cb_6 rfl ?_
      refine mg_imul X 16 (nI (t * 6)) d_Am_copy_15 (pk_mul _ _) rfl ?_
      refine mg_iload_n X 17 d_Am_copy_16 (lv_at hl 3 rfl) rfl ?_
      refine mg_iadd X 18 (nI ((t * 6) + k)) d_Am_copy_17 (nI_add _ _) rfl ?_
      refine mg_aload_n X 19 d_Am_copy_18 (lv_at hl 0 rfl) rfl ?_
      refine mg_get X hK hw 22 0 0 f_Am_11 rfl rfl d_Am_copy_19 rfl ?_
      refine mg_iload_n X 23 d_Am_copy_22 (lv_at hl 2 rfl) rfl ?_
      refine mg_bipush X 25 6 d_Am_copy_23 mg_cb_6 rfl ?_
      refine mg_imul X 26 (nI (f * 6)) d_Am_copy_25 (pk_mul _ _) rfl ?_
      refine mg_iload_n X 27 d_Am_copy_26 (lv_at hl 3 rfl) rfl ?_
      refine mg_iadd X 28 (nI ((f * 6) + k)) d_Am_copy_27 (nI_add _ _) rfl ?_
      refine mg_lald X hK hw 29 1 rfl (by omega) (by omega) d_Am_copy_28 rfl ?_
      refine mg_last X hK hw 30 1 [mg_ob h 0 [.ref (q)], mg_al K q (n * 6) (va_up u ((t * 6) + k) (u ((f * 6) + k)))] rfl (by omega) (by omega) d_Am_copy_29 rfl rfl (fun H locs hw => ?_)
      refine mg_iinc X 33 [(3, .int (nI (k + 1))), (0, .ref (h)), (1, .int (nI (t))), (2, .int (nI (f)))] (k + 1) d_Am_copy_30 hl (k := 3) rfl (mg_inc1 _) (by decide) rfl rfl (fun ls hl => ?_)
      refine mg_goto X 2 d_Am_copy_33 (by decide) ?_
      have hl : lv_has ls 4 [(0, .ref (h)), (1, .int (nI (t))), (2, .int (nI (f))), (3, .int (nI (k + 1)))] := lv_sub hl [1, 2, 3, 0] rfl
      exact ih2 _ (by omega) (k + 1) (va_up u ((t * 6) + k) (u ((f * 6) + k))) rfl (am_cpS hI ht hf hb) (by omega) ls _ _ hl hw
  have hl : lv_has ls 4 [(0, .ref (h)), (1, .int (nI (t))), (2, .int (nI (f))), (3, .int (nI (0)))] := lv_sub hl [1, 2, 3, 0] rfl
  exact L2 _ 0 d rfl (am_cp0 hR.1) (by omega) ls _ _ hl hw

set_option maxRecDepth 100000 in
set_option maxHeartbeats 4000000 in
theorem k_Am_add (l : Launch) (D : va_G) (K : Nat → ClassId) (h : Nat) (q : Nat) (n : Nat) (h2 : Nat) (q2 : Nat) (n2 : Nat) (t : Nat) (f : Nat) (d : Nat → Nat) (V : Nat → Nat) (d2 : Nat → Nat) (V2 : Nat → Nat) (hn : n ≤ 64) (hR : am_R n d V) (hn2 : n2 ≤ 64) (hR2 : am_R n2 d2 V2) (ht : t < n) (hf : f < n2) (hl0 : V t + V2 f < 1000000000 ^ 6) : mg_Mv l D K y_Am_add b_Am_add 9 ({ frames := 0, cells := 0, slots := 0, locals := 0 }) [.ref (h), .int (nI (t)), .ref (h2), .int (nI (f))] [mg_ob h 0 [.ref (q)], mg_al K q (n * 6) d, mg_ob h2 0 [.ref (q2)], mg_al K q2 (n2 * 6) d2] (fun (u : (Nat → Nat)) => am_R n u (va_up V t (V t + V2 f))) (fun (u : (Nat → Nat)) => [mg_ob h 0 [.ref (q)], mg_al K q (n * 6) u, mg_ob h2 0 [.ref (q2)], mg_al K q2 (n2 * 6) d2]) := by
  intro sz
  refine mg_entry (Qc := fun A => va_Qv (fun (u : (Nat → Nat)) => am_R n u (va_up V t (V t + V2 f))) (mg_B D A (fun (u : (Nat → Nat)) => [mg_ob h 0 [.ref (q)], mg_al K q (n * 6) u, mg_ob h2 0 [.ref (q2)], mg_al K q2 (n2 * 6) d2])) A) (by decide) (Nat.le_of_ble_eq_true rfl) ?_
  intro p e s m args below meth c A ls X hr hlk hnm hA hK hw hl
  have hl : lv_has ls 9 [(0, .ref (h)), (1, .int (nI (t))), (2, .ref (h2)), (3, .int (nI (f)))] := hl
  refine mg_lconst X 1 0 d_Am_add_0 rfl rfl ?_
  refine mg_lstore X 3 [(4, .long (lN (0))), (0, .ref (h)), (1, .int (nI (t))), (2, .ref (h2)), (3, .int (nI (f)))] d_Am_add_1 hl (by decide) rfl rfl (fun ls hl => ?_)
  refine mg_iconst X 4 0 d_Am_add_3 mg_ci_0 rfl ?_
  refine mg_istore X 6 [(6, .int (nI (0))), (4, .long (lN (0))), (0, .ref (h)), (1, .int (nI (t))), (2, .ref (h2)), (3, .int (nI (f)))] d_Am_add_4 hl (by decide) rfl rfl (fun ls hl => ?_)
  have L6 : ∀ (n0 : Nat) (k : Nat) (cy : Nat) (u : Nat → Nat), n0 = 6 - k → (am_adI n t f k cy d u d2) → (k ≤ 6) → ∀ (ls : Array Slot) (H : Heap) (locs : List Loc), lv_has ls 9 [(0, .ref (h)), (1, .int (nI (t))), (2, .ref (h2)), (3, .int (nI (f))), (4, .long (lN (cy))), (6, .int (nI (k)))] → mg_H D A s.heap H locs [mg_ob h 0 [.ref (q)], mg_al K q (n * 6) u, mg_ob h2 0 [.ref (q2)], mg_al K q2 (n2 * 6) d2] → W p l e ({ frames := 0, cells := 0, slots := 0, locals := 0 }) s m args below meth c H locs 0 0 (MQ below (va_Qv (fun (u : (Nat → Nat)) => am_R n u (va_up V t (V t + V2 f))) (mg_B D A (fun (u : (Nat → Nat)) => [mg_ob h 0 [.ref (q)], mg_al K q (n * 6) u, mg_ob h2 0 [.ref (q2)], mg_al K q2 (n2 * 6) d2])) A) args s 0 0 A) (F0 m 6 ls []) := by
    intro n0
    induction n0 using Nat.strongRecOn with
    | ind n0 ih6 =>
    intro k cy u hm6 hI hk ls H locs hl hw
    refine mg_iload X 8 d_Am_add_6 (lv_at hl 5 rfl) rfl ?_
    refine mg_bipush X 10 6 d_Am_add_8 mg_cb_6 rfl ?_
    refine mg_icmp_ge X 75 13 (by omega) (by omega) d_Am_add_10 (by decide) rfl (fun hb => ?_) (fun hb => ?_)
    · -- pc 10 t
      exact mg_vret X hr hlk (u) (by obtain rfl : k = 6 := (by omega); exact am_adF hI hR hR2 ht hf hl0) hw d_Am_add_75
    · -- pc 10 f
      have a1 := hI.1.1 (t * 6 + k) (by omega)
      have a2 := hR2.1 (f * 6 + k) (by omega)
      have a3 := hI.2.2
      refine mg_aload_n X 14 d_Am_add_13 (lv_at hl 0 rfl) rfl ?_
      refine mg_get X hK hw 17 0 0 f_Am_11 rfl rfl d_Am_add_14 rfl ?_
      refine mg_iload_n X 18 d_Am_add_17 (lv_at hl 1 rfl) rfl ?_
      refine mg_bipush X 20 6 d_Am_add_18 mg_cb_6 rfl ?_
      refine mg_imul X 21 (nI (t * 6)) d_Am_add_20 (pk_mul _ _) rfl ?_
      refine mg_iload X 23 d_Am_add_21 (lv_at hl 5 rfl) rfl ?_
      refine mg_iadd X 24 (nI ((t * 6) + k)) d_Am_add_23 (nI_add _ _) rfl ?_
      refine mg_lald X hK hw 25 1 rfl (by omega) (by omega) d_Am_add_24 rfl ?_
      refine mg_aload_n X 26 d_Am_add_25 (lv_at hl 2 rfl) rfl ?_
      refine mg_get X hK hw 29 2 0 f_Am_11 rfl rfl d_Am_add_26 rfl ?_
      refine mg_iload_n X 30 d_Am_add_29 (lv_at hl 3 rfl) rfl ?_
      refine mg_bipush X 32 6 d_Am_add_30 mg_cb_6 rfl ?_
      refine mg_imul X 33 (nI (f * 6)) d_Am_add_32 (pk_mul _ _) rfl ?_
      refine mg_iload X 35 d_Am_add_33 (lv_at hl 5 rfl) rfl ?_
      refine mg_iadd X 36 (nI ((f * 6) + k)) d_Am_add_35 (nI_add _ _) rfl ?_
      refine mg_lald X hK hw 37 3 rfl (by omega) (by omega) d_Am_add_36 rfl ?_
      refine mg_ladd X 38 (lN ((u ((t * 6) + k)) + (d2 ((f * 6) + k)))) d_Am_add_37 (lN_add _ _) rfl ?_
      refine mg_lload X 40 d_Am_add_38 (lv_at hl 4 rfl) rfl ?_
      refine mg_ladd X 41 (lN (((u ((t * 6) + k)) + (d2 ((f * 6) + k))) + cy)) d_Am_add_40 (lN_add _ _) rfl ?_
      refine mg_lstore X 43 [(7, .long (lN (((u ((t * 6) + k)) + (d2 ((f * 6) + k))) + cy))), (0, .ref (h)), (1, .int (nI (t))), (2, .ref (h2)), (3, .int (nI (f))), (4, .long (lN (cy))), (6, .int (nI (k)))] d_Am_add_41 hl (by decide) rfl rfl (fun ls hl => ?_)
      refine mg_aload_n X 44 d_Am_add_43 (lv_at hl 1 rfl) rfl ?_
      refine mg_get X hK hw 47 0 0 f_Am_11 rfl rfl d_Am_add_44 rfl ?_
      refine mg_iload_n X 48 d_Am_add_47 (lv_at hl 2 rfl) rfl ?_
      refine mg_bipush X 50 6 d_Am_add_48 mg_cb_6 rfl ?_
      refine mg_imul X 51 (nI (t * 6)) d_Am_add_50 (pk_mul _ _) rfl ?_
      refine mg_iload X 53 d_Am_add_51 (lv_at hl 6 rfl) rfl ?_
      refine mg_iadd X 54 (nI ((t * 6) + k)) d_Am_add_53 (nI_add _ _) rfl ?_
      refine mg_lload X 56 d_Am_add_54 (lv_at hl 0 rfl) rfl ?_
      refine mg_ldc2 X 59 1000000000 d_Am_add_56 cw_Am_15 rfl rfl ?_
      refine mg_lrem X 60 d_Am_add_59 (by omega) (by omega) (by omega) rfl ?_
      refine mg_last X hK hw 61 1 [mg_ob h 0 [.ref (q)], mg_al K q (n * 6) (va_up u ((t * 6) + k) ((((u ((t * 6) + k)) + (d2 ((f * 6) + k))) + cy) % 1000000000)), mg_ob h2 0 [.ref (q2)], mg_al K q2 (n2 * 6) d2] rfl (by omega) (by omega) d_Am_add_60 rfl rfl (fun H locs hw => ?_)
      refine mg_lload X 63 d_Am_add_61 (lv_at hl 0 rfl) rfl ?_
      refine mg_ldc2 X 66 1000000000 d_Am_add_63 cw_Am_15 rfl rfl ?_
      refine mg_ldiv X 67 d_Am_add_66 (by omega) (by omega) (by omega) rfl ?_
      refine mg_lstore X 69 [(4, .long (lN ((((u ((t * 6) + k)) + (d2 ((f * 6) + k))) + cy) / 1000000000))), (7, .long (lN (((u ((t * 6) + k)) + (d2 ((f * 6) + k))) + cy))), (0, .ref (h)), (1, .int (nI (t))), (2, .ref (h2)), (3, .int (nI (f))), (6, .int (nI (k)))] d_Am_add_67 hl (by decide) rfl rfl (fun ls hl => ?_)
      refine mg_iinc X 72 [(6, .int (nI (k + 1))), (4, .long (lN ((((u ((t * 6) + k)) + (d2 ((f * 6) + k))) + cy) / 1000000000))), (7, .long (lN (((u ((t * 6) + k)) + (d2 ((f * 6) + k))) + cy))), (0, .ref (h)), (1, .int (nI (t))), (2, .ref (h2)), (3, .int (nI (f)))] (k + 1) d_Am_add_69 hl (k := 6) rfl (mg_inc1 _) (by decide) rfl rfl (fun ls hl => ?_)
      refine mg_goto X 6 d_Am_add_72 (by decide) ?_
      have hl : lv_has ls 9 [(0, .ref (h)), (1, .int (nI (t))), (2, .ref (h2)), (3, .int (nI (f))), (4, .long (lN ((((u ((t * 6) + k)) + (d2 ((f * 6) + k))) + cy) / 1000000000))), (6, .int (nI (k + 1)))] := lv_sub hl [3, 4, 5, 6, 1, 0] rfl
      exact ih6 _ (by omega) (k + 1) ((((u ((t * 6) + k)) + (d2 ((f * 6) + k))) + cy) / 1000000000) (va_up u ((t * 6) + k) ((((u ((t * 6) + k)) + (d2 ((f * 6) + k))) + cy) % 1000000000)) rfl (am_adS hI hR2.1 ht hf hb) (by omega) ls _ _ hl hw
  have hl : lv_has ls 9 [(0, .ref (h)), (1, .int (nI (t))), (2, .ref (h2)), (3, .int (nI (f))), (4, .long (lN (0))), (6, .int (nI (0)))] := lv_sub hl [2, 3, 4, 5, 1, 0] rfl
  exact L6 _ 0 0 d rfl (am_ad0 hR.1) (by omega) ls _ _ hl hw

set_option maxRecDepth 100000 in
set_option maxHeartbeats 4000000 in
theorem k_Am_multiply (l : Launch) (D : va_G) (K : Nat → ClassId) (h : Nat) (q : Nat) (n : Nat) (i : Nat) (f : Nat) (d : Nat → Nat) (V : Nat → Nat) (hn : n ≤ 64) (hR : am_R n d V) (hi : i < n) (hf : f < 2147483648) (hl0 : V i * f < 1000000000 ^ 6) : mg_Mv l D K y_Am_multiply b_Am_multiply 9 ({ frames := 0, cells := 0, slots := 0, locals := 0 }) [.ref (h), .int (nI (i)), .int (nI (f))] [mg_ob h 0 [.ref (q)], mg_al K q (n * 6) d] (fun (u : (Nat → Nat)) => am_R n u (va_up V i (V i * f))) (fun (u : (Nat → Nat)) => [mg_ob h 0 [.ref (q)], mg_al K q (n * 6) u]) := by
  intro sz
  refine mg_entry (Qc := fun A => va_Qv (fun (u : (Nat → Nat)) => am_R n u (va_up V i (V i * f))) (mg_B D A (fun (u : (Nat → Nat)) => [mg_ob h 0 [.ref (q)], mg_al K q (n * 6) u])) A) (by decide) (Nat.le_of_ble_eq_true rfl) ?_
  intro p e s m args below meth c A ls X hr hlk hnm hA hK hw hl
  have hl : lv_has ls 9 [(0, .ref (h)), (1, .int (nI (i))), (2, .int (nI (f)))] := hl
  refine mg_iload_n X 1 d_Am_multiply_0 (lv_at hl 1 rfl) rfl ?_
  refine mg_bipush X 3 6 d_Am_multiply_1 mg_cb_6 rfl ?_
  refine mg_imul X 4 (nI (i * 6)) d_Am_multiply_3 (pk_mul _ _) rfl ?_
  refine mg_istore_n X 5 [(3, .int (nI (i * 6))), (0, .ref (h)), (1, .int (nI (i))), (2, .int (nI (f)))] d_Am_multiply_4 hl (by decide) rfl rfl (fun ls hl => ?_)
  refine mg_lconst X 6 0 d_Am_multiply_5 rfl rfl ?_
  refine mg_lstore X 8 [(4, .long (lN (0))), (3, .int (nI (i * 6))), (0, .ref (h)), (1, .int (nI (i))), (2, .int (nI (f)))] d_Am_multiply_6 hl (by decide) rfl rfl (fun ls hl => ?_)
  refine mg_iconst X 9 0 d_Am_multiply_8 mg_ci_0 rfl ?_
  refine mg_istore X 11 [(6, .int (nI (0))), (4, .long (lN (0))), (3, .int (nI (i * 6))), (0, .ref (h)), (1, .int (nI (i))), (2, .int (nI (f)))] d_Am_multiply_9 hl (by decide) rfl rfl (fun ls hl => ?_)
  have L11 : ∀ (n0 : Nat) (k : Nat) (cy : Nat) (u : Nat → Nat), n0 = 6 - k → (am_muI n i f k cy d u) → (k ≤ 6) → ∀ (ls : Array Slot) (H : Heap) (locs : List Loc), lv_has ls 9 [(0, .ref (h)), (1, .int (nI (i))), (2, .int (nI (f))), (3, .int (nI (i * 6))), (4, .long (lN (cy))), (6, .int (nI (k)))] → mg_H D A s.heap H locs [mg_ob h 0 [.ref (q)], mg_al K q (n * 6) u] → W p l e ({ frames := 0, cells := 0, slots := 0, locals := 0 }) s m args below meth c H locs 0 0 (MQ below (va_Qv (fun (u : (Nat → Nat)) => am_R n u (va_up V i (V i * f))) (mg_B D A (fun (u : (Nat → Nat)) => [mg_ob h 0 [.ref (q)], mg_al K q (n * 6) u])) A) args s 0 0 A) (F0 m 11 ls []) := by
    intro n0
    induction n0 using Nat.strongRecOn with
    | ind n0 ih11 =>
    intro k cy u hm11 hI hk ls H locs hl hw
    refine mg_iload X 13 d_Am_multiply_11 (lv_at hl 5 rfl) rfl ?_
    refine mg_bipush X 15 6 d_Am_multiply_13 mg_cb_6 rfl ?_
    refine mg_icmp_ge X 64 18 (by omega) (by omega) d_Am_multiply_15 (by decide) rfl (fun hb => ?_) (fun hb => ?_)
    · -- pc 15 t
      exact mg_vret X hr hlk (u) (by obtain rfl : k = 6 := (by omega); exact am_muF hI hR hi hl0) hw d_Am_multiply_64
    · -- pc 15 f
      have a1 := am_mu_lt hI hi hb hf
      refine mg_aload_n X 19 d_Am_multiply_18 (lv_at hl 0 rfl) rfl ?_
      refine mg_get X hK hw 22 0 0 f_Am_11 rfl rfl d_Am_multiply_19 rfl ?_
      refine mg_iload_n X 23 d_Am_multiply_22 (lv_at hl 3 rfl) rfl ?_
      refine mg_iload X 25 d_Am_multiply_23 (lv_at hl 5 rfl) rfl ?_
      refine mg_iadd X 26 (nI ((i * 6) + k)) d_Am_multiply_25 (nI_add _ _) rfl ?_
      refine mg_lald X hK hw 27 1 rfl (by omega) (by omega) d_Am_multiply_26 rfl ?_
      refine mg_iload_n X 28 d_Am_multiply_27 (lv_at hl 2 rfl) rfl ?_
      refine mg_i2l X 29 d_Am_multiply_28 (by omega) rfl ?_
      refine mg_lmul X 30 (lN ((u ((i * 6) + k)) * f)) d_Am_multiply_29 (lN_mul _ _) rfl ?_
      refine mg_lload X 32 d_Am_multiply_30 (lv_at hl 4 rfl) rfl ?_
      refine mg_ladd X 33 (lN (((u ((i * 6) + k)) * f) + cy)) d_Am_multiply_32 (lN_add _ _) rfl ?_
      refine mg_lstore X 35 [(7, .long (lN (((u ((i * 6) + k)) * f) + cy))), (0, .ref (h)), (1, .int (nI (i))), (2, .int (nI (f))), (3, .int (nI (i * 6))), (4, .long (lN (cy))), (6, .int (nI (k)))] d_Am_multiply_33 hl (by decide) rfl rfl (fun ls hl => ?_)
      refine mg_aload_n X 36 d_Am_multiply_35 (lv_at hl 1 rfl) rfl ?_
      refine mg_get X hK hw 39 0 0 f_Am_11 rfl rfl d_Am_multiply_36 rfl ?_
      refine mg_iload_n X 40 d_Am_multiply_39 (lv_at hl 4 rfl) rfl ?_
      refine mg_iload X 42 d_Am_multiply_40 (lv_at hl 6 rfl) rfl ?_
      refine mg_iadd X 43 (nI ((i * 6) + k)) d_Am_multiply_42 (nI_add _ _) rfl ?_
      refine mg_lload X 45 d_Am_multiply_43 (lv_at hl 0 rfl) rfl ?_
      refine mg_ldc2 X 48 1000000000 d_Am_multiply_45 cw_Am_15 rfl rfl ?_
      refine mg_lrem X 49 d_Am_multiply_48 (by omega) (by omega) (by omega) rfl ?_
      refine mg_last X hK hw 50 1 [mg_ob h 0 [.ref (q)], mg_al K q (n * 6) (va_up u ((i * 6) + k) ((((u ((i * 6) + k)) * f) + cy) % 1000000000))] rfl (by omega) (by omega) d_Am_multiply_49 rfl rfl (fun H locs hw => ?_)
      refine mg_lload X 52 d_Am_multiply_50 (lv_at hl 0 rfl) rfl ?_
      refine mg_ldc2 X 55 1000000000 d_Am_multiply_52 cw_Am_15 rfl rfl ?_
      refine mg_ldiv X 56 d_Am_multiply_55 (by omega) (by omega) (by omega) rfl ?_
      refine mg_lstore X 58 [(4, .long (lN ((((u ((i * 6) + k)) * f) + cy) / 1000000000))), (7, .long (lN (((u ((i * 6) + k)) * f) + cy))), (0, .ref (h)), (1, .int (nI (i))), (2, .int (nI (f))), (3, .int (nI (i * 6))), (6, .int (nI (k)))] d_Am_multiply_56 hl (by decide) rfl rfl (fun ls hl => ?_)
      refine mg_iinc X 61 [(6, .int (nI (k + 1))), (4, .long (lN ((((u ((i * 6) + k)) * f) + cy) / 1000000000))), (7, .long (lN (((u ((i * 6) + k)) * f) + cy))), (0, .ref (h)), (1, .int (nI (i))), (2, .int (nI (f))), (3, .int (nI (i * 6)))] (k + 1) d_Am_multiply_58 hl (k := 6) rfl (mg_inc1 _) (by decide) rfl rfl (fun ls hl => ?_)
      refine mg_goto X 11 d_Am_multiply_61 (by decide) ?_
      have hl : lv_has ls 9 [(0, .ref (h)), (1, .int (nI (i))), (2, .int (nI (f))), (3, .int (nI (i * 6))), (4, .long (lN ((((u ((i * 6) + k)) * f) + cy) / 1000000000))), (6, .int (nI (k + 1)))] := lv_sub hl [3, 4, 5, 6, 1, 0] rfl
      exact ih11 _ (by omega) (k + 1) ((((u ((i * 6) + k)) * f) + cy) / 1000000000) (va_up u ((i * 6) + k) ((((u ((i * 6) + k)) * f) + cy) % 1000000000)) rfl (am_muS hI hi hb) (by omega) ls _ _ hl hw
  have hl : lv_has ls 9 [(0, .ref (h)), (1, .int (nI (i))), (2, .int (nI (f))), (3, .int (nI (i * 6))), (4, .long (lN (0))), (6, .int (nI (0)))] := lv_sub hl [3, 4, 5, 2, 1, 0] rfl
  exact L11 _ 0 0 d rfl (am_mu0 hR.1) (by omega) ls _ _ hl hw

set_option maxRecDepth 100000 in
set_option maxHeartbeats 4000000 in
theorem k_Am_setProduct (l : Launch) (D : va_G) (K : Nat → ClassId) (h : Nat) (q : Nat) (n : Nat) (hl1 : Nat) (ql : Nat) (hr1 : Nat) (qr : Nat) (i : Nat) (d : Nat → Nat) (V : Nat → Nat) (dl : Nat → Nat) (Vl : Nat → Nat) (dr : Nat → Nat) (Vr : Nat → Nat) (hn : n ≤ 64) (hR : am_R n d V) (hRl : am_R n dl Vl) (hRr : am_R n dr Vr) (hi : i < n) (hl0 : Vl i * Vr i < 1000000000 ^ 6) : mg_Mv l D K y_Am_setProduct b_Am_setProduct 9 ({ frames := 0, cells := 0, slots := 0, locals := 0 }) [.ref (h), .int (nI (i)), .ref (hl1), .ref (hr1)] [mg_ob h 0 [.ref (q)], mg_al K q (n * 6) d, mg_ob hl1 0 [.ref (ql)], mg_al K ql (n * 6) dl, mg_ob hr1 0 [.ref (qr)], mg_al K qr (n * 6) dr] (fun (u : (Nat → Nat)) => am_R n u (va_up V i (Vl i * Vr i))) (fun (u : (Nat → Nat)) => [mg_ob h 0 [.ref (q)], mg_al K q (n * 6) u, mg_ob hl1 0 [.ref (ql)], mg_al K ql (n * 6) dl, mg_ob hr1 0 [.ref (qr)], mg_al K qr (n * 6) dr]) := by
  intro sz
  refine mg_entry (Qc := fun A => va_Qv (fun (u : (Nat → Nat)) => am_R n u (va_up V i (Vl i * Vr i))) (mg_B D A (fun (u : (Nat → Nat)) => [mg_ob h 0 [.ref (q)], mg_al K q (n * 6) u, mg_ob hl1 0 [.ref (ql)], mg_al K ql (n * 6) dl, mg_ob hr1 0 [.ref (qr)], mg_al K qr (n * 6) dr])) A) (by decide) (Nat.le_of_ble_eq_true rfl) ?_
  intro p e s m args below meth c A ls X hr hlk hnm hA hK hw hl
  have hl : lv_has ls 9 [(0, .ref (h)), (1, .int (nI (i))), (2, .ref (hl1)), (3, .ref (hr1))] := hl
  refine mg_iload_n X 1 d_Am_setProduct_0 (lv_at hl 1 rfl) rfl ?_
  refine mg_bipush X 3 6 d_Am_setProduct_1 mg_cb_6 rfl ?_
  refine mg_imul X 4 (nI (i * 6)) d_Am_setProduct_3 (pk_mul _ _) rfl ?_
  refine mg_istore X 6 [(4, .int (nI (i * 6))), (0, .ref (h)), (1, .int (nI (i))), (2, .ref (hl1)), (3, .ref (hr1))] d_Am_setProduct_4 hl (by decide) rfl rfl (fun ls hl => ?_)
  refine mg_lconst X 7 0 d_Am_setProduct_6 rfl rfl ?_
  refine mg_lstore X 9 [(5, .long (lN (0))), (4, .int (nI (i * 6))), (0, .ref (h)), (1, .int (nI (i))), (2, .ref (hl1)), (3, .ref (hr1))] d_Am_setProduct_7 hl (by decide) rfl rfl (fun ls hl => ?_)
  refine mg_iconst X 10 0 d_Am_setProduct_9 mg_ci_0 rfl ?_
  refine mg_istore X 12 [(7, .int (nI (0))), (5, .long (lN (0))), (4, .int (nI (i * 6))), (0, .ref (h)), (1, .int (nI (i))), (2, .ref (hl1)), (3, .ref (hr1))] d_Am_setProduct_10 hl (by decide) rfl rfl (fun ls hl => ?_)
  have L12 : ∀ (n0 : Nat) (k : Nat) (col : Nat) (u : Nat → Nat), n0 = 6 - k → (am_prI n i k col d u dl dr) → (k ≤ 6) → ∀ (ls : Array Slot) (H : Heap) (locs : List Loc), lv_has ls 9 [(0, .ref (h)), (1, .int (nI (i))), (2, .ref (hl1)), (3, .ref (hr1)), (4, .int (nI (i * 6))), (5, .long (lN (col))), (7, .int (nI (k)))] → mg_H D A s.heap H locs [mg_ob h 0 [.ref (q)], mg_al K q (n * 6) u, mg_ob hl1 0 [.ref (ql)], mg_al K ql (n * 6) dl, mg_ob hr1 0 [.ref (qr)], mg_al K qr (n * 6) dr] → W p l e ({ frames := 0, cells := 0, slots := 0, locals := 0 }) s m args below meth c H locs 0 0 (MQ below (va_Qv (fun (u : (Nat → Nat)) => am_R n u (va_up V i (Vl i * Vr i))) (mg_B D A (fun (u : (Nat → Nat)) => [mg_ob h 0 [.ref (q)], mg_al K q (n * 6) u, mg_ob hl1 0 [.ref (ql)], mg_al K ql (n * 6) dl, mg_ob hr1 0 [.ref (qr)], mg_al K qr (n * 6) dr])) A) args s 0 0 A) (F0 m 12 ls []) := by
    intro n0
    induction n0 using Nat.strongRecOn with
    | ind n0 ih12 =>
    intro k col u hm12 hI hk ls H locs hl hw
    refine mg_iload X 14 d_Am_setProduct_12 (lv_at hl 6 rfl) rfl ?_
    refine mg_bipush X 16 6 d_Am_setProduct_14 mg_cb_6 rfl ?_
    refine mg_icmp_ge X 94 19 (by omega) (by omega) d_Am_setProduct_16 (by decide) rfl (fun hb => ?_) (fun hb => ?_)
    · -- pc 16 t
      exact mg_vret X hr hlk (u) (by obtain rfl : k = 6 := (by omega); exact am_prF hI hR hRl hRr hi hl0) hw d_Am_setProduct_94
    · -- pc 16 f
      refine mg_iconst X 20 0 d_Am_setProduct_19 mg_ci_0 rfl ?_
      refine mg_istore X 22 [(8, .int (nI (0))), (0, .ref (h)), (1, .int (nI (i))), (2, .ref (hl1)), (3, .ref (hr1)), (4, .int (nI (i * 6))), (5, .long (lN (col))), (7, .int (nI (k)))] d_Am_setProduct_20 hl (by decide) rfl rfl (fun ls hl => ?_)
      have L22 : ∀ (n0 : Nat) (j : Nat) (cj : Nat), n0 = k + 1 - j → (am_prC (i * 6) k col j cj dl dr) → (j ≤ k + 1) → ∀ (ls : Array Slot) (H : Heap) (locs : List Loc), lv_has ls 9 [(0, .ref (h)), (1, .int (nI (i))), (2, .ref (hl1)), (3, .ref (hr1)), (4, .int (nI (i * 6))), (5, .long (lN (cj))), (7, .int (nI (k))), (8, .int (nI (j)))] → mg_H D A s.heap H locs [mg_ob h 0 [.ref (q)], mg_al K q (n * 6) u, mg_ob hl1 0 [.ref (ql)], mg_al K ql (n * 6) dl, mg_ob hr1 0 [.ref (qr)], mg_al K qr (n * 6) dr] → W p l e ({ frames := 0, cells := 0, slots := 0, locals := 0 }) s m args below meth c H locs 0 0 (MQ below (va_Qv (fun (u : (Nat → Nat)) => am_R n u (va_up V i (Vl i * Vr i))) (mg_B D A (fun (u : (Nat → Nat)) => [mg_ob h 0 [.ref (q)], mg_al K q (n * 6) u, mg_ob hl1 0 [.ref (ql)], mg_al K ql (n * 6) dl, mg_ob hr1 0 [.ref (qr)], mg_al K qr (n * 6) dr])) A) args s 0 0 A) (F0 m 22 ls []) := by
        intro n0
        induction n0 using Nat.strongRecOn with
        | ind n0 ih22 =>
        intro j cj hm22 hJ hj ls H locs hl hw
        have a1 := am_prC_le hRl.1 hRr.1 hi hb hj hI.2.2 hJ
        refine mg_iload X 24 d_Am_setProduct_22 (lv_at hl 7 rfl) rfl ?_
        refine mg_iload X 26 d_Am_setProduct_24 (lv_at hl 6 rfl) rfl ?_
        refine mg_icmp_gt X 64 29 (by omega) (by omega) d_Am_setProduct_26 (by decide) rfl (fun hc => ?_) (fun hc => ?_)
        · -- pc 26 t
          refine mg_aload_n X 65 d_Am_setProduct_64 (lv_at hl 0 rfl) rfl ?_
          refine mg_get X hK hw 68 0 0 f_Am_11 rfl rfl d_Am_setProduct_65 rfl ?_
          refine mg_iload X 70 d_Am_setProduct_68 (lv_at hl 4 rfl) rfl ?_
          refine mg_iload X 72 d_Am_setProduct_70 (lv_at hl 6 rfl) rfl ?_
          refine mg_iadd X 73 (nI ((i * 6) + k)) d_Am_setProduct_72 (nI_add _ _) rfl ?_
          refine mg_lload X 75 d_Am_setProduct_73 (lv_at hl 5 rfl) rfl ?_
          refine mg_ldc2 X 78 1000000000 d_Am_setProduct_75 cw_Am_15 rfl rfl ?_
          refine mg_lrem X 79 d_Am_setProduct_78 (by omega) (by omega) (by omega) rfl ?_
          refine mg_last X hK hw 80 1 [mg_ob h 0 [.ref (q)], mg_al K q (n * 6) (va_up u ((i * 6) + k) (cj % 1000000000)), mg_ob hl1 0 [.ref (ql)], mg_al K ql (n * 6) dl, mg_ob hr1 0 [.ref (qr)], mg_al K qr (n * 6) dr] rfl (by omega) (by omega) d_Am_setProduct_79 rfl rfl (fun H locs hw => ?_)
          refine mg_lload X 82 d_Am_setProduct_80 (lv_at hl 5 rfl) rfl ?_
          refine mg_ldc2 X 85 1000000000 d_Am_setProduct_82 cw_Am_15 rfl rfl ?_
          refine mg_ldiv X 86 d_Am_setProduct_85 (by omega) (by omega) (by omega) rfl ?_
          refine mg_lstore X 88 [(5, .long (lN (cj / 1000000000))), (0, .ref (h)), (1, .int (nI (i))), (2, .ref (hl1)), (3, .ref (hr1)), (4, .int (nI (i * 6))), (7, .int (nI (k))), (8, .int (nI (j)))] d_Am_setProduct_86 hl (by decide) rfl rfl (fun ls hl => ?_)
          refine mg_iinc X 91 [(7, .int (nI (k + 1))), (5, .long (lN (cj / 1000000000))), (0, .ref (h)), (1, .int (nI (i))), (2, .ref (hl1)), (3, .ref (hr1)), (4, .int (nI (i * 6))), (8, .int (nI (j)))] (k + 1) d_Am_setProduct_88 hl (k := 6) rfl (mg_inc1 _) (by decide) rfl rfl (fun ls hl => ?_)
          refine mg_goto X 12 d_Am_setProduct_91 (by decide) ?_
          have hl : lv_has ls 9 [(0, .ref (h)), (1, .int (nI (i))), (2, .ref (hl1)), (3, .ref (hr1)), (4, .int (nI (i * 6))), (5, .long (lN (cj / 1000000000))), (7, .int (nI (k + 1)))] := lv_sub hl [2, 3, 4, 5, 6, 1, 0] rfl
          have hj1 : j = k + 1 := (by omega)
          exact ih12 _ (by omega) (k + 1) (cj / 1000000000) (va_up u ((i * 6) + k) (cj % 1000000000)) rfl (am_prS hI hRl.1 hRr.1 hi hb (hj1 ▸ hJ)) (by omega) ls _ _ hl hw
        · -- pc 26 f
          have a2 := am_pr_mul hRl.1 hRr.1 hi hb (show j ≤ k by omega)
          refine mg_lload X 31 d_Am_setProduct_29 (lv_at hl 5 rfl) rfl ?_
          refine mg_aload_n X 32 d_Am_setProduct_31 (lv_at hl 2 rfl) rfl ?_
          refine mg_get X hK hw 35 2 0 f_Am_11 rfl rfl d_Am_setProduct_32 rfl ?_
          refine mg_iload X 37 d_Am_setProduct_35 (lv_at hl 4 rfl) rfl ?_
          refine mg_iload X 39 d_Am_setProduct_37 (lv_at hl 7 rfl) rfl ?_
          refine mg_iadd X 40 (nI ((i * 6) + j)) d_Am_setProduct_39 (nI_add _ _) rfl ?_
          refine mg_lald X hK hw 41 3 rfl (by omega) (by omega) d_Am_setProduct_40 rfl ?_
          refine mg_aload_n X 42 d_Am_setProduct_41 (lv_at hl 3 rfl) rfl ?_
          refine mg_get X hK hw 45 4 0 f_Am_11 rfl rfl d_Am_setProduct_42 rfl ?_
          refine mg_iload X 47 d_Am_setProduct_45 (lv_at hl 4 rfl) rfl ?_
          refine mg_iload X 49 d_Am_setProduct_47 (lv_at hl 6 rfl) rfl ?_
          refine mg_iadd X 50 (nI ((i * 6) + k)) d_Am_setProduct_49 (nI_add _ _) rfl ?_
          refine mg_iload X 52 d_Am_setProduct_50 (lv_at hl 7 rfl) rfl ?_
          refine mg_isub X 53 (nI (((i * 6) + k) - j)) d_Am_setProduct_52 (pk_sub (by omega)) rfl ?_
          refine mg_lald X hK hw 54 5 rfl (by omega) (by omega) d_Am_setProduct_53 rfl ?_
          refine mg_lmul X 55 (lN ((dl ((i * 6) + j)) * (dr (((i * 6) + k) - j)))) d_Am_setProduct_54 (lN_mul _ _) rfl ?_
          refine mg_ladd X 56 (lN (cj + ((dl ((i * 6) + j)) * (dr (((i * 6) + k) - j))))) d_Am_setProduct_55 (lN_add _ _) rfl ?_
          refine mg_lstore X 58 [(5, .long (lN (cj + ((dl ((i * 6) + j)) * (dr (((i * 6) + k) - j)))))), (0, .ref (h)), (1, .int (nI (i))), (2, .ref (hl1)), (3, .ref (hr1)), (4, .int (nI (i * 6))), (7, .int (nI (k))), (8, .int (nI (j)))] d_Am_setProduct_56 hl (by decide) rfl rfl (fun ls hl => ?_)
          refine mg_iinc X 61 [(8, .int (nI (j + 1))), (5, .long (lN (cj + ((dl ((i * 6) + j)) * (dr (((i * 6) + k) - j)))))), (0, .ref (h)), (1, .int (nI (i))), (2, .ref (hl1)), (3, .ref (hr1)), (4, .int (nI (i * 6))), (7, .int (nI (k)))] (j + 1) d_Am_setProduct_58 hl (k := 7) rfl (mg_inc1 _) (by decide) rfl rfl (fun ls hl => ?_)
          refine mg_goto X 22 d_Am_setProduct_61 (by decide) ?_
          have hl : lv_has ls 9 [(0, .ref (h)), (1, .int (nI (i))), (2, .ref (hl1)), (3, .ref (hr1)), (4, .int (nI (i * 6))), (5, .long (lN (cj + ((dl ((i * 6) + j)) * (dr (((i * 6) + k) - j)))))), (7, .int (nI (k))), (8, .int (nI (j + 1)))] := lv_sub hl [2, 3, 4, 5, 6, 1, 7, 0] rfl
          exact ih22 _ (by omega) (j + 1) (cj + ((dl ((i * 6) + j)) * (dr (((i * 6) + k) - j)))) rfl (am_prCS hJ) (by omega) ls _ _ hl hw
      have hl : lv_has ls 9 [(0, .ref (h)), (1, .int (nI (i))), (2, .ref (hl1)), (3, .ref (hr1)), (4, .int (nI (i * 6))), (5, .long (lN (col))), (7, .int (nI (k))), (8, .int (nI (0)))] := lv_sub hl [1, 2, 3, 4, 5, 6, 7, 0] rfl
      exact L22 _ 0 col rfl (am_prC0 _ _ _ _ _) (by omega) ls _ _ hl hw
  have hl : lv_has ls 9 [(0, .ref (h)), (1, .int (nI (i))), (2, .ref (hl1)), (3, .ref (hr1)), (4, .int (nI (i * 6))), (5, .long (lN (0))), (7, .int (nI (0)))] := lv_sub hl [3, 4, 5, 6, 2, 1, 0] rfl
  exact L12 _ 0 0 d rfl (am_pr0 hR.1) (by omega) ls _ _ hl hw

set_option maxRecDepth 100000 in
set_option maxHeartbeats 4000000 in
theorem k_Am_blend (l : Launch) (D : va_G) (K : Nat → ClassId) (h : Nat) (q : Nat) (n : Nat) (x : Nat) (y : Nat) (r : Nat) (d : Nat → Nat) (V : Nat → Nat) (hn : n ≤ 64) (hR : am_R n d V) (hx : x < n) (hy : y < n) (hxy : x ≠ y) (hr16 : r ≤ 16) (hl1 : (16 - r) * V x + r * V y < 1000000000 ^ 6) (hl2 : r * V x + (16 - r) * V y < 1000000000 ^ 6) : mg_Mv l D K y_Am_blend b_Am_blend 18 ({ frames := 0, cells := 0, slots := 0, locals := 0 }) [.ref (h), .int (nI (x)), .int (nI (y)), .int (nI (r))] [mg_ob h 0 [.ref (q)], mg_al K q (n * 6) d] (fun (u : (Nat → Nat)) => am_R n u (va_up (va_up V x ((16 - r) * V x + r * V y)) y (r * V x + (16 - r) * V y))) (fun (u : (Nat → Nat)) => [mg_ob h 0 [.ref (q)], mg_al K q (n * 6) u]) := by
  intro sz
  refine mg_entry (Qc := fun A => va_Qv (fun (u : (Nat → Nat)) => am_R n u (va_up (va_up V x ((16 - r) * V x + r * V y)) y (r * V x + (16 - r) * V y))) (mg_B D A (fun (u : (Nat → Nat)) => [mg_ob h 0 [.ref (q)], mg_al K q (n * 6) u])) A) (by decide) (Nat.le_of_ble_eq_true rfl) ?_
  intro p e s m args below meth c A ls X hr hlk hnm hA hK hw hl
  have hl : lv_has ls 18 [(0, .ref (h)), (1, .int (nI (x))), (2, .int (nI (y))), (3, .int (nI (r)))] := hl
  refine mg_bipush X 2 16 d_Am_blend_0 mg_cb_16 rfl ?_
  refine mg_iload_n X 3 d_Am_blend_2 (lv_at hl 3 rfl) rfl ?_
  refine mg_isub X 4 (nI (16 - r)) d_Am_blend_3 (pk_sub (by omega)) rfl ?_
  refine mg_istore X 6 [(4, .int (nI (16 - r))), (0, .ref (h)), (1, .int (nI (x))), (2, .int (nI (y))), (3, .int (nI (r)))] d_Am_blend_4 hl (by decide) rfl rfl (fun ls hl => ?_)
  refine mg_lconst X 7 0 d_Am_blend_6 rfl rfl ?_
  refine mg_lstore X 9 [(5, .long (lN (0))), (4, .int (nI (16 - r))), (0, .ref (h)), (1, .int (nI (x))), (2, .int (nI (y))), (3, .int (nI (r)))] d_Am_blend_7 hl (by decide) rfl rfl (fun ls hl => ?_)
  refine mg_lconst X 10 0 d_Am_blend_9 rfl rfl ?_
  refine mg_lstore X 12 [(7, .long (lN (0))), (5, .long (lN (0))), (4, .int (nI (16 - r))), (0, .ref (h)), (1, .int (nI (x))), (2, .int (nI (y))), (3, .int (nI (r)))] d_Am_blend_10 hl (by decide) rfl rfl (fun ls hl => ?_)
  refine mg_iconst X 13 0 d_Am_blend_12 mg_ci_0 rfl ?_
  refine mg_istore X 15 [(9, .int (nI (0))), (7, .long (lN (0))), (5, .long (lN (0))), (4, .int (nI (16 - r))), (0, .ref (h)), (1, .int (nI (x))), (2, .int (nI (y))), (3, .int (nI (r)))] d_Am_blend_13 hl (by decide) rfl rfl (fun ls hl => ?_)
  have L15 : ∀ (n0 : Nat) (k : Nat) (c1 : Nat) (c2 : Nat) (u : Nat → Nat), n0 = 6 - k → (am_blI n x y r k c1 c2 d u) → (k ≤ 6) → ∀ (ls : Array Slot) (H : Heap) (locs : List Loc), lv_has ls 18 [(0, .ref (h)), (1, .int (nI (x))), (2, .int (nI (y))), (3, .int (nI (r))), (4, .int (nI (16 - r))), (5, .long (lN (c1))), (7, .long (lN (c2))), (9, .int (nI (k)))] → mg_H D A s.heap H locs [mg_ob h 0 [.ref (q)], mg_al K q (n * 6) u] → W p l e ({ frames := 0, cells := 0, slots := 0, locals := 0 }) s m args below meth c H locs 0 0 (MQ below (va_Qv (fun (u : (Nat → Nat)) => am_R n u (va_up (va_up V x ((16 - r) * V x + r * V y)) y (r * V x + (16 - r) * V y))) (mg_B D A (fun (u : (Nat → Nat)) => [mg_ob h 0 [.ref (q)], mg_al K q (n * 6) u])) A) args s 0 0 A) (F0 m 15 ls []) := by
    intro n0
    induction n0 using Nat.strongRecOn with
    | ind n0 ih15 =>
    intro k c1 c2 u hm15 hI hk ls H locs hl hw
    refine mg_iload X 17 d_Am_blend_15 (lv_at hl 7 rfl) rfl ?_
    refine mg_bipush X 19 6 d_Am_blend_17 mg_cb_6 rfl ?_
    refine mg_icmp_ge X 142 22 (by omega) (by omega) d_Am_blend_19 (by decide) rfl (fun hb => ?_) (fun hb => ?_)
    · -- pc 19 t
      exact mg_vret X hr hlk (u) (by obtain rfl : k = 6 := (by omega); exact am_blF hI hR hx hy hl1 hl2) hw d_Am_blend_142
    · -- pc 19 f
      have a1 := am_bl_lt hI hx hy hr16 hb
      refine mg_aload_n X 23 d_Am_blend_22 (lv_at hl 0 rfl) rfl ?_
      refine mg_get X hK hw 26 0 0 f_Am_11 rfl rfl d_Am_blend_23 rfl ?_
      refine mg_iload_n X 27 d_Am_blend_26 (lv_at hl 1 rfl) rfl ?_
      refine mg_bipush X 29 6 d_Am_blend_27 mg_cb_6 rfl ?_
      refine mg_imul X 30 (nI (x * 6)) d_Am_blend_29 (pk_mul _ _) rfl ?_
      refine mg_iload X 32 d_Am_blend_30 (lv_at hl 7 rfl) rfl ?_
      refine mg_iadd X 33 (nI ((x * 6) + k)) d_Am_blend_32 (nI_add _ _) rfl ?_
      refine mg_lald X hK hw 34 1 rfl (by omega) (by omega) d_Am_blend_33 rfl ?_
      refine mg_lstore X 36 [(10, .long (lN (u ((x * 6) + k)))), (0, .ref (h)), (1, .int (nI (x))), (2, .int (nI (y))), (3, .int (nI (r))), (4, .int (nI (16 - r))), (5, .long (lN (c1))), (7, .long (lN (c2))), (9, .int (nI (k)))] d_Am_blend_34 hl (by decide) rfl rfl (fun ls hl => ?_)
      refine mg_aload_n X 37 d_Am_blend_36 (lv_at hl 1 rfl) rfl ?_
      refine mg_get X hK hw 40 0 0 f_Am_11 rfl rfl d_Am_blend_37 rfl ?_
      refine mg_iload_n X 41 d_Am_blend_40 (lv_at hl 3 rfl) rfl ?_
      refine mg_bipush X 43 6 d_Am_blend_41 mg_cb_6 rfl ?_
      refine mg_imul X 44 (nI (y * 6)) d_Am_blend_43 (pk_mul _ _) rfl ?_
      refine mg_iload X 46 d_Am_blend_44 (lv_at hl 8 rfl) rfl ?_
      refine mg_iadd X 47 (nI ((y * 6) + k)) d_Am_blend_46 (nI_add _ _) rfl ?_
      refine mg_lald X hK hw 48 1 rfl (by omega) (by omega) d_Am_blend_47 rfl ?_
      refine mg_lstore X 50 [(12, .long (lN (u ((y * 6) + k)))), (10, .long (lN (u ((x * 6) + k)))), (0, .ref (h)), (1, .int (nI (x))), (2, .int (nI (y))), (3, .int (nI (r))), (4, .int (nI (16 - r))), (5, .long (lN (c1))), (7, .long (lN (c2))), (9, .int (nI (k)))] d_Am_blend_48 hl (by decide) rfl rfl (fun ls hl => ?_)
      refine mg_iload X 52 d_Am_blend_50 (lv_at hl 6 rfl) rfl ?_
      refine mg_i2l X 53 d_Am_blend_52 (by omega) rfl ?_
      refine mg_lload X 55 d_Am_blend_53 (lv_at hl 1 rfl) rfl ?_
      refine mg_lmul X 56 (lN ((16 - r) * (u ((x * 6) + k)))) d_Am_blend_55 (lN_mul _ _) rfl ?_
      refine mg_iload_n X 57 d_Am_blend_56 (lv_at hl 5 rfl) rfl ?_
      refine mg_i2l X 58 d_Am_blend_57 (by omega) rfl ?_
      refine mg_lload X 60 d_Am_blend_58 (lv_at hl 0 rfl) rfl ?_
      refine mg_lmul X 61 (lN (r * (u ((y * 6) + k)))) d_Am_blend_60 (lN_mul _ _) rfl ?_
      refine mg_ladd X 62 (lN (((16 - r) * (u ((x * 6) + k))) + (r * (u ((y * 6) + k))))) d_Am_blend_61 (lN_add _ _) rfl ?_
      refine mg_lload X 64 d_Am_blend_62 (lv_at hl 7 rfl) rfl ?_
      refine mg_ladd X 65 (lN ((((16 - r) * (u ((x * 6) + k))) + (r * (u ((y * 6) + k)))) + c1)) d_Am_blend_64 (lN_add _ _) rfl ?_
      refine mg_lstore X 67 [(14, .long (lN ((((16 - r) * (u ((x * 6) + k))) + (r * (u ((y * 6) + k)))) + c1))), (12, .long (lN (u ((y * 6) + k)))), (10, .long (lN (u ((x * 6) + k)))), (0, .ref (h)), (1, .int (nI (x))), (2, .int (nI (y))), (3, .int (nI (r))), (4, .int (nI (16 - r))), (5, .long (lN (c1))), (7, .long (lN (c2))), (9, .int (nI (k)))] d_Am_blend_65 hl (by decide) rfl rfl (fun ls hl => ?_)
      refine mg_iload_n X 68 d_Am_blend_67 (lv_at hl 6 rfl) rfl ?_
      refine mg_i2l X 69 d_Am_blend_68 (by omega) rfl ?_
      refine mg_lload X 71 d_Am_blend_69 (lv_at hl 2 rfl) rfl ?_
      refine mg_lmul X 72 (lN (r * (u ((x * 6) + k)))) d_Am_blend_71 (lN_mul _ _) rfl ?_
      refine mg_iload X 74 d_Am_blend_72 (lv_at hl 7 rfl) rfl ?_
      refine mg_i2l X 75 d_Am_blend_74 (by omega) rfl ?_
      refine mg_lload X 77 d_Am_blend_75 (lv_at hl 1 rfl) rfl ?_
      refine mg_lmul X 78 (lN ((16 - r) * (u ((y * 6) + k)))) d_Am_blend_77 (lN_mul _ _) rfl ?_
      refine mg_ladd X 79 (lN ((r * (u ((x * 6) + k))) + ((16 - r) * (u ((y * 6) + k))))) d_Am_blend_78 (lN_add _ _) rfl ?_
      refine mg_lload X 81 d_Am_blend_79 (lv_at hl 9 rfl) rfl ?_
      refine mg_ladd X 82 (lN (((r * (u ((x * 6) + k))) + ((16 - r) * (u ((y * 6) + k)))) + c2)) d_Am_blend_81 (lN_add _ _) rfl ?_
      refine mg_lstore X 84 [(16, .long (lN (((r * (u ((x * 6) + k))) + ((16 - r) * (u ((y * 6) + k)))) + c2))), (14, .long (lN ((((16 - r) * (u ((x * 6) + k))) + (r * (u ((y * 6) + k)))) + c1))), (12, .long (lN (u ((y * 6) + k)))), (10, .long (lN (u ((x * 6) + k)))), (0, .ref (h)), (1, .int (nI (x))), (2, .int (nI (y))), (3, .int (nI (r))), (4, .int (nI (16 - r))), (5, .long (lN (c1))), (7, .long (lN (c2))), (9, .int (nI (k)))] d_Am_blend_82 hl (by decide) rfl rfl (fun ls hl => ?_)
      refine mg_aload_n X 85 d_Am_blend_84 (lv_at hl 4 rfl) rfl ?_
      refine mg_get X hK hw 88 0 0 f_Am_11 rfl rfl d_Am_blend_85 rfl ?_
      refine mg_iload_n X 89 d_Am_blend_88 (lv_at hl 5 rfl) rfl ?_
      refine mg_bipush X 91 6 d_Am_blend_89 mg_cb_6 rfl ?_
      refine mg_imul X 92 (nI (x * 6)) d_Am_blend_91 (pk_mul _ _) rfl ?_
      refine mg_iload X 94 d_Am_blend_92 (lv_at hl 11 rfl) rfl ?_
      refine mg_iadd X 95 (nI ((x * 6) + k)) d_Am_blend_94 (nI_add _ _) rfl ?_
      refine mg_lload X 97 d_Am_blend_95 (lv_at hl 1 rfl) rfl ?_
      refine mg_ldc2 X 100 1000000000 d_Am_blend_97 cw_Am_15 rfl rfl ?_
      refine mg_lrem X 101 d_Am_blend_100 (a1.1) (by omega) (by omega) rfl ?_
      refine mg_last X hK hw 102 1 [mg_ob h 0 [.ref (q)], mg_al K q (n * 6) (va_up u ((x * 6) + k) (((((16 - r) * (u ((x * 6) + k))) + (r * (u ((y * 6) + k)))) + c1) % 1000000000))] rfl (by omega) (by omega) d_Am_blend_101 rfl rfl (fun H locs hw => ?_)
      refine mg_aload_n X 103 d_Am_blend_102 (lv_at hl 4 rfl) rfl ?_
      refine mg_get X hK hw 106 0 0 f_Am_11 rfl rfl d_Am_blend_103 rfl ?_
      refine mg_iload_n X 107 d_Am_blend_106 (lv_at hl 6 rfl) rfl ?_
      refine mg_bipush X 109 6 d_Am_blend_107 mg_cb_6 rfl ?_
      refine mg_imul X 110 (nI (y * 6)) d_Am_blend_109 (pk_mul _ _) rfl ?_
      refine mg_iload X 112 d_Am_blend_110 (lv_at hl 11 rfl) rfl ?_
      refine mg_iadd X 113 (nI ((y * 6) + k)) d_Am_blend_112 (nI_add _ _) rfl ?_
      refine mg_lload X 115 d_Am_blend_113 (lv_at hl 0 rfl) rfl ?_
      refine mg_ldc2 X 118 1000000000 d_Am_blend_115 cw_Am_15 rfl rfl ?_
      refine mg_lrem X 119 d_Am_blend_118 (a1.2) (by omega) (by omega) rfl ?_
      refine mg_last X hK hw 120 1 [mg_ob h 0 [.ref (q)], mg_al K q (n * 6) (va_up (va_up u ((x * 6) + k) (((((16 - r) * (u ((x * 6) + k))) + (r * (u ((y * 6) + k)))) + c1) % 1000000000)) ((y * 6) + k) ((((r * (u ((x * 6) + k))) + ((16 - r) * (u ((y * 6) + k)))) + c2) % 1000000000))] rfl (by omega) (by omega) d_Am_blend_119 rfl rfl (fun H locs hw => ?_)
      refine mg_lload X 122 d_Am_blend_120 (lv_at hl 1 rfl) rfl ?_
      refine mg_ldc2 X 125 1000000000 d_Am_blend_122 cw_Am_15 rfl rfl ?_
      refine mg_ldiv X 126 d_Am_blend_125 (a1.1) (by omega) (by omega) rfl ?_
      refine mg_lstore X 128 [(5, .long (lN (((((16 - r) * (u ((x * 6) + k))) + (r * (u ((y * 6) + k)))) + c1) / 1000000000))), (16, .long (lN (((r * (u ((x * 6) + k))) + ((16 - r) * (u ((y * 6) + k)))) + c2))), (14, .long (lN ((((16 - r) * (u ((x * 6) + k))) + (r * (u ((y * 6) + k)))) + c1))), (12, .long (lN (u ((y * 6) + k)))), (10, .long (lN (u ((x * 6) + k)))), (0, .ref (h)), (1, .int (nI (x))), (2, .int (nI (y))), (3, .int (nI (r))), (4, .int (nI (16 - r))), (7, .long (lN (c2))), (9, .int (nI (k)))] d_Am_blend_126 hl (by decide) rfl rfl (fun ls hl => ?_)
      refine mg_lload X 130 d_Am_blend_128 (lv_at hl 1 rfl) rfl ?_
      refine mg_ldc2 X 133 1000000000 d_Am_blend_130 cw_Am_15 rfl rfl ?_
      refine mg_ldiv X 134 d_Am_blend_133 (a1.2) (by omega) (by omega) rfl ?_
      refine mg_lstore X 136 [(7, .long (lN ((((r * (u ((x * 6) + k))) + ((16 - r) * (u ((y * 6) + k)))) + c2) / 1000000000))), (5, .long (lN (((((16 - r) * (u ((x * 6) + k))) + (r * (u ((y * 6) + k)))) + c1) / 1000000000))), (16, .long (lN (((r * (u ((x * 6) + k))) + ((16 - r) * (u ((y * 6) + k)))) + c2))), (14, .long (lN ((((16 - r) * (u ((x * 6) + k))) + (r * (u ((y * 6) + k)))) + c1))), (12, .long (lN (u ((y * 6) + k)))), (10, .long (lN (u ((x * 6) + k)))), (0, .ref (h)), (1, .int (nI (x))), (2, .int (nI (y))), (3, .int (nI (r))), (4, .int (nI (16 - r))), (9, .int (nI (k)))] d_Am_blend_134 hl (by decide) rfl rfl (fun ls hl => ?_)
      refine mg_iinc X 139 [(9, .int (nI (k + 1))), (7, .long (lN ((((r * (u ((x * 6) + k))) + ((16 - r) * (u ((y * 6) + k)))) + c2) / 1000000000))), (5, .long (lN (((((16 - r) * (u ((x * 6) + k))) + (r * (u ((y * 6) + k)))) + c1) / 1000000000))), (16, .long (lN (((r * (u ((x * 6) + k))) + ((16 - r) * (u ((y * 6) + k)))) + c2))), (14, .long (lN ((((16 - r) * (u ((x * 6) + k))) + (r * (u ((y * 6) + k)))) + c1))), (12, .long (lN (u ((y * 6) + k)))), (10, .long (lN (u ((x * 6) + k)))), (0, .ref (h)), (1, .int (nI (x))), (2, .int (nI (y))), (3, .int (nI (r))), (4, .int (nI (16 - r)))] (k + 1) d_Am_blend_136 hl (k := 11) rfl (mg_inc1 _) (by decide) rfl rfl (fun ls hl => ?_)
      refine mg_goto X 15 d_Am_blend_139 (by decide) ?_
      have hl : lv_has ls 18 [(0, .ref (h)), (1, .int (nI (x))), (2, .int (nI (y))), (3, .int (nI (r))), (4, .int (nI (16 - r))), (5, .long (lN (((((16 - r) * (u ((x * 6) + k))) + (r * (u ((y * 6) + k)))) + c1) / 1000000000))), (7, .long (lN ((((r * (u ((x * 6) + k))) + ((16 - r) * (u ((y * 6) + k)))) + c2) / 1000000000))), (9, .int (nI (k + 1)))] := lv_sub hl [7, 8, 9, 10, 11, 2, 1, 0] rfl
      exact ih15 _ (by omega) (k + 1) (((((16 - r) * (u ((x * 6) + k))) + (r * (u ((y * 6) + k)))) + c1) / 1000000000) ((((r * (u ((x * 6) + k))) + ((16 - r) * (u ((y * 6) + k)))) + c2) / 1000000000) (va_up (va_up u ((x * 6) + k) (((((16 - r) * (u ((x * 6) + k))) + (r * (u ((y * 6) + k)))) + c1) % 1000000000)) ((y * 6) + k) ((((r * (u ((x * 6) + k))) + ((16 - r) * (u ((y * 6) + k)))) + c2) % 1000000000)) rfl (am_blS hI hx hy hxy hr16 hb) (by omega) ls _ _ hl hw
  have hl : lv_has ls 18 [(0, .ref (h)), (1, .int (nI (x))), (2, .int (nI (y))), (3, .int (nI (r))), (4, .int (nI (16 - r))), (5, .long (lN (0))), (7, .long (lN (0))), (9, .int (nI (0)))] := lv_sub hl [4, 5, 6, 7, 3, 2, 1, 0] rfl
  exact L15 _ 0 0 0 d rfl (am_bl0 hR.1) (by omega) ls _ _ hl hw

set_option maxRecDepth 100000 in
set_option maxHeartbeats 4000000 in
theorem k_Am_isZero (l : Launch) (D : va_G) (K : Nat → ClassId) (h : Nat) (q : Nat) (n : Nat) (i : Nat) (d : Nat → Nat) (V : Nat → Nat) (hn : n ≤ 64) (hR : am_R n d V) (hi : i < n) : mg_Mi l D K y_Am_isZero b_Am_isZero 3 (.boolean) ({ frames := 0, cells := 0, slots := 0, locals := 0 }) [.ref (h), .int (nI (i))] [mg_ob h 0 [.ref (q)], mg_al K q (n * 6) d] (fun (r : Int32) (_ : Unit) => r = nI (ft_c (V i = 0))) (fun (_ : Unit) => [mg_ob h 0 [.ref (q)], mg_al K q (n * 6) d]) := by
  intro sz
  refine mg_entry (Qc := fun A => va_Qi (fun (r : Int32) (_ : Unit) => r = nI (ft_c (V i = 0))) (mg_B D A (fun (_ : Unit) => [mg_ob h 0 [.ref (q)], mg_al K q (n * 6) d])) A) (by decide) (Nat.le_of_ble_eq_true rfl) ?_
  intro p e s m args below meth c A ls X hr hlk hnm hA hK hw hl
  have hl : lv_has ls 3 [(0, .ref (h)), (1, .int (nI (i)))] := hl
  refine mg_iconst X 1 0 d_Am_isZero_0 mg_ci_0 rfl ?_
  refine mg_istore_n X 2 [(2, .int (nI (0))), (0, .ref (h)), (1, .int (nI (i)))] d_Am_isZero_1 hl (by decide) rfl rfl (fun ls hl => ?_)
  have L2 : ∀ (n0 : Nat) (k : Nat), n0 = 6 - k → (∀ j, j < k → d (i * 6 + j) = 0) → (k ≤ 6) → ∀ (ls : Array Slot) (H : Heap) (locs : List Loc), lv_has ls 3 [(0, .ref (h)), (1, .int (nI (i))), (2, .int (nI (k)))] → mg_H D A s.heap H locs [mg_ob h 0 [.ref (q)], mg_al K q (n * 6) d] → W p l e ({ frames := 0, cells := 0, slots := 0, locals := 0 }) s m args below meth c H locs 0 0 (MQ below (va_Qi (fun (r : Int32) (_ : Unit) => r = nI (ft_c (V i = 0))) (mg_B D A (fun (_ : Unit) => [mg_ob h 0 [.ref (q)], mg_al K q (n * 6) d])) A) args s 0 0 A) (F0 m 2 ls []) := by
    intro n0
    induction n0 using Nat.strongRecOn with
    | ind n0 ih2 =>
    intro k hm2 hI hk ls H locs hl hw
    refine mg_iload_n X 3 d_Am_isZero_2 (lv_at hl 2 rfl) rfl ?_
    refine mg_bipush X 5 6 d_Am_isZero_3 mg_cb_6 rfl ?_
    refine mg_icmp_ge X 32 8 (by omega) (by omega) d_Am_isZero_5 (by decide) rfl (fun hb => ?_) (fun hb => ?_)
    · -- pc 5 t
      refine mg_iconst X 33 1 d_Am_isZero_32 mg_ci_1 rfl ?_
      exact mg_iret X hr hlk (mg_nz (by omega)) (()) (by rw [ft_c1 (am_zero hR hi (fun j hj => hI j (by omega)))]) hw d_Am_isZero_33
    · -- pc 5 f
      have a1 := hR.1 (i * 6 + k) (by omega)
      refine mg_aload_n X 9 d_Am_isZero_8 (lv_at hl 0 rfl) rfl ?_
      refine mg_get X hK hw 12 0 0 f_Am_11 rfl rfl d_Am_isZero_9 rfl ?_
      refine mg_iload_n X 13 d_Am_isZero_12 (lv_at hl 1 rfl) rfl ?_
      refine mg_bipush X 15 6 d_Am_isZero_13 mg_cb_6 rfl ?_
      refine mg_imul X 16 (nI (i * 6)) d_Am_isZero_15 (pk_mul _ _) rfl ?_
      refine mg_iload_n X 17 d_Am_isZero_16 (lv_at hl 2 rfl) rfl ?_
      refine mg_iadd X 18 (nI ((i * 6) + k)) d_Am_isZero_17 (nI_add _ _) rfl ?_
      refine mg_lald X hK hw 19 1 rfl (by omega) (by omega) d_Am_isZero_18 rfl ?_
      refine mg_lconst X 20 0 d_Am_isZero_19 rfl rfl ?_
      refine mg_lcmp_eq X 26 24 (by omega) (by omega) d_Am_isZero_20 d_Am_isZero_21 (by decide) rfl (fun hz => ?_) (fun hz => ?_)
      · -- pc 20 t
        refine mg_iinc X 29 [(2, .int (nI (k + 1))), (0, .ref (h)), (1, .int (nI (i)))] (k + 1) d_Am_isZero_26 hl (k := 2) rfl (mg_inc1 _) (by decide) rfl rfl (fun ls hl => ?_)
        refine mg_goto X 2 d_Am_isZero_29 (by decide) ?_
        have hl : lv_has ls 3 [(0, .ref (h)), (1, .int (nI (i))), (2, .int (nI (k + 1)))] := lv_sub hl [1, 2, 0] rfl
        exact ih2 _ (by omega) (k + 1) rfl (fun j hj => by rcases (show j < k ∨ j = k by omega) with h9 | h9; exact hI j h9; rw [h9]; exact hz) (by omega) ls _ _ hl hw
      · -- pc 20 f
        refine mg_iconst X 25 0 d_Am_isZero_24 mg_ci_0 rfl ?_
        exact mg_iret X hr hlk (mg_nz (by omega)) (()) (by rw [ft_c0 (am_nonzero hR hi hb hz)]) hw d_Am_isZero_25
  have hl : lv_has ls 3 [(0, .ref (h)), (1, .int (nI (i))), (2, .int (nI (0)))] := lv_sub hl [1, 2, 0] rfl
  exact L2 _ 0 rfl (fun j hj => absurd hj (Nat.not_lt_zero j)) (by omega) ls _ _ hl hw

set_option maxRecDepth 100000 in
set_option maxHeartbeats 4000000 in
theorem k_Am_compare (l : Launch) (D : va_G) (K : Nat → ClassId) (h : Nat) (q : Nat) (n : Nat) (x : Nat) (y : Nat) (d : Nat → Nat) (V : Nat → Nat) (hn : n ≤ 64) (hR : am_R n d V) (hx : x < n) (hy : y < n) : mg_Mi l D K y_Am_compare b_Am_compare 8 (.int) ({ frames := 0, cells := 0, slots := 0, locals := 0 }) [.ref (h), .int (nI (x)), .int (nI (y))] [mg_ob h 0 [.ref (q)], mg_al K q (n * 6) d] (fun (r : Int32) (_ : Unit) => r = nI (mg_cmp (V x) (V y))) (fun (_ : Unit) => [mg_ob h 0 [.ref (q)], mg_al K q (n * 6) d]) := by
  intro sz
  refine mg_entry (Qc := fun A => va_Qi (fun (r : Int32) (_ : Unit) => r = nI (mg_cmp (V x) (V y))) (mg_B D A (fun (_ : Unit) => [mg_ob h 0 [.ref (q)], mg_al K q (n * 6) d])) A) (by decide) (Nat.le_of_ble_eq_true rfl) ?_
  intro p e s m args below meth c A ls X hr hlk hnm hA hK hw hl
  have hl : lv_has ls 8 [(0, .ref (h)), (1, .int (nI (x))), (2, .int (nI (y)))] := hl
  refine mg_iconst X 1 5 d_Am_compare_0 mg_ci_5 rfl ?_
  refine mg_istore_n X 2 [(3, .int (nI (5))), (0, .ref (h)), (1, .int (nI (x))), (2, .int (nI (y)))] d_Am_compare_1 hl (by decide) rfl rfl (fun ls hl => ?_)
  have L2 : ∀ (n0 : Nat) (k1 : Nat), n0 = k1 → (∀ j, k1 ≤ j → j < 6 → d (x * 6 + j) = d (y * 6 + j)) → (k1 ≤ 6) → ∀ (ls : Array Slot) (H : Heap) (locs : List Loc), lv_has ls 8 [(0, .ref (h)), (1, .int (nI (x))), (2, .int (nI (y))), (3, .int (mg_dn k1))] → mg_H D A s.heap H locs [mg_ob h 0 [.ref (q)], mg_al K q (n * 6) d] → W p l e ({ frames := 0, cells := 0, slots := 0, locals := 0 }) s m args below meth c H locs 0 0 (MQ below (va_Qi (fun (r : Int32) (_ : Unit) => r = nI (mg_cmp (V x) (V y))) (mg_B D A (fun (_ : Unit) => [mg_ob h 0 [.ref (q)], mg_al K q (n * 6) d])) A) args s 0 0 A) (F0 m 2 ls []) := by
    intro n0
    induction n0 using Nat.strongRecOn with
    | ind n0 ih2 =>
    intro k1 hm2 hI hk ls H locs hl hw
    cases k1 with
    | zero =>
      have hl : lv_has ls 8 [(0, .ref (h)), (1, .int (nI (x))), (2, .int (nI (y))), (3, .int (nI (4294967295)))] := hl
      refine mg_iload_n X 3 d_Am_compare_2 (lv_at hl 3 rfl) rfl ?_
      refine mg_iflt_y X 60 d_Am_compare_3 (by decide) ?_
      refine mg_iconst X 61 0 d_Am_compare_60 mg_ci_0 rfl ?_
      exact mg_iret X hr hlk (rfl) (()) (by rw [am_cmp_eq hR hx hy (fun j hj => hI j (by omega) hj)]) hw d_Am_compare_61
    | succ k =>
      have hl : lv_has ls 8 [(0, .ref (h)), (1, .int (nI (x))), (2, .int (nI (y))), (3, .int (nI (k)))] := hl
      refine mg_iload_n X 3 d_Am_compare_2 (lv_at hl 3 rfl) rfl ?_
      refine mg_iflt_n X 6 (by omega) (tgt := 60) d_Am_compare_3 (by decide) rfl ?_
      refine mg_aload_n X 7 d_Am_compare_6 (lv_at hl 0 rfl) rfl ?_
      refine mg_get X hK hw 10 0 0 f_Am_11 rfl rfl d_Am_compare_7 rfl ?_
      refine mg_iload_n X 11 d_Am_compare_10 (lv_at hl 1 rfl) rfl ?_
      refine mg_bipush X 13 6 d_Am_compare_11 mg_cb_6 rfl ?_
      refine mg_imul X 14 (nI (x * 6)) d_Am_compare_13 (pk_mul _ _) rfl ?_
      refine mg_iload_n X 15 d_Am_compare_14 (lv_at hl 3 rfl) rfl ?_
      refine mg_iadd X 16 (nI ((x * 6) + k)) d_Am_compare_15 (nI_add _ _) rfl ?_
      refine mg_lald X hK hw 17 1 rfl (by omega) (by omega) d_Am_compare_16 rfl ?_
      refine mg_lstore X 19 [(4, .long (lN (d ((x * 6) + k)))), (0, .ref (h)), (1, .int (nI (x))), (2, .int (nI (y))), (3, .int (nI (k)))] d_Am_compare_17 hl (by decide) rfl rfl (fun ls hl => ?_)
      refine mg_aload_n X 20 d_Am_compare_19 (lv_at hl 1 rfl) rfl ?_
      refine mg_get X hK hw 23 0 0 f_Am_11 rfl rfl d_Am_compare_20 rfl ?_
      refine mg_iload_n X 24 d_Am_compare_23 (lv_at hl 3 rfl) rfl ?_
      refine mg_bipush X 26 6 d_Am_compare_24 mg_cb_6 rfl ?_
      refine mg_imul X 27 (nI (y * 6)) d_Am_compare_26 (pk_mul _ _) rfl ?_
      refine mg_iload_n X 28 d_Am_compare_27 (lv_at hl 4 rfl) rfl ?_
      refine mg_iadd X 29 (nI ((y * 6) + k)) d_Am_compare_28 (nI_add _ _) rfl ?_
      refine mg_lald X hK hw 30 1 rfl (by omega) (by omega) d_Am_compare_29 rfl ?_
      refine mg_lstore X 32 [(6, .long (lN (d ((y * 6) + k)))), (4, .long (lN (d ((x * 6) + k)))), (0, .ref (h)), (1, .int (nI (x))), (2, .int (nI (y))), (3, .int (nI (k)))] d_Am_compare_30 hl (by decide) rfl rfl (fun ls hl => ?_)
      refine mg_lload X 34 d_Am_compare_32 (lv_at hl 1 rfl) rfl ?_
      refine mg_lload X 36 d_Am_compare_34 (lv_at hl 0 rfl) rfl ?_
      refine mg_lcmp_eq X 54 40 (by have := hR.1 (x * 6 + k) (by omega); omega) (by have := hR.1 (y * 6 + k) (by omega); omega) d_Am_compare_36 d_Am_compare_37 (by decide) rfl (fun hz => ?_) (fun hz => ?_)
      · -- pc 36 t
        refine mg_iincD X 57 [(3, .int (mg_dn k)), (6, .long (lN (d ((y * 6) + k)))), (4, .long (lN (d ((x * 6) + k)))), (0, .ref (h)), (1, .int (nI (x))), (2, .int (nI (y)))] d_Am_compare_54 hl (k := 5) rfl (by decide) rfl rfl (fun ls hl => ?_)
        refine mg_goto X 2 d_Am_compare_57 (by decide) ?_
        have hl : lv_has ls 8 [(0, .ref (h)), (1, .int (nI (x))), (2, .int (nI (y))), (3, .int (mg_dn k))] := lv_sub hl [3, 4, 5, 0] rfl
        exact ih2 _ (by omega) k rfl (fun j h1 h2 => by rcases (show k + 1 ≤ j ∨ j = k by omega) with h9 | h9; exact hI j h9 h2; rw [h9]; exact hz) (by omega) ls _ _ hl hw
      · -- pc 36 f
        refine mg_lload X 42 d_Am_compare_40 (lv_at hl 1 rfl) rfl ?_
        refine mg_lload X 44 d_Am_compare_42 (lv_at hl 0 rfl) rfl ?_
        refine mg_lcmp_le X 52 48 (by have := hR.1 (x * 6 + k) (by omega); omega) (by have := hR.1 (y * 6 + k) (by omega); omega) d_Am_compare_44 d_Am_compare_45 (by decide) rfl (fun hg => ?_) (fun hg => ?_)
        · -- pc 44 t
          refine mg_iconst X 53 4294967295 d_Am_compare_52 mg_ci_m1 rfl ?_
          exact mg_iret X hr hlk (rfl) (()) (by rw [am_cmp_lt hR hx hy (show k < 6 by omega) (fun j h1 h2 => hI j (by omega) h2) (by omega)]) hw d_Am_compare_53
        · -- pc 44 f
          refine mg_iconst X 49 1 d_Am_compare_48 mg_ci_1 rfl ?_
          refine mg_goto X 53 d_Am_compare_49 (by decide) ?_
          exact mg_iret X hr hlk (rfl) (()) (by rw [am_cmp_gt hR hx hy (show k < 6 by omega) (fun j h1 h2 => hI j (by omega) h2) hg]) hw d_Am_compare_53
  have hl : lv_has ls 8 [(0, .ref (h)), (1, .int (nI (x))), (2, .int (nI (y))), (3, .int (nI (5)))] := lv_sub hl [1, 2, 3, 0] rfl
  exact L2 _ (5 + 1) rfl (fun j h1 h2 => by omega) (by omega) ls _ _ hl hw
end
section
theorem mg_ci_2 : Int32.ofInt (2) = nI 2 := by decide +kernel
theorem mg_ci_3 : Int32.ofInt (3) = nI 3 := by decide +kernel
theorem f_Fa_21 : mg_F "LinkedMarkers$Family" 21 1 3 := ⟨R_Fa, T_Fa, 5, rfl, by decide, in_Fa, rfl, Or.inl (mg_in 64 (by decide +kernel) (by decide +kernel))⟩
theorem f_Fa_25 : mg_F "LinkedMarkers$Family" 25 1 4 := ⟨R_Fa, T_Fa, 5, rfl, by decide, in_Fa, rfl, Or.inl (mg_in 67 (by decide +kernel) (by decide +kernel))⟩
theorem g_Fa_28 : mg_CV "LinkedMarkers$Family" 28 y_Fa_bits b_Fa_bits 1 (some .int) 0 := ⟨Or.inl (mg_in 206 (by decide +kernel) (by decide +kernel)), (mg_in 207 (by decide +kernel) (by decide +kernel)), (mg_in 208 (by decide +kernel) (by decide +kernel)), (mg_in 35 (by decide +kernel) (by decide +kernel)), (mg_in 209 (by decide +kernel) (by decide +kernel)), by decide, by decide, by decide +kernel⟩
theorem g_Fa_32 : mg_CV "LinkedMarkers$Family" 32 y_Fa_persons b_Fa_persons 1 (some .int) 0 := ⟨Or.inl (mg_in 301 (by decide +kernel) (by decide +kernel)), (mg_in 199 (by decide +kernel) (by decide +kernel)), (mg_in 200 (by decide +kernel) (by decide +kernel)), (mg_in 35 (by decide +kernel) (by decide +kernel)), (mg_in 201 (by decide +kernel) (by decide +kernel)), by decide, by decide, by decide +kernel⟩
theorem g_Fa_35 : mg_CV "LinkedMarkers$Family" 35 y_Fa_ways b_Fa_ways 1 (some .int) 0 := ⟨Or.inl (mg_in 466 (by decide +kernel) (by decide +kernel)), (mg_in 203 (by decide +kernel) (by decide +kernel)), (mg_in 204 (by decide +kernel) (by decide +kernel)), (mg_in 35 (by decide +kernel) (by decide +kernel)), (mg_in 205 (by decide +kernel) (by decide +kernel)), by decide, by decide, by decide +kernel⟩
theorem f_Fa_9 : mg_F "LinkedMarkers$Family" 9 1 0 := ⟨R_Fa, T_Fa, 5, rfl, by decide, in_Fa, rfl, Or.inl (mg_in 61 (by decide +kernel) (by decide +kernel))⟩
theorem f_Fa_15 : mg_F "LinkedMarkers$Family" 15 1 1 := ⟨R_Fa, T_Fa, 5, rfl, by decide, in_Fa, rfl, Or.inl (mg_in 62 (by decide +kernel) (by decide +kernel))⟩
theorem f_Fa_18 : mg_F "LinkedMarkers$Family" 18 1 2 := ⟨R_Fa, T_Fa, 5, rfl, by decide, in_Fa, rfl, Or.inl (mg_in 63 (by decide +kernel) (by decide +kernel))⟩
theorem fp_Fa_21 : mg_Fp "LinkedMarkers$Family" 21 1 3 (.int) false := ⟨R_Fa, T_Fa, 5, t_Fa, rfl, by decide, in_Fa, rfl, ty_Fa, nm_Fa, rfl, by decide +kernel, (fun h => by first | rfl | cases h), Or.inl (mg_in 64 (by decide +kernel) (by decide +kernel))⟩
theorem fp_Fa_25 : mg_Fp "LinkedMarkers$Family" 25 1 4 (.int) false := ⟨R_Fa, T_Fa, 5, t_Fa, rfl, by decide, in_Fa, rfl, ty_Fa, nm_Fa, rfl, by decide +kernel, (fun h => by first | rfl | cases h), Or.inl (mg_in 67 (by decide +kernel) (by decide +kernel))⟩
theorem g_Fa_38 : mg_CV "LinkedMarkers$Family" 38 y_Fa_sourceOf b_Fa_sourceOf 8 (some .int) 3 := ⟨Or.inl (mg_in 634 (by decide +kernel) (by decide +kernel)), (mg_in 341 (by decide +kernel) (by decide +kernel)), (mg_in 342 (by decide +kernel) (by decide +kernel)), (mg_in 35 (by decide +kernel) (by decide +kernel)), (mg_in 343 (by decide +kernel) (by decide +kernel)), by decide, by decide, by decide +kernel⟩
end
section
theorem d_Fa_persons_0 : decode b_Fa_persons 0 = .ok (.aload_n 0, 1) := by decide +kernel
theorem d_Fa_persons_1 : decode b_Fa_persons 1 = .ok (.getfield 21, 3) := by decide +kernel
theorem d_Fa_persons_4 : decode b_Fa_persons 4 = .ok (.aload_n 0, 1) := by decide +kernel
theorem d_Fa_persons_5 : decode b_Fa_persons 5 = .ok (.getfield 25, 3) := by decide +kernel
theorem d_Fa_persons_8 : decode b_Fa_persons 8 = .ok (.iadd, 1) := by decide +kernel
theorem d_Fa_persons_9 : decode b_Fa_persons 9 = .ok (.ireturn, 1) := by decide +kernel
theorem d_Fa_bits_0 : decode b_Fa_bits 0 = .ok (.iconst 2, 1) := by decide +kernel
theorem d_Fa_bits_1 : decode b_Fa_bits 1 = .ok (.aload_n 0, 1) := by decide +kernel
theorem d_Fa_bits_2 : decode b_Fa_bits 2 = .ok (.getfield 25, 3) := by decide +kernel
theorem d_Fa_bits_5 : decode b_Fa_bits 5 = .ok (.imul, 1) := by decide +kernel
theorem d_Fa_bits_6 : decode b_Fa_bits 6 = .ok (.ireturn, 1) := by decide +kernel
theorem d_Fa_ways_0 : decode b_Fa_ways 0 = .ok (.iconst 1, 1) := by decide +kernel
theorem d_Fa_ways_1 : decode b_Fa_ways 1 = .ok (.aload_n 0, 1) := by decide +kernel
theorem d_Fa_ways_2 : decode b_Fa_ways 2 = .ok (.invokevirtual 28, 3) := by decide +kernel
theorem d_Fa_ways_5 : decode b_Fa_ways 5 = .ok (.ishl, 1) := by decide +kernel
theorem d_Fa_ways_6 : decode b_Fa_ways 6 = .ok (.ireturn, 1) := by decide +kernel
theorem d_Fa_hasPerson_0 : decode b_Fa_hasPerson 0 = .ok (.iload_n 1, 1) := by decide +kernel
theorem d_Fa_hasPerson_1 : decode b_Fa_hasPerson 1 = .ok (.ifCond .lt 15, 3) := by decide +kernel
theorem d_Fa_hasPerson_4 : decode b_Fa_hasPerson 4 = .ok (.iload_n 1, 1) := by decide +kernel
theorem d_Fa_hasPerson_5 : decode b_Fa_hasPerson 5 = .ok (.aload_n 0, 1) := by decide +kernel
theorem d_Fa_hasPerson_6 : decode b_Fa_hasPerson 6 = .ok (.invokevirtual 32, 3) := by decide +kernel
theorem d_Fa_hasPerson_9 : decode b_Fa_hasPerson 9 = .ok (.if_icmp .ge 7, 3) := by decide +kernel
theorem d_Fa_hasPerson_12 : decode b_Fa_hasPerson 12 = .ok (.iconst 1, 1) := by decide +kernel
theorem d_Fa_hasPerson_13 : decode b_Fa_hasPerson 13 = .ok (.goto 4, 3) := by decide +kernel
theorem d_Fa_hasPerson_16 : decode b_Fa_hasPerson 16 = .ok (.iconst 0, 1) := by decide +kernel
theorem d_Fa_hasPerson_17 : decode b_Fa_hasPerson 17 = .ok (.ireturn, 1) := by decide +kernel
theorem d_Fa_hasWay_0 : decode b_Fa_hasWay 0 = .ok (.iload_n 1, 1) := by decide +kernel
theorem d_Fa_hasWay_1 : decode b_Fa_hasWay 1 = .ok (.ifCond .lt 15, 3) := by decide +kernel
theorem d_Fa_hasWay_4 : decode b_Fa_hasWay 4 = .ok (.iload_n 1, 1) := by decide +kernel
theorem d_Fa_hasWay_5 : decode b_Fa_hasWay 5 = .ok (.aload_n 0, 1) := by decide +kernel
theorem d_Fa_hasWay_6 : decode b_Fa_hasWay 6 = .ok (.invokevirtual 35, 3) := by decide +kernel
theorem d_Fa_hasWay_9 : decode b_Fa_hasWay 9 = .ok (.if_icmp .ge 7, 3) := by decide +kernel
theorem d_Fa_hasWay_12 : decode b_Fa_hasWay 12 = .ok (.iconst 1, 1) := by decide +kernel
theorem d_Fa_hasWay_13 : decode b_Fa_hasWay 13 = .ok (.goto 4, 3) := by decide +kernel
theorem d_Fa_hasWay_16 : decode b_Fa_hasWay 16 = .ok (.iconst 0, 1) := by decide +kernel
theorem d_Fa_hasWay_17 : decode b_Fa_hasWay 17 = .ok (.ireturn, 1) := by decide +kernel
theorem d_Fa_addFounder_0 : decode b_Fa_addFounder 0 = .ok (.aload_n 0, 1) := by decide +kernel
theorem d_Fa_addFounder_1 : decode b_Fa_addFounder 1 = .ok (.invokevirtual 32, 3) := by decide +kernel
theorem d_Fa_addFounder_4 : decode b_Fa_addFounder 4 = .ok (.istore_n 1, 1) := by decide +kernel
theorem d_Fa_addFounder_5 : decode b_Fa_addFounder 5 = .ok (.aload_n 0, 1) := by decide +kernel
theorem d_Fa_addFounder_6 : decode b_Fa_addFounder 6 = .ok (.getfield 9, 3) := by decide +kernel
theorem d_Fa_addFounder_9 : decode b_Fa_addFounder 9 = .ok (.iload_n 1, 1) := by decide +kernel
theorem d_Fa_addFounder_10 : decode b_Fa_addFounder 10 = .ok (.iconst (-1), 1) := by decide +kernel
theorem d_Fa_addFounder_11 : decode b_Fa_addFounder 11 = .ok (.iastore, 1) := by decide +kernel
theorem d_Fa_addFounder_12 : decode b_Fa_addFounder 12 = .ok (.aload_n 0, 1) := by decide +kernel
theorem d_Fa_addFounder_13 : decode b_Fa_addFounder 13 = .ok (.getfield 15, 3) := by decide +kernel
theorem d_Fa_addFounder_16 : decode b_Fa_addFounder 16 = .ok (.iload_n 1, 1) := by decide +kernel
theorem d_Fa_addFounder_17 : decode b_Fa_addFounder 17 = .ok (.iconst (-1), 1) := by decide +kernel
theorem d_Fa_addFounder_18 : decode b_Fa_addFounder 18 = .ok (.iastore, 1) := by decide +kernel
theorem d_Fa_addFounder_19 : decode b_Fa_addFounder 19 = .ok (.aload_n 0, 1) := by decide +kernel
theorem d_Fa_addFounder_20 : decode b_Fa_addFounder 20 = .ok (.getfield 18, 3) := by decide +kernel
theorem d_Fa_addFounder_23 : decode b_Fa_addFounder 23 = .ok (.iload_n 1, 1) := by decide +kernel
theorem d_Fa_addFounder_24 : decode b_Fa_addFounder 24 = .ok (.aload_n 0, 1) := by decide +kernel
theorem d_Fa_addFounder_25 : decode b_Fa_addFounder 25 = .ok (.getfield 21, 3) := by decide +kernel
theorem d_Fa_addFounder_28 : decode b_Fa_addFounder 28 = .ok (.iastore, 1) := by decide +kernel
theorem d_Fa_addFounder_29 : decode b_Fa_addFounder 29 = .ok (.aload_n 0, 1) := by decide +kernel
theorem d_Fa_addFounder_30 : decode b_Fa_addFounder 30 = .ok (.dup, 1) := by decide +kernel
theorem d_Fa_addFounder_31 : decode b_Fa_addFounder 31 = .ok (.getfield 21, 3) := by decide +kernel
theorem d_Fa_addFounder_34 : decode b_Fa_addFounder 34 = .ok (.iconst 1, 1) := by decide +kernel
theorem d_Fa_addFounder_35 : decode b_Fa_addFounder 35 = .ok (.iadd, 1) := by decide +kernel
theorem d_Fa_addFounder_36 : decode b_Fa_addFounder 36 = .ok (.putfield 21, 3) := by decide +kernel
theorem d_Fa_addFounder_39 : decode b_Fa_addFounder 39 = .ok (.iload_n 1, 1) := by decide +kernel
theorem d_Fa_addFounder_40 : decode b_Fa_addFounder 40 = .ok (.ireturn, 1) := by decide +kernel
theorem d_Fa_addChild_0 : decode b_Fa_addChild 0 = .ok (.aload_n 0, 1) := by decide +kernel
theorem d_Fa_addChild_1 : decode b_Fa_addChild 1 = .ok (.invokevirtual 32, 3) := by decide +kernel
theorem d_Fa_addChild_4 : decode b_Fa_addChild 4 = .ok (.istore_n 3, 1) := by decide +kernel
theorem d_Fa_addChild_5 : decode b_Fa_addChild 5 = .ok (.aload_n 0, 1) := by decide +kernel
theorem d_Fa_addChild_6 : decode b_Fa_addChild 6 = .ok (.getfield 9, 3) := by decide +kernel
theorem d_Fa_addChild_9 : decode b_Fa_addChild 9 = .ok (.iload_n 3, 1) := by decide +kernel
theorem d_Fa_addChild_10 : decode b_Fa_addChild 10 = .ok (.iload_n 1, 1) := by decide +kernel
theorem d_Fa_addChild_11 : decode b_Fa_addChild 11 = .ok (.iastore, 1) := by decide +kernel
theorem d_Fa_addChild_12 : decode b_Fa_addChild 12 = .ok (.aload_n 0, 1) := by decide +kernel
theorem d_Fa_addChild_13 : decode b_Fa_addChild 13 = .ok (.getfield 15, 3) := by decide +kernel
theorem d_Fa_addChild_16 : decode b_Fa_addChild 16 = .ok (.iload_n 3, 1) := by decide +kernel
theorem d_Fa_addChild_17 : decode b_Fa_addChild 17 = .ok (.iload_n 2, 1) := by decide +kernel
theorem d_Fa_addChild_18 : decode b_Fa_addChild 18 = .ok (.iastore, 1) := by decide +kernel
theorem d_Fa_addChild_19 : decode b_Fa_addChild 19 = .ok (.aload_n 0, 1) := by decide +kernel
theorem d_Fa_addChild_20 : decode b_Fa_addChild 20 = .ok (.getfield 18, 3) := by decide +kernel
theorem d_Fa_addChild_23 : decode b_Fa_addChild 23 = .ok (.iload_n 3, 1) := by decide +kernel
theorem d_Fa_addChild_24 : decode b_Fa_addChild 24 = .ok (.aload_n 0, 1) := by decide +kernel
theorem d_Fa_addChild_25 : decode b_Fa_addChild 25 = .ok (.getfield 25, 3) := by decide +kernel
theorem d_Fa_addChild_28 : decode b_Fa_addChild 28 = .ok (.iastore, 1) := by decide +kernel
theorem d_Fa_addChild_29 : decode b_Fa_addChild 29 = .ok (.aload_n 0, 1) := by decide +kernel
theorem d_Fa_addChild_30 : decode b_Fa_addChild 30 = .ok (.dup, 1) := by decide +kernel
theorem d_Fa_addChild_31 : decode b_Fa_addChild 31 = .ok (.getfield 25, 3) := by decide +kernel
theorem d_Fa_addChild_34 : decode b_Fa_addChild 34 = .ok (.iconst 1, 1) := by decide +kernel
theorem d_Fa_addChild_35 : decode b_Fa_addChild 35 = .ok (.iadd, 1) := by decide +kernel
theorem d_Fa_addChild_36 : decode b_Fa_addChild 36 = .ok (.putfield 25, 3) := by decide +kernel
theorem d_Fa_addChild_39 : decode b_Fa_addChild 39 = .ok (.iload_n 3, 1) := by decide +kernel
theorem d_Fa_addChild_40 : decode b_Fa_addChild 40 = .ok (.ireturn, 1) := by decide +kernel
theorem d_Fa_sourceOf_0 : decode b_Fa_sourceOf 0 = .ok (.iload_n 1, 1) := by decide +kernel
theorem d_Fa_sourceOf_1 : decode b_Fa_sourceOf 1 = .ok (.istore 4, 2) := by decide +kernel
theorem d_Fa_sourceOf_3 : decode b_Fa_sourceOf 3 = .ok (.iload_n 2, 1) := by decide +kernel
theorem d_Fa_sourceOf_4 : decode b_Fa_sourceOf 4 = .ok (.istore 5, 2) := by decide +kernel
theorem d_Fa_sourceOf_6 : decode b_Fa_sourceOf 6 = .ok (.iconst 0, 1) := by decide +kernel
theorem d_Fa_sourceOf_7 : decode b_Fa_sourceOf 7 = .ok (.istore 6, 2) := by decide +kernel
theorem d_Fa_sourceOf_9 : decode b_Fa_sourceOf 9 = .ok (.iload 6, 2) := by decide +kernel
theorem d_Fa_sourceOf_11 : decode b_Fa_sourceOf 11 = .ok (.iconst 3, 1) := by decide +kernel
theorem d_Fa_sourceOf_12 : decode b_Fa_sourceOf 12 = .ok (.if_icmp .ge 66, 3) := by decide +kernel
theorem d_Fa_sourceOf_15 : decode b_Fa_sourceOf 15 = .ok (.aload_n 0, 1) := by decide +kernel
theorem d_Fa_sourceOf_16 : decode b_Fa_sourceOf 16 = .ok (.getfield 9, 3) := by decide +kernel
theorem d_Fa_sourceOf_19 : decode b_Fa_sourceOf 19 = .ok (.iload 4, 2) := by decide +kernel
theorem d_Fa_sourceOf_21 : decode b_Fa_sourceOf 21 = .ok (.iaload, 1) := by decide +kernel
theorem d_Fa_sourceOf_22 : decode b_Fa_sourceOf 22 = .ok (.iconst (-1), 1) := by decide +kernel
theorem d_Fa_sourceOf_23 : decode b_Fa_sourceOf 23 = .ok (.if_icmp .eq 55, 3) := by decide +kernel
theorem d_Fa_sourceOf_26 : decode b_Fa_sourceOf 26 = .ok (.iload_n 3, 1) := by decide +kernel
theorem d_Fa_sourceOf_27 : decode b_Fa_sourceOf 27 = .ok (.iconst 2, 1) := by decide +kernel
theorem d_Fa_sourceOf_28 : decode b_Fa_sourceOf 28 = .ok (.aload_n 0, 1) := by decide +kernel
theorem d_Fa_sourceOf_29 : decode b_Fa_sourceOf 29 = .ok (.getfield 18, 3) := by decide +kernel
theorem d_Fa_sourceOf_32 : decode b_Fa_sourceOf 32 = .ok (.iload 4, 2) := by decide +kernel
theorem d_Fa_sourceOf_34 : decode b_Fa_sourceOf 34 = .ok (.iaload, 1) := by decide +kernel
theorem d_Fa_sourceOf_35 : decode b_Fa_sourceOf 35 = .ok (.imul, 1) := by decide +kernel
theorem d_Fa_sourceOf_36 : decode b_Fa_sourceOf 36 = .ok (.iload 5, 2) := by decide +kernel
theorem d_Fa_sourceOf_38 : decode b_Fa_sourceOf 38 = .ok (.iadd, 1) := by decide +kernel
theorem d_Fa_sourceOf_39 : decode b_Fa_sourceOf 39 = .ok (.ishr, 1) := by decide +kernel
theorem d_Fa_sourceOf_40 : decode b_Fa_sourceOf 40 = .ok (.iconst 1, 1) := by decide +kernel
theorem d_Fa_sourceOf_41 : decode b_Fa_sourceOf 41 = .ok (.iand, 1) := by decide +kernel
theorem d_Fa_sourceOf_42 : decode b_Fa_sourceOf 42 = .ok (.istore 7, 2) := by decide +kernel
theorem d_Fa_sourceOf_44 : decode b_Fa_sourceOf 44 = .ok (.iload 5, 2) := by decide +kernel
theorem d_Fa_sourceOf_46 : decode b_Fa_sourceOf 46 = .ok (.ifCond .ne 13, 3) := by decide +kernel
theorem d_Fa_sourceOf_49 : decode b_Fa_sourceOf 49 = .ok (.aload_n 0, 1) := by decide +kernel
theorem d_Fa_sourceOf_50 : decode b_Fa_sourceOf 50 = .ok (.getfield 9, 3) := by decide +kernel
theorem d_Fa_sourceOf_53 : decode b_Fa_sourceOf 53 = .ok (.iload 4, 2) := by decide +kernel
theorem d_Fa_sourceOf_55 : decode b_Fa_sourceOf 55 = .ok (.iaload, 1) := by decide +kernel
theorem d_Fa_sourceOf_56 : decode b_Fa_sourceOf 56 = .ok (.goto 10, 3) := by decide +kernel
theorem d_Fa_sourceOf_59 : decode b_Fa_sourceOf 59 = .ok (.aload_n 0, 1) := by decide +kernel
theorem d_Fa_sourceOf_60 : decode b_Fa_sourceOf 60 = .ok (.getfield 15, 3) := by decide +kernel
theorem d_Fa_sourceOf_63 : decode b_Fa_sourceOf 63 = .ok (.iload 4, 2) := by decide +kernel
theorem d_Fa_sourceOf_65 : decode b_Fa_sourceOf 65 = .ok (.iaload, 1) := by decide +kernel
theorem d_Fa_sourceOf_66 : decode b_Fa_sourceOf 66 = .ok (.istore 4, 2) := by decide +kernel
theorem d_Fa_sourceOf_68 : decode b_Fa_sourceOf 68 = .ok (.iload 7, 2) := by decide +kernel
theorem d_Fa_sourceOf_70 : decode b_Fa_sourceOf 70 = .ok (.istore 5, 2) := by decide +kernel
theorem d_Fa_sourceOf_72 : decode b_Fa_sourceOf 72 = .ok (.iinc 6 1, 3) := by decide +kernel
theorem d_Fa_sourceOf_75 : decode b_Fa_sourceOf 75 = .ok (.goto (-66), 3) := by decide +kernel
theorem d_Fa_sourceOf_78 : decode b_Fa_sourceOf 78 = .ok (.iconst 2, 1) := by decide +kernel
theorem d_Fa_sourceOf_79 : decode b_Fa_sourceOf 79 = .ok (.aload_n 0, 1) := by decide +kernel
theorem d_Fa_sourceOf_80 : decode b_Fa_sourceOf 80 = .ok (.getfield 18, 3) := by decide +kernel
theorem d_Fa_sourceOf_83 : decode b_Fa_sourceOf 83 = .ok (.iload 4, 2) := by decide +kernel
theorem d_Fa_sourceOf_85 : decode b_Fa_sourceOf 85 = .ok (.iaload, 1) := by decide +kernel
theorem d_Fa_sourceOf_86 : decode b_Fa_sourceOf 86 = .ok (.imul, 1) := by decide +kernel
theorem d_Fa_sourceOf_87 : decode b_Fa_sourceOf 87 = .ok (.iload 5, 2) := by decide +kernel
theorem d_Fa_sourceOf_89 : decode b_Fa_sourceOf 89 = .ok (.iadd, 1) := by decide +kernel
theorem d_Fa_sourceOf_90 : decode b_Fa_sourceOf 90 = .ok (.ireturn, 1) := by decide +kernel
theorem d_Fa_shareCopy_0 : decode b_Fa_shareCopy 0 = .ok (.aload_n 0, 1) := by decide +kernel
theorem d_Fa_shareCopy_1 : decode b_Fa_shareCopy 1 = .ok (.iload_n 1, 1) := by decide +kernel
theorem d_Fa_shareCopy_2 : decode b_Fa_shareCopy 2 = .ok (.iconst 0, 1) := by decide +kernel
theorem d_Fa_shareCopy_3 : decode b_Fa_shareCopy 3 = .ok (.iload_n 3, 1) := by decide +kernel
theorem d_Fa_shareCopy_4 : decode b_Fa_shareCopy 4 = .ok (.invokevirtual 38, 3) := by decide +kernel
theorem d_Fa_shareCopy_7 : decode b_Fa_shareCopy 7 = .ok (.istore 4, 2) := by decide +kernel
theorem d_Fa_shareCopy_9 : decode b_Fa_shareCopy 9 = .ok (.aload_n 0, 1) := by decide +kernel
theorem d_Fa_shareCopy_10 : decode b_Fa_shareCopy 10 = .ok (.iload_n 1, 1) := by decide +kernel
theorem d_Fa_shareCopy_11 : decode b_Fa_shareCopy 11 = .ok (.iconst 1, 1) := by decide +kernel
theorem d_Fa_shareCopy_12 : decode b_Fa_shareCopy 12 = .ok (.iload_n 3, 1) := by decide +kernel
theorem d_Fa_shareCopy_13 : decode b_Fa_shareCopy 13 = .ok (.invokevirtual 38, 3) := by decide +kernel
theorem d_Fa_shareCopy_16 : decode b_Fa_shareCopy 16 = .ok (.istore 5, 2) := by decide +kernel
theorem d_Fa_shareCopy_18 : decode b_Fa_shareCopy 18 = .ok (.aload_n 0, 1) := by decide +kernel
theorem d_Fa_shareCopy_19 : decode b_Fa_shareCopy 19 = .ok (.iload_n 2, 1) := by decide +kernel
theorem d_Fa_shareCopy_20 : decode b_Fa_shareCopy 20 = .ok (.iconst 0, 1) := by decide +kernel
theorem d_Fa_shareCopy_21 : decode b_Fa_shareCopy 21 = .ok (.iload_n 3, 1) := by decide +kernel
theorem d_Fa_shareCopy_22 : decode b_Fa_shareCopy 22 = .ok (.invokevirtual 38, 3) := by decide +kernel
theorem d_Fa_shareCopy_25 : decode b_Fa_shareCopy 25 = .ok (.istore 6, 2) := by decide +kernel
theorem d_Fa_shareCopy_27 : decode b_Fa_shareCopy 27 = .ok (.aload_n 0, 1) := by decide +kernel
theorem d_Fa_shareCopy_28 : decode b_Fa_shareCopy 28 = .ok (.iload_n 2, 1) := by decide +kernel
theorem d_Fa_shareCopy_29 : decode b_Fa_shareCopy 29 = .ok (.iconst 1, 1) := by decide +kernel
theorem d_Fa_shareCopy_30 : decode b_Fa_shareCopy 30 = .ok (.iload_n 3, 1) := by decide +kernel
theorem d_Fa_shareCopy_31 : decode b_Fa_shareCopy 31 = .ok (.invokevirtual 38, 3) := by decide +kernel
theorem d_Fa_shareCopy_34 : decode b_Fa_shareCopy 34 = .ok (.istore 7, 2) := by decide +kernel
theorem d_Fa_shareCopy_36 : decode b_Fa_shareCopy 36 = .ok (.iload 4, 2) := by decide +kernel
theorem d_Fa_shareCopy_38 : decode b_Fa_shareCopy 38 = .ok (.iload 6, 2) := by decide +kernel
theorem d_Fa_shareCopy_40 : decode b_Fa_shareCopy 40 = .ok (.if_icmp .eq 24, 3) := by decide +kernel
theorem d_Fa_shareCopy_43 : decode b_Fa_shareCopy 43 = .ok (.iload 4, 2) := by decide +kernel
theorem d_Fa_shareCopy_45 : decode b_Fa_shareCopy 45 = .ok (.iload 7, 2) := by decide +kernel
theorem d_Fa_shareCopy_47 : decode b_Fa_shareCopy 47 = .ok (.if_icmp .eq 17, 3) := by decide +kernel
theorem d_Fa_shareCopy_50 : decode b_Fa_shareCopy 50 = .ok (.iload 5, 2) := by decide +kernel
theorem d_Fa_shareCopy_52 : decode b_Fa_shareCopy 52 = .ok (.iload 6, 2) := by decide +kernel
theorem d_Fa_shareCopy_54 : decode b_Fa_shareCopy 54 = .ok (.if_icmp .eq 10, 3) := by decide +kernel
theorem d_Fa_shareCopy_57 : decode b_Fa_shareCopy 57 = .ok (.iload 5, 2) := by decide +kernel
theorem d_Fa_shareCopy_59 : decode b_Fa_shareCopy 59 = .ok (.iload 7, 2) := by decide +kernel
theorem d_Fa_shareCopy_61 : decode b_Fa_shareCopy 61 = .ok (.if_icmp .ne 7, 3) := by decide +kernel
theorem d_Fa_shareCopy_64 : decode b_Fa_shareCopy 64 = .ok (.iconst 1, 1) := by decide +kernel
theorem d_Fa_shareCopy_65 : decode b_Fa_shareCopy 65 = .ok (.goto 4, 3) := by decide +kernel
theorem d_Fa_shareCopy_68 : decode b_Fa_shareCopy 68 = .ok (.iconst 0, 1) := by decide +kernel
theorem d_Fa_shareCopy_69 : decode b_Fa_shareCopy 69 = .ok (.ireturn, 1) := by decide +kernel
end
section
set_option maxRecDepth 100000 in
set_option maxHeartbeats 4000000 in
theorem k_Fa_persons (l : Launch) (D : va_G) (K : Nat → ClassId) (h : Nat) (qf : Nat) (qm : Nat) (qr : Nat) (nf : Nat) (nc : Nat)  : mg_Mi l D K y_Fa_persons b_Fa_persons 1 (.int) ({ frames := 0, cells := 0, slots := 0, locals := 0 }) [.ref (h)] [mg_ob h 1 [.ref (qf), .ref (qm), .ref (qr), .int (nI (nf)), .int (nI (nc))]] (fun (r : Int32) (_ : Unit) => r = nI (nf + nc)) (fun (_ : Unit) => [mg_ob h 1 [.ref (qf), .ref (qm), .ref (qr), .int (nI (nf)), .int (nI (nc))]]) := by
  intro sz
  refine mg_entry (Qc := fun A => va_Qi (fun (r : Int32) (_ : Unit) => r = nI (nf + nc)) (mg_B D A (fun (_ : Unit) => [mg_ob h 1 [.ref (qf), .ref (qm), .ref (qr), .int (nI (nf)), .int (nI (nc))]])) A) (by decide) (Nat.le_of_ble_eq_true rfl) ?_
  intro p e s m args below meth c A ls X hr hlk hnm hA hK hw hl
  have hl : lv_has ls 1 [(0, .ref (h))] := hl
  refine mg_aload_n X 1 d_Fa_persons_0 (lv_at hl 0 rfl) rfl ?_
  refine mg_get X hK hw 4 0 3 f_Fa_21 rfl rfl d_Fa_persons_1 rfl ?_
  refine mg_aload_n X 5 d_Fa_persons_4 (lv_at hl 0 rfl) rfl ?_
  refine mg_get X hK hw 8 0 4 f_Fa_25 rfl rfl d_Fa_persons_5 rfl ?_
  refine mg_iadd X 9 (nI (nf + nc)) d_Fa_persons_8 (nI_add _ _) rfl ?_
  exact mg_iret X hr hlk (rfl) (()) (rfl) hw d_Fa_persons_9

set_option maxRecDepth 100000 in
set_option maxHeartbeats 4000000 in
theorem k_Fa_bits (l : Launch) (D : va_G) (K : Nat → ClassId) (h : Nat) (qf : Nat) (qm : Nat) (qr : Nat) (nf : Nat) (nc : Nat)  : mg_Mi l D K y_Fa_bits b_Fa_bits 1 (.int) ({ frames := 0, cells := 0, slots := 0, locals := 0 }) [.ref (h)] [mg_ob h 1 [.ref (qf), .ref (qm), .ref (qr), .int (nI (nf)), .int (nI (nc))]] (fun (r : Int32) (_ : Unit) => r = nI (2 * nc)) (fun (_ : Unit) => [mg_ob h 1 [.ref (qf), .ref (qm), .ref (qr), .int (nI (nf)), .int (nI (nc))]]) := by
  intro sz
  refine mg_entry (Qc := fun A => va_Qi (fun (r : Int32) (_ : Unit) => r = nI (2 * nc)) (mg_B D A (fun (_ : Unit) => [mg_ob h 1 [.ref (qf), .ref (qm), .ref (qr), .int (nI (nf)), .int (nI (nc))]])) A) (by decide) (Nat.le_of_ble_eq_true rfl) ?_
  intro p e s m args below meth c A ls X hr hlk hnm hA hK hw hl
  have hl : lv_has ls 1 [(0, .ref (h))] := hl
  refine mg_iconst X 1 2 d_Fa_bits_0 mg_ci_2 rfl ?_
  refine mg_aload_n X 2 d_Fa_bits_1 (lv_at hl 0 rfl) rfl ?_
  refine mg_get X hK hw 5 0 4 f_Fa_25 rfl rfl d_Fa_bits_2 rfl ?_
  refine mg_imul X 6 (nI (2 * nc)) d_Fa_bits_5 (pk_mul _ _) rfl ?_
  exact mg_iret X hr hlk (rfl) (()) (rfl) hw d_Fa_bits_6

set_option maxRecDepth 100000 in
set_option maxHeartbeats 4000000 in
theorem k_Fa_ways (l : Launch) (D : va_G) (K : Nat → ClassId) (h : Nat) (qf : Nat) (qm : Nat) (qr : Nat) (nf : Nat) (nc : Nat) (hnc : nc ≤ 3) : mg_Mi l D K y_Fa_ways b_Fa_ways 1 (.int) ({ frames := 1, cells := 0, slots := 0, locals := 20 }) [.ref (h)] [mg_ob h 1 [.ref (qf), .ref (qm), .ref (qr), .int (nI (nf)), .int (nI (nc))]] (fun (r : Int32) (_ : Unit) => r = nI (2 ^ (2 * nc))) (fun (_ : Unit) => [mg_ob h 1 [.ref (qf), .ref (qm), .ref (qr), .int (nI (nf)), .int (nI (nc))]]) := by
  intro sz
  refine mg_entry (Qc := fun A => va_Qi (fun (r : Int32) (_ : Unit) => r = nI (2 ^ (2 * nc))) (mg_B D A (fun (_ : Unit) => [mg_ob h 1 [.ref (qf), .ref (qm), .ref (qr), .int (nI (nf)), .int (nI (nc))]])) A) (by decide) (Nat.le_of_ble_eq_true rfl) ?_
  intro p e s m args below meth c A ls X hr hlk hnm hA hK hw hl
  have hl : lv_has ls 1 [(0, .ref (h))] := hl
  refine mg_iconst X 1 1 d_Fa_ways_0 mg_ci_1 rfl ?_
  refine mg_aload_n X 2 d_Fa_ways_1 (lv_at hl 0 rfl) rfl ?_
  refine mg_callVi X hK hw hA 5 [0] 0 (fun _ => [mg_ob h 1 [.ref (qf), .ref (qm), .ref (qr), .int (nI (nf)), .int (nI (nc))]]) rfl rfl (k_Fa_bits l D K h qf qm qr nf nc ) g_Fa_28 ⟨by decide, by decide⟩ ⟨rfl, rfl⟩ rfl rfl rfl hl.1 (rest := [.int (nI (1))]) (As := []) rfl (Nat.le_of_ble_eq_true rfl) d_Fa_ways_2 ⟨Nat.zero_le _, Nat.zero_le _⟩ (fun _ => rfl) (fun _ => rfl) rfl ?_
  intro r _ H locs hp2 hw
  subst hp2
  refine mg_ishl X 6 ((nI (2 ^ (2 * nc)))) d_Fa_ways_5 (mg_shl (by omega)) rfl ?_
  exact mg_iret X hr hlk (rfl) (()) (rfl) hw d_Fa_ways_6

set_option maxRecDepth 100000 in
set_option maxHeartbeats 4000000 in
theorem k_Fa_hasPerson (l : Launch) (D : va_G) (K : Nat → ClassId) (h : Nat) (qf : Nat) (qm : Nat) (qr : Nat) (nf : Nat) (nc : Nat) (x : Int32) (hnf : nf ≤ 3) (hnc : nc ≤ 3) : mg_Mi l D K y_Fa_hasPerson b_Fa_hasPerson 2 (.boolean) ({ frames := 1, cells := 0, slots := 0, locals := 20 }) [.ref (h), .int (x)] [mg_ob h 1 [.ref (qf), .ref (qm), .ref (qr), .int (nI (nf)), .int (nI (nc))]] (fun (r : Int32) (_ : Unit) => r = nI (ft_c (mg_lt x (nf + nc)))) (fun (_ : Unit) => [mg_ob h 1 [.ref (qf), .ref (qm), .ref (qr), .int (nI (nf)), .int (nI (nc))]]) := by
  intro sz
  refine mg_entry (Qc := fun A => va_Qi (fun (r : Int32) (_ : Unit) => r = nI (ft_c (mg_lt x (nf + nc)))) (mg_B D A (fun (_ : Unit) => [mg_ob h 1 [.ref (qf), .ref (qm), .ref (qr), .int (nI (nf)), .int (nI (nc))]])) A) (by decide) (Nat.le_of_ble_eq_true rfl) ?_
  intro p e s m args below meth c A ls X hr hlk hnm hA hK hw hl
  have hl : lv_has ls 2 [(0, .ref (h)), (1, .int (x))] := hl
  have hw6 := mg_ways hnc
  refine mg_iload_n X 1 d_Fa_hasPerson_0 (lv_at hl 1 rfl) rfl ?_
  refine mg_iflt_r X 16 4 d_Fa_hasPerson_1 (by decide) rfl (fun hneg => ?_) (fun j hj ej => ?_)
  · -- pc 1 t
    refine mg_iconst X 17 0 d_Fa_hasPerson_16 mg_ci_0 rfl ?_
    exact mg_iret X hr hlk (mg_nz (by omega)) (()) (by rw [ft_c0 (mg_lt_neg hneg (by omega))]) hw d_Fa_hasPerson_17
  · -- pc 1 f
    subst ej
    refine mg_iload_n X 5 d_Fa_hasPerson_4 (lv_at hl 1 rfl) rfl ?_
    refine mg_aload_n X 6 d_Fa_hasPerson_5 (lv_at hl 0 rfl) rfl ?_
    refine mg_callVi X hK hw hA 9 [0] 0 (fun _ => [mg_ob h 1 [.ref (qf), .ref (qm), .ref (qr), .int (nI (nf)), .int (nI (nc))]]) rfl rfl (k_Fa_persons l D K h qf qm qr nf nc ) g_Fa_32 ⟨by decide, by decide⟩ ⟨rfl, rfl⟩ rfl rfl rfl hl.1 (rest := [.int (nI (j))]) (As := []) rfl (Nat.le_of_ble_eq_true rfl) d_Fa_hasPerson_6 ⟨Nat.zero_le _, Nat.zero_le _⟩ (fun _ => rfl) (fun _ => rfl) rfl ?_
    intro r _ H locs hp2 hw
    subst hp2
    refine mg_icmp_ge X 16 12 (by omega) (by omega) d_Fa_hasPerson_9 (by decide) rfl (fun hc => ?_) (fun hc => ?_)
    · -- pc 9 t
      refine mg_iconst X 17 0 d_Fa_hasPerson_16 mg_ci_0 rfl ?_
      exact mg_iret X hr hlk (mg_nz (by omega)) (()) (by rw [ft_c0 (mg_lt_ge hj hc)]) hw d_Fa_hasPerson_17
    · -- pc 9 f
      refine mg_iconst X 13 1 d_Fa_hasPerson_12 mg_ci_1 rfl ?_
      refine mg_goto X 17 d_Fa_hasPerson_13 (by decide) ?_
      exact mg_iret X hr hlk (mg_nz (by omega)) (()) (by rw [ft_c1 (mg_lt_in hc)]) hw d_Fa_hasPerson_17

set_option maxRecDepth 100000 in
set_option maxHeartbeats 4000000 in
theorem k_Fa_hasWay (l : Launch) (D : va_G) (K : Nat → ClassId) (h : Nat) (qf : Nat) (qm : Nat) (qr : Nat) (nf : Nat) (nc : Nat) (x : Int32) (hnf : nf ≤ 3) (hnc : nc ≤ 3) : mg_Mi l D K y_Fa_hasWay b_Fa_hasWay 2 (.boolean) ({ frames := 2, cells := 0, slots := 0, locals := 40 }) [.ref (h), .int (x)] [mg_ob h 1 [.ref (qf), .ref (qm), .ref (qr), .int (nI (nf)), .int (nI (nc))]] (fun (r : Int32) (_ : Unit) => r = nI (ft_c (mg_lt x (2 ^ (2 * nc))))) (fun (_ : Unit) => [mg_ob h 1 [.ref (qf), .ref (qm), .ref (qr), .int (nI (nf)), .int (nI (nc))]]) := by
  intro sz
  refine mg_entry (Qc := fun A => va_Qi (fun (r : Int32) (_ : Unit) => r = nI (ft_c (mg_lt x (2 ^ (2 * nc))))) (mg_B D A (fun (_ : Unit) => [mg_ob h 1 [.ref (qf), .ref (qm), .ref (qr), .int (nI (nf)), .int (nI (nc))]])) A) (by decide) (Nat.le_of_ble_eq_true rfl) ?_
  intro p e s m args below meth c A ls X hr hlk hnm hA hK hw hl
  have hl : lv_has ls 2 [(0, .ref (h)), (1, .int (x))] := hl
  have hw6 := mg_ways hnc
  refine mg_iload_n X 1 d_Fa_hasWay_0 (lv_at hl 1 rfl) rfl ?_
  refine mg_iflt_r X 16 4 d_Fa_hasWay_1 (by decide) rfl (fun hneg => ?_) (fun j hj ej => ?_)
  · -- pc 1 t
    refine mg_iconst X 17 0 d_Fa_hasWay_16 mg_ci_0 rfl ?_
    exact mg_iret X hr hlk (mg_nz (by omega)) (()) (by rw [ft_c0 (mg_lt_neg hneg (by omega))]) hw d_Fa_hasWay_17
  · -- pc 1 f
    subst ej
    refine mg_iload_n X 5 d_Fa_hasWay_4 (lv_at hl 1 rfl) rfl ?_
    refine mg_aload_n X 6 d_Fa_hasWay_5 (lv_at hl 0 rfl) rfl ?_
    refine mg_callVi X hK hw hA 9 [0] 0 (fun _ => [mg_ob h 1 [.ref (qf), .ref (qm), .ref (qr), .int (nI (nf)), .int (nI (nc))]]) rfl rfl (k_Fa_ways l D K h qf qm qr nf nc (by omega)) g_Fa_35 ⟨by decide, by decide⟩ ⟨rfl, rfl⟩ rfl rfl rfl hl.1 (rest := [.int (nI (j))]) (As := []) rfl (Nat.le_of_ble_eq_true rfl) d_Fa_hasWay_6 ⟨Nat.zero_le _, Nat.zero_le _⟩ (fun _ => rfl) (fun _ => rfl) rfl ?_
    intro r _ H locs hp2 hw
    subst hp2
    refine mg_icmp_ge X 16 12 (by omega) (by omega) d_Fa_hasWay_9 (by decide) rfl (fun hc => ?_) (fun hc => ?_)
    · -- pc 9 t
      refine mg_iconst X 17 0 d_Fa_hasWay_16 mg_ci_0 rfl ?_
      exact mg_iret X hr hlk (mg_nz (by omega)) (()) (by rw [ft_c0 (mg_lt_ge hj hc)]) hw d_Fa_hasWay_17
    · -- pc 9 f
      refine mg_iconst X 13 1 d_Fa_hasWay_12 mg_ci_1 rfl ?_
      refine mg_goto X 17 d_Fa_hasWay_13 (by decide) ?_
      exact mg_iret X hr hlk (mg_nz (by omega)) (()) (by rw [ft_c1 (mg_lt_in hc)]) hw d_Fa_hasWay_17

set_option maxRecDepth 100000 in
set_option maxHeartbeats 4000000 in
theorem k_Fa_addFounder (l : Launch) (D : va_G) (K : Nat → ClassId) (h : Nat) (qf : Nat) (qm : Nat) (qr : Nat) (nf : Nat) (nc : Nat) (fa : Nat → Nat) (mo : Nat → Nat) (rk : Nat → Nat) (hn : nf + nc < 6) : mg_Mi l D K y_Fa_addFounder b_Fa_addFounder 2 (.int) ({ frames := 1, cells := 0, slots := 0, locals := 20 }) [.ref (h)] [mg_ob h 1 [.ref (qf), .ref (qm), .ref (qr), .int (nI (nf)), .int (nI (nc))], mg_ai K qf 6 fa, mg_ai K qm 6 mo, mg_ai K qr 6 rk] (fun (r : Int32) (_ : Unit) => r = nI (nf + nc)) (fun (_ : Unit) => [mg_ob h 1 [.ref (qf), .ref (qm), .ref (qr), .int (nI (nf + 1)), .int (nI (nc))], mg_ai K qf 6 (va_up fa (nf + nc) 4294967295), mg_ai K qm 6 (va_up mo (nf + nc) 4294967295), mg_ai K qr 6 (va_up rk (nf + nc) nf)]) := by
  intro sz
  refine mg_entry (Qc := fun A => va_Qi (fun (r : Int32) (_ : Unit) => r = nI (nf + nc)) (mg_B D A (fun (_ : Unit) => [mg_ob h 1 [.ref (qf), .ref (qm), .ref (qr), .int (nI (nf + 1)), .int (nI (nc))], mg_ai K qf 6 (va_up fa (nf + nc) 4294967295), mg_ai K qm 6 (va_up mo (nf + nc) 4294967295), mg_ai K qr 6 (va_up rk (nf + nc) nf)])) A) (by decide) (Nat.le_of_ble_eq_true rfl) ?_
  intro p e s m args below meth c A ls X hr hlk hnm hA hK hw hl
  have hl : lv_has ls 2 [(0, .ref (h))] := hl
  refine mg_aload_n X 1 d_Fa_addFounder_0 (lv_at hl 0 rfl) rfl ?_
  refine mg_callVi X hK hw hA 4 [0] 0 (fun _ => [mg_ob h 1 [.ref (qf), .ref (qm), .ref (qr), .int (nI (nf)), .int (nI (nc))], mg_ai K qf 6 fa, mg_ai K qm 6 mo, mg_ai K qr 6 rk]) rfl rfl (k_Fa_persons l D K h qf qm qr nf nc ) g_Fa_32 ⟨by decide, by decide⟩ ⟨rfl, rfl⟩ rfl rfl rfl hl.1 (rest := []) (As := []) rfl (Nat.le_of_ble_eq_true rfl) d_Fa_addFounder_1 ⟨Nat.zero_le _, Nat.zero_le _⟩ (fun _ => rfl) (fun _ => rfl) rfl ?_
  intro r _ H locs hp2 hw
  subst hp2
  refine mg_istore_n X 5 [(1, .int (nI (nf + nc))), (0, .ref (h))] d_Fa_addFounder_4 hl (by decide) rfl rfl (fun ls hl => ?_)
  refine mg_aload_n X 6 d_Fa_addFounder_5 (lv_at hl 1 rfl) rfl ?_
  refine mg_get X hK hw 9 0 0 f_Fa_9 rfl rfl d_Fa_addFounder_6 rfl ?_
  refine mg_iload_n X 10 d_Fa_addFounder_9 (lv_at hl 0 rfl) rfl ?_
  refine mg_iconst X 11 4294967295 d_Fa_addFounder_10 mg_ci_m1 rfl ?_
  refine mg_iast X hK hw 12 1 [mg_ob h 1 [.ref (qf), .ref (qm), .ref (qr), .int (nI (nf)), .int (nI (nc))], mg_ai K qf 6 (va_up fa (nf + nc) 4294967295), mg_ai K qm 6 mo, mg_ai K qr 6 rk] rfl (by omega) (by omega) d_Fa_addFounder_11 rfl rfl (fun H locs hw => ?_)
  refine mg_aload_n X 13 d_Fa_addFounder_12 (lv_at hl 1 rfl) rfl ?_
  refine mg_get X hK hw 16 0 1 f_Fa_15 rfl rfl d_Fa_addFounder_13 rfl ?_
  refine mg_iload_n X 17 d_Fa_addFounder_16 (lv_at hl 0 rfl) rfl ?_
  refine mg_iconst X 18 4294967295 d_Fa_addFounder_17 mg_ci_m1 rfl ?_
  refine mg_iast X hK hw 19 2 [mg_ob h 1 [.ref (qf), .ref (qm), .ref (qr), .int (nI (nf)), .int (nI (nc))], mg_ai K qf 6 (va_up fa (nf + nc) 4294967295), mg_ai K qm 6 (va_up mo (nf + nc) 4294967295), mg_ai K qr 6 rk] rfl (by omega) (by omega) d_Fa_addFounder_18 rfl rfl (fun H locs hw => ?_)
  refine mg_aload_n X 20 d_Fa_addFounder_19 (lv_at hl 1 rfl) rfl ?_
  refine mg_get X hK hw 23 0 2 f_Fa_18 rfl rfl d_Fa_addFounder_20 rfl ?_
  refine mg_iload_n X 24 d_Fa_addFounder_23 (lv_at hl 0 rfl) rfl ?_
  refine mg_aload_n X 25 d_Fa_addFounder_24 (lv_at hl 1 rfl) rfl ?_
  refine mg_get X hK hw 28 0 3 f_Fa_21 rfl rfl d_Fa_addFounder_25 rfl ?_
  refine mg_iast X hK hw 29 3 [mg_ob h 1 [.ref (qf), .ref (qm), .ref (qr), .int (nI (nf)), .int (nI (nc))], mg_ai K qf 6 (va_up fa (nf + nc) 4294967295), mg_ai K qm 6 (va_up mo (nf + nc) 4294967295), mg_ai K qr 6 (va_up rk (nf + nc) nf)] rfl (by omega) (by omega) d_Fa_addFounder_28 rfl rfl (fun H locs hw => ?_)
  refine mg_aload_n X 30 d_Fa_addFounder_29 (lv_at hl 1 rfl) rfl ?_
  refine mg_dup X 31 d_Fa_addFounder_30 rfl rfl ?_
  refine mg_get X hK hw 34 0 3 f_Fa_21 rfl rfl d_Fa_addFounder_31 rfl ?_
  refine mg_iconst X 35 1 d_Fa_addFounder_34 mg_ci_1 rfl ?_
  refine mg_iadd X 36 (nI (nf + 1)) d_Fa_addFounder_35 (nI_add _ _) rfl ?_
  refine mg_put X hK hw 39 0 3 [mg_ob h 1 [.ref (qf), .ref (qm), .ref (qr), .int (nI (nf + 1)), .int (nI (nc))], mg_ai K qf 6 (va_up fa (nf + nc) 4294967295), mg_ai K qm 6 (va_up mo (nf + nc) 4294967295), mg_ai K qr 6 (va_up rk (nf + nc) nf)] fp_Fa_21 rfl (Nat.le_of_ble_eq_true rfl) rfl rfl d_Fa_addFounder_36 rfl rfl (fun H locs hw => ?_)
  refine mg_iload_n X 40 d_Fa_addFounder_39 (lv_at hl 0 rfl) rfl ?_
  exact mg_iret X hr hlk (rfl) (()) (rfl) hw d_Fa_addFounder_40

set_option maxRecDepth 100000 in
set_option maxHeartbeats 4000000 in
theorem k_Fa_addChild (l : Launch) (D : va_G) (K : Nat → ClassId) (h : Nat) (qf : Nat) (qm : Nat) (qr : Nat) (nf : Nat) (nc : Nat) (fa : Nat → Nat) (mo : Nat → Nat) (rk : Nat → Nat) (x : Nat) (y : Nat) (hn : nf + nc < 6) : mg_Mi l D K y_Fa_addChild b_Fa_addChild 4 (.int) ({ frames := 1, cells := 0, slots := 0, locals := 20 }) [.ref (h), .int (nI (x)), .int (nI (y))] [mg_ob h 1 [.ref (qf), .ref (qm), .ref (qr), .int (nI (nf)), .int (nI (nc))], mg_ai K qf 6 fa, mg_ai K qm 6 mo, mg_ai K qr 6 rk] (fun (r : Int32) (_ : Unit) => r = nI (nf + nc)) (fun (_ : Unit) => [mg_ob h 1 [.ref (qf), .ref (qm), .ref (qr), .int (nI (nf)), .int (nI (nc + 1))], mg_ai K qf 6 (va_up fa (nf + nc) x), mg_ai K qm 6 (va_up mo (nf + nc) y), mg_ai K qr 6 (va_up rk (nf + nc) nc)]) := by
  intro sz
  refine mg_entry (Qc := fun A => va_Qi (fun (r : Int32) (_ : Unit) => r = nI (nf + nc)) (mg_B D A (fun (_ : Unit) => [mg_ob h 1 [.ref (qf), .ref (qm), .ref (qr), .int (nI (nf)), .int (nI (nc + 1))], mg_ai K qf 6 (va_up fa (nf + nc) x), mg_ai K qm 6 (va_up mo (nf + nc) y), mg_ai K qr 6 (va_up rk (nf + nc) nc)])) A) (by decide) (Nat.le_of_ble_eq_true rfl) ?_
  intro p e s m args below meth c A ls X hr hlk hnm hA hK hw hl
  have hl : lv_has ls 4 [(0, .ref (h)), (1, .int (nI (x))), (2, .int (nI (y)))] := hl
  refine mg_aload_n X 1 d_Fa_addChild_0 (lv_at hl 0 rfl) rfl ?_
  refine mg_callVi X hK hw hA 4 [0] 0 (fun _ => [mg_ob h 1 [.ref (qf), .ref (qm), .ref (qr), .int (nI (nf)), .int (nI (nc))], mg_ai K qf 6 fa, mg_ai K qm 6 mo, mg_ai K qr 6 rk]) rfl rfl (k_Fa_persons l D K h qf qm qr nf nc ) g_Fa_32 ⟨by decide, by decide⟩ ⟨rfl, rfl⟩ rfl rfl rfl hl.1 (rest := []) (As := []) rfl (Nat.le_of_ble_eq_true rfl) d_Fa_addChild_1 ⟨Nat.zero_le _, Nat.zero_le _⟩ (fun _ => rfl) (fun _ => rfl) rfl ?_
  intro r _ H locs hp2 hw
  subst hp2
  refine mg_istore_n X 5 [(3, .int (nI (nf + nc))), (0, .ref (h)), (1, .int (nI (x))), (2, .int (nI (y)))] d_Fa_addChild_4 hl (by decide) rfl rfl (fun ls hl => ?_)
  refine mg_aload_n X 6 d_Fa_addChild_5 (lv_at hl 1 rfl) rfl ?_
  refine mg_get X hK hw 9 0 0 f_Fa_9 rfl rfl d_Fa_addChild_6 rfl ?_
  refine mg_iload_n X 10 d_Fa_addChild_9 (lv_at hl 0 rfl) rfl ?_
  refine mg_iload_n X 11 d_Fa_addChild_10 (lv_at hl 2 rfl) rfl ?_
  refine mg_iast X hK hw 12 1 [mg_ob h 1 [.ref (qf), .ref (qm), .ref (qr), .int (nI (nf)), .int (nI (nc))], mg_ai K qf 6 (va_up fa (nf + nc) x), mg_ai K qm 6 mo, mg_ai K qr 6 rk] rfl (by omega) (by omega) d_Fa_addChild_11 rfl rfl (fun H locs hw => ?_)
  refine mg_aload_n X 13 d_Fa_addChild_12 (lv_at hl 1 rfl) rfl ?_
  refine mg_get X hK hw 16 0 1 f_Fa_15 rfl rfl d_Fa_addChild_13 rfl ?_
  refine mg_iload_n X 17 d_Fa_addChild_16 (lv_at hl 0 rfl) rfl ?_
  refine mg_iload_n X 18 d_Fa_addChild_17 (lv_at hl 3 rfl) rfl ?_
  refine mg_iast X hK hw 19 2 [mg_ob h 1 [.ref (qf), .ref (qm), .ref (qr), .int (nI (nf)), .int (nI (nc))], mg_ai K qf 6 (va_up fa (nf + nc) x), mg_ai K qm 6 (va_up mo (nf + nc) y), mg_ai K qr 6 rk] rfl (by omega) (by omega) d_Fa_addChild_18 rfl rfl (fun H locs hw => ?_)
  refine mg_aload_n X 20 d_Fa_addChild_19 (lv_at hl 1 rfl) rfl ?_
  refine mg_get X hK hw 23 0 2 f_Fa_18 rfl rfl d_Fa_addChild_20 rfl ?_
  refine mg_iload_n X 24 d_Fa_addChild_23 (lv_at hl 0 rfl) rfl ?_
  refine mg_aload_n X 25 d_Fa_addChild_24 (lv_at hl 1 rfl) rfl ?_
  refine mg_get X hK hw 28 0 4 f_Fa_25 rfl rfl d_Fa_addChild_25 rfl ?_
  refine mg_iast X hK hw 29 3 [mg_ob h 1 [.ref (qf), .ref (qm), .ref (qr), .int (nI (nf)), .int (nI (nc))], mg_ai K qf 6 (va_up fa (nf + nc) x), mg_ai K qm 6 (va_up mo (nf + nc) y), mg_ai K qr 6 (va_up rk (nf + nc) nc)] rfl (by omega) (by omega) d_Fa_addChild_28 rfl rfl (fun H locs hw => ?_)
  refine mg_aload_n X 30 d_Fa_addChild_29 (lv_at hl 1 rfl) rfl ?_
  refine mg_dup X 31 d_Fa_addChild_30 rfl rfl ?_
  refine mg_get X hK hw 34 0 4 f_Fa_25 rfl rfl d_Fa_addChild_31 rfl ?_
  refine mg_iconst X 35 1 d_Fa_addChild_34 mg_ci_1 rfl ?_
  refine mg_iadd X 36 (nI (nc + 1)) d_Fa_addChild_35 (nI_add _ _) rfl ?_
  refine mg_put X hK hw 39 0 4 [mg_ob h 1 [.ref (qf), .ref (qm), .ref (qr), .int (nI (nf)), .int (nI (nc + 1))], mg_ai K qf 6 (va_up fa (nf + nc) x), mg_ai K qm 6 (va_up mo (nf + nc) y), mg_ai K qr 6 (va_up rk (nf + nc) nc)] fp_Fa_25 rfl (Nat.le_of_ble_eq_true rfl) rfl rfl d_Fa_addChild_36 rfl rfl (fun H locs hw => ?_)
  refine mg_iload_n X 40 d_Fa_addChild_39 (lv_at hl 0 rfl) rfl ?_
  exact mg_iret X hr hlk (rfl) (()) (rfl) hw d_Fa_addChild_40

set_option maxRecDepth 100000 in
set_option maxHeartbeats 4000000 in
theorem k_Fa_sourceOf (l : Launch) (D : va_G) (K : Nat → ClassId) (h : Nat) (qf : Nat) (qm : Nat) (qr : Nat) (nf : Nat) (nc : Nat) (fa : Nat → Nat) (mo : Nat → Nat) (rk : Nat → Nat) (p0 : Nat) (c0 : Nat) (w : Nat) (hF : fm_ok nf nc fa mo rk) (hp : p0 < nf + nc) (hc : c0 < 2) (hw1 : w < 64) : mg_Mi l D K y_Fa_sourceOf b_Fa_sourceOf 8 (.int) ({ frames := 0, cells := 0, slots := 0, locals := 0 }) [.ref (h), .int (nI (p0)), .int (nI (c0)), .int (nI (w))] [mg_ob h 1 [.ref (qf), .ref (qm), .ref (qr), .int (nI (nf)), .int (nI (nc))], mg_ai K qf 6 fa, mg_ai K qm 6 mo, mg_ai K qr 6 rk] (fun (r : Int32) (_ : Unit) => r = nI (fm_src fa mo rk w 3 p0 c0)) (fun (_ : Unit) => [mg_ob h 1 [.ref (qf), .ref (qm), .ref (qr), .int (nI (nf)), .int (nI (nc))], mg_ai K qf 6 fa, mg_ai K qm 6 mo, mg_ai K qr 6 rk]) := by
  intro sz
  refine mg_entry (Qc := fun A => va_Qi (fun (r : Int32) (_ : Unit) => r = nI (fm_src fa mo rk w 3 p0 c0)) (mg_B D A (fun (_ : Unit) => [mg_ob h 1 [.ref (qf), .ref (qm), .ref (qr), .int (nI (nf)), .int (nI (nc))], mg_ai K qf 6 fa, mg_ai K qm 6 mo, mg_ai K qr 6 rk])) A) (by decide) (Nat.le_of_ble_eq_true rfl) ?_
  intro p e s m args below meth c A ls X hr hlk hnm hA hK hw hl
  have hl : lv_has ls 8 [(0, .ref (h)), (1, .int (nI (p0))), (2, .int (nI (c0))), (3, .int (nI (w)))] := hl
  have hF1 := hF.1
  have hF2 := hF.2.1
  refine mg_iload_n X 1 d_Fa_sourceOf_0 (lv_at hl 1 rfl) rfl ?_
  refine mg_istore X 3 [(4, .int (nI (p0))), (0, .ref (h)), (1, .int (nI (p0))), (2, .int (nI (c0))), (3, .int (nI (w)))] d_Fa_sourceOf_1 hl (by decide) rfl rfl (fun ls hl => ?_)
  refine mg_iload_n X 4 d_Fa_sourceOf_3 (lv_at hl 3 rfl) rfl ?_
  refine mg_istore X 6 [(5, .int (nI (c0))), (4, .int (nI (p0))), (0, .ref (h)), (1, .int (nI (p0))), (2, .int (nI (c0))), (3, .int (nI (w)))] d_Fa_sourceOf_4 hl (by decide) rfl rfl (fun ls hl => ?_)
  refine mg_iconst X 7 0 d_Fa_sourceOf_6 mg_ci_0 rfl ?_
  refine mg_istore X 9 [(6, .int (nI (0))), (5, .int (nI (c0))), (4, .int (nI (p0))), (0, .ref (h)), (1, .int (nI (p0))), (2, .int (nI (c0))), (3, .int (nI (w)))] d_Fa_sourceOf_7 hl (by decide) rfl rfl (fun ls hl => ?_)
  have L9 : ∀ (n0 : Nat) (k : Nat) (p1 : Nat) (c1 : Nat), n0 = 3 - k → (fm_src fa mo rk w (3 - k) p1 c1 = fm_src fa mo rk w 3 p0 c0) → (k ≤ 3) → (p1 < nf + nc) → (c1 < 2) → ∀ (ls : Array Slot) (H : Heap) (locs : List Loc), lv_has ls 8 [(0, .ref (h)), (1, .int (nI (p0))), (2, .int (nI (c0))), (3, .int (nI (w))), (4, .int (nI (p1))), (5, .int (nI (c1))), (6, .int (nI (k)))] → mg_H D A s.heap H locs [mg_ob h 1 [.ref (qf), .ref (qm), .ref (qr), .int (nI (nf)), .int (nI (nc))], mg_ai K qf 6 fa, mg_ai K qm 6 mo, mg_ai K qr 6 rk] → W p l e ({ frames := 0, cells := 0, slots := 0, locals := 0 }) s m args below meth c H locs 0 0 (MQ below (va_Qi (fun (r : Int32) (_ : Unit) => r = nI (fm_src fa mo rk w 3 p0 c0)) (mg_B D A (fun (_ : Unit) => [mg_ob h 1 [.ref (qf), .ref (qm), .ref (qr), .int (nI (nf)), .int (nI (nc))], mg_ai K qf 6 fa, mg_ai K qm 6 mo, mg_ai K qr 6 rk])) A) args s 0 0 A) (F0 m 9 ls []) := by
    intro n0
    induction n0 using Nat.strongRecOn with
    | ind n0 ih9 =>
    intro k p1 c1 hm9 hI hk hp1 hc1 ls H locs hl hw
    have hrk := fm_rk hF hp1
    have hfa := fm_fa hF hp1
    refine mg_iload X 11 d_Fa_sourceOf_9 (lv_at hl 6 rfl) rfl ?_
    refine mg_iconst X 12 3 d_Fa_sourceOf_11 mg_ci_3 rfl ?_
    refine mg_icmp_ge X 78 15 (by omega) (by omega) d_Fa_sourceOf_12 (by decide) rfl (fun hb => ?_) (fun hb => ?_)
    · -- pc 12 t
      refine mg_iconst X 79 2 d_Fa_sourceOf_78 mg_ci_2 rfl ?_
      refine mg_aload_n X 80 d_Fa_sourceOf_79 (lv_at hl 0 rfl) rfl ?_
      refine mg_get X hK hw 83 0 2 f_Fa_18 rfl rfl d_Fa_sourceOf_80 rfl ?_
      refine mg_iload X 85 d_Fa_sourceOf_83 (lv_at hl 4 rfl) rfl ?_
      refine mg_iald X hK hw 86 3 rfl (by omega) (by omega) d_Fa_sourceOf_85 rfl ?_
      refine mg_imul X 87 (nI (2 * (rk p1))) d_Fa_sourceOf_86 (pk_mul _ _) rfl ?_
      refine mg_iload X 89 d_Fa_sourceOf_87 (lv_at hl 5 rfl) rfl ?_
      refine mg_iadd X 90 (nI ((2 * (rk p1)) + c1)) d_Fa_sourceOf_89 (nI_add _ _) rfl ?_
      exact mg_iret X hr hlk (rfl) (()) (by rw [← hI]; exact congrArg nI (fm_fin (by omega)).symm) hw d_Fa_sourceOf_90
    · -- pc 12 f
      refine mg_aload_n X 16 d_Fa_sourceOf_15 (lv_at hl 0 rfl) rfl ?_
      refine mg_get X hK hw 19 0 0 f_Fa_9 rfl rfl d_Fa_sourceOf_16 rfl ?_
      refine mg_iload X 21 d_Fa_sourceOf_19 (lv_at hl 4 rfl) rfl ?_
      refine mg_iald X hK hw 22 1 rfl (by omega) (by omega) d_Fa_sourceOf_21 rfl ?_
      refine mg_iconst X 23 4294967295 d_Fa_sourceOf_22 mg_ci_m1 rfl ?_
      refine mg_icmp_eq X 78 26 (by omega) (by omega) d_Fa_sourceOf_23 (by decide) rfl (fun hne => ?_) (fun hne => ?_)
      · -- pc 23 t
        refine mg_iconst X 79 2 d_Fa_sourceOf_78 mg_ci_2 rfl ?_
        refine mg_aload_n X 80 d_Fa_sourceOf_79 (lv_at hl 0 rfl) rfl ?_
        refine mg_get X hK hw 83 0 2 f_Fa_18 rfl rfl d_Fa_sourceOf_80 rfl ?_
        refine mg_iload X 85 d_Fa_sourceOf_83 (lv_at hl 4 rfl) rfl ?_
        refine mg_iald X hK hw 86 3 rfl (by omega) (by omega) d_Fa_sourceOf_85 rfl ?_
        refine mg_imul X 87 (nI (2 * (rk p1))) d_Fa_sourceOf_86 (pk_mul _ _) rfl ?_
        refine mg_iload X 89 d_Fa_sourceOf_87 (lv_at hl 5 rfl) rfl ?_
        refine mg_iadd X 90 (nI ((2 * (rk p1)) + c1)) d_Fa_sourceOf_89 (nI_add _ _) rfl ?_
        exact mg_iret X hr hlk (rfl) (()) (by rw [← hI]; exact congrArg nI (fm_fin (by omega)).symm) hw d_Fa_sourceOf_90
      · -- pc 23 f
        refine mg_iload_n X 27 d_Fa_sourceOf_26 (lv_at hl 3 rfl) rfl ?_
        refine mg_iconst X 28 2 d_Fa_sourceOf_27 mg_ci_2 rfl ?_
        refine mg_aload_n X 29 d_Fa_sourceOf_28 (lv_at hl 0 rfl) rfl ?_
        refine mg_get X hK hw 32 0 2 f_Fa_18 rfl rfl d_Fa_sourceOf_29 rfl ?_
        refine mg_iload X 34 d_Fa_sourceOf_32 (lv_at hl 4 rfl) rfl ?_
        refine mg_iald X hK hw 35 3 rfl (by omega) (by omega) d_Fa_sourceOf_34 rfl ?_
        refine mg_imul X 36 (nI (2 * (rk p1))) d_Fa_sourceOf_35 (pk_mul _ _) rfl ?_
        refine mg_iload X 38 d_Fa_sourceOf_36 (lv_at hl 5 rfl) rfl ?_
        refine mg_iadd X 39 (nI ((2 * (rk p1)) + c1)) d_Fa_sourceOf_38 (nI_add _ _) rfl ?_
        refine mg_ishr X 40 ((nI (w / 2 ^ ((2 * (rk p1)) + c1)))) d_Fa_sourceOf_39 (mg_shr (by omega) (by omega)) rfl ?_
        refine mg_iconst X 41 1 d_Fa_sourceOf_40 mg_ci_1 rfl ?_
        refine mg_iand X 42 ((nI ((w / 2 ^ ((2 * (rk p1)) + c1)) % 2))) d_Fa_sourceOf_41 (mg_and1 (Nat.lt_of_le_of_lt (Nat.div_le_self _ _) (by omega))) rfl ?_
        refine mg_istore X 44 [(7, .int (nI ((w / 2 ^ ((2 * (rk p1)) + c1)) % 2))), (0, .ref (h)), (1, .int (nI (p0))), (2, .int (nI (c0))), (3, .int (nI (w))), (4, .int (nI (p1))), (5, .int (nI (c1))), (6, .int (nI (k)))] d_Fa_sourceOf_42 hl (by decide) rfl rfl (fun ls hl => ?_)
        refine mg_iload X 46 d_Fa_sourceOf_44 (lv_at hl 6 rfl) rfl ?_
        refine mg_if_ne X 59 49 (by omega) d_Fa_sourceOf_46 (by decide) rfl (fun hz => ?_) (fun hz => ?_)
        · -- pc 46 t
          refine mg_aload_n X 60 d_Fa_sourceOf_59 (lv_at hl 1 rfl) rfl ?_
          refine mg_get X hK hw 63 0 1 f_Fa_15 rfl rfl d_Fa_sourceOf_60 rfl ?_
          refine mg_iload X 65 d_Fa_sourceOf_63 (lv_at hl 5 rfl) rfl ?_
          refine mg_iald X hK hw 66 2 rfl (by omega) (by omega) d_Fa_sourceOf_65 rfl ?_
          refine mg_istore X 68 [(4, .int (nI (mo p1))), (7, .int (nI ((w / 2 ^ ((2 * (rk p1)) + c1)) % 2))), (0, .ref (h)), (1, .int (nI (p0))), (2, .int (nI (c0))), (3, .int (nI (w))), (5, .int (nI (c1))), (6, .int (nI (k)))] d_Fa_sourceOf_66 hl (by decide) rfl rfl (fun ls hl => ?_)
          refine mg_iload X 70 d_Fa_sourceOf_68 (lv_at hl 1 rfl) rfl ?_
          refine mg_istore X 72 [(5, .int (nI ((w / 2 ^ ((2 * (rk p1)) + c1)) % 2))), (4, .int (nI (mo p1))), (7, .int (nI ((w / 2 ^ ((2 * (rk p1)) + c1)) % 2))), (0, .ref (h)), (1, .int (nI (p0))), (2, .int (nI (c0))), (3, .int (nI (w))), (6, .int (nI (k)))] d_Fa_sourceOf_70 hl (by decide) rfl rfl (fun ls hl => ?_)
          refine mg_iinc X 75 [(6, .int (nI (k + 1))), (5, .int (nI ((w / 2 ^ ((2 * (rk p1)) + c1)) % 2))), (4, .int (nI (mo p1))), (7, .int (nI ((w / 2 ^ ((2 * (rk p1)) + c1)) % 2))), (0, .ref (h)), (1, .int (nI (p0))), (2, .int (nI (c0))), (3, .int (nI (w)))] (k + 1) d_Fa_sourceOf_72 hl (k := 7) rfl (mg_inc1 _) (by decide) rfl rfl (fun ls hl => ?_)
          refine mg_goto X 9 d_Fa_sourceOf_75 (by decide) ?_
          have hl : lv_has ls 8 [(0, .ref (h)), (1, .int (nI (p0))), (2, .int (nI (c0))), (3, .int (nI (w))), (4, .int (nI (mo p1))), (5, .int (nI ((w / 2 ^ ((2 * (rk p1)) + c1)) % 2))), (6, .int (nI (k + 1)))] := lv_sub hl [4, 5, 6, 7, 2, 1, 0] rfl
          exact ih9 _ (by omega) (k + 1) (mo p1) ((w / 2 ^ ((2 * (rk p1)) + c1)) % 2) rfl (fm_bk1 hI hb hne hz) (by omega) (fm_lo1 hF hp1 hne) (Nat.mod_lt _ (by decide)) ls _ _ hl hw
        · -- pc 46 f
          refine mg_aload_n X 50 d_Fa_sourceOf_49 (lv_at hl 1 rfl) rfl ?_
          refine mg_get X hK hw 53 0 0 f_Fa_9 rfl rfl d_Fa_sourceOf_50 rfl ?_
          refine mg_iload X 55 d_Fa_sourceOf_53 (lv_at hl 5 rfl) rfl ?_
          refine mg_iald X hK hw 56 1 rfl (by omega) (by omega) d_Fa_sourceOf_55 rfl ?_
          refine mg_goto X 66 d_Fa_sourceOf_56 (by decide) ?_
          refine mg_istore X 68 [(4, .int (nI (fa p1))), (7, .int (nI ((w / 2 ^ ((2 * (rk p1)) + c1)) % 2))), (0, .ref (h)), (1, .int (nI (p0))), (2, .int (nI (c0))), (3, .int (nI (w))), (5, .int (nI (c1))), (6, .int (nI (k)))] d_Fa_sourceOf_66 hl (by decide) rfl rfl (fun ls hl => ?_)
          refine mg_iload X 70 d_Fa_sourceOf_68 (lv_at hl 1 rfl) rfl ?_
          refine mg_istore X 72 [(5, .int (nI ((w / 2 ^ ((2 * (rk p1)) + c1)) % 2))), (4, .int (nI (fa p1))), (7, .int (nI ((w / 2 ^ ((2 * (rk p1)) + c1)) % 2))), (0, .ref (h)), (1, .int (nI (p0))), (2, .int (nI (c0))), (3, .int (nI (w))), (6, .int (nI (k)))] d_Fa_sourceOf_70 hl (by decide) rfl rfl (fun ls hl => ?_)
          refine mg_iinc X 75 [(6, .int (nI (k + 1))), (5, .int (nI ((w / 2 ^ ((2 * (rk p1)) + c1)) % 2))), (4, .int (nI (fa p1))), (7, .int (nI ((w / 2 ^ ((2 * (rk p1)) + c1)) % 2))), (0, .ref (h)), (1, .int (nI (p0))), (2, .int (nI (c0))), (3, .int (nI (w)))] (k + 1) d_Fa_sourceOf_72 hl (k := 7) rfl (mg_inc1 _) (by decide) rfl rfl (fun ls hl => ?_)
          refine mg_goto X 9 d_Fa_sourceOf_75 (by decide) ?_
          have hl : lv_has ls 8 [(0, .ref (h)), (1, .int (nI (p0))), (2, .int (nI (c0))), (3, .int (nI (w))), (4, .int (nI (fa p1))), (5, .int (nI ((w / 2 ^ ((2 * (rk p1)) + c1)) % 2))), (6, .int (nI (k + 1)))] := lv_sub hl [4, 5, 6, 7, 2, 1, 0] rfl
          exact ih9 _ (by omega) (k + 1) (fa p1) ((w / 2 ^ ((2 * (rk p1)) + c1)) % 2) rfl (fm_bk0 hI hb hne hz) (by omega) (fm_lo0 hF hp1 hne) (Nat.mod_lt _ (by decide)) ls _ _ hl hw
  have hl : lv_has ls 8 [(0, .ref (h)), (1, .int (nI (p0))), (2, .int (nI (c0))), (3, .int (nI (w))), (4, .int (nI (p0))), (5, .int (nI (c0))), (6, .int (nI (0)))] := lv_sub hl [3, 4, 5, 6, 2, 1, 0] rfl
  exact L9 _ 0 p0 c0 rfl (rfl) (by omega) (hp) (hc) ls _ _ hl hw

set_option maxRecDepth 100000 in
set_option maxHeartbeats 4000000 in
theorem k_Fa_shareCopy (l : Launch) (D : va_G) (K : Nat → ClassId) (h : Nat) (qf : Nat) (qm : Nat) (qr : Nat) (nf : Nat) (nc : Nat) (fa : Nat → Nat) (mo : Nat → Nat) (rk : Nat → Nat) (a1 : Nat) (a2 : Nat) (w : Nat) (hF : fm_ok nf nc fa mo rk) (hp1 : a1 < nf + nc) (hp2 : a2 < nf + nc) (hw1 : w < 64) : mg_Mi l D K y_Fa_shareCopy b_Fa_shareCopy 8 (.boolean) ({ frames := 1, cells := 0, slots := 0, locals := 27 }) [.ref (h), .int (nI (a1)), .int (nI (a2)), .int (nI (w))] [mg_ob h 1 [.ref (qf), .ref (qm), .ref (qr), .int (nI (nf)), .int (nI (nc))], mg_ai K qf 6 fa, mg_ai K qm 6 mo, mg_ai K qr 6 rk] (fun (r : Int32) (_ : Unit) => r = nI (ft_c (fm_shr fa mo rk a1 a2 w))) (fun (_ : Unit) => [mg_ob h 1 [.ref (qf), .ref (qm), .ref (qr), .int (nI (nf)), .int (nI (nc))], mg_ai K qf 6 fa, mg_ai K qm 6 mo, mg_ai K qr 6 rk]) := by
  intro sz
  refine mg_entry (Qc := fun A => va_Qi (fun (r : Int32) (_ : Unit) => r = nI (ft_c (fm_shr fa mo rk a1 a2 w))) (mg_B D A (fun (_ : Unit) => [mg_ob h 1 [.ref (qf), .ref (qm), .ref (qr), .int (nI (nf)), .int (nI (nc))], mg_ai K qf 6 fa, mg_ai K qm 6 mo, mg_ai K qr 6 rk])) A) (by decide) (Nat.le_of_ble_eq_true rfl) ?_
  intro p e s m args below meth c A ls X hr hlk hnm hA hK hw hl
  have hl : lv_has ls 8 [(0, .ref (h)), (1, .int (nI (a1))), (2, .int (nI (a2))), (3, .int (nI (w)))] := hl
  have hF1 := hF.1
  have q10 := fm_lt3 hF w hp1 (show 0 < 2 by omega)
  have q11 := fm_lt3 hF w hp1 (show 1 < 2 by omega)
  have q20 := fm_lt3 hF w hp2 (show 0 < 2 by omega)
  have q21 := fm_lt3 hF w hp2 (show 1 < 2 by omega)
  refine mg_aload_n X 1 d_Fa_shareCopy_0 (lv_at hl 0 rfl) rfl ?_
  refine mg_iload_n X 2 d_Fa_shareCopy_1 (lv_at hl 1 rfl) rfl ?_
  refine mg_iconst X 3 0 d_Fa_shareCopy_2 mg_ci_0 rfl ?_
  refine mg_iload_n X 4 d_Fa_shareCopy_3 (lv_at hl 3 rfl) rfl ?_
  refine mg_callVi X hK hw hA 7 [0, 1, 2, 3] 0 (fun _ => [mg_ob h 1 [.ref (qf), .ref (qm), .ref (qr), .int (nI (nf)), .int (nI (nc))], mg_ai K qf 6 fa, mg_ai K qm 6 mo, mg_ai K qr 6 rk]) rfl rfl (k_Fa_sourceOf l D K h qf qm qr nf nc fa mo rk a1 0 w (by omega) (by omega) (by omega) (by omega)) g_Fa_38 ⟨by decide, by decide⟩ ⟨rfl, rfl⟩ rfl rfl rfl hl.1 (rest := []) (As := [.int (nI (a1)), .int (nI (0)), .int (nI (w))]) rfl (Nat.le_of_ble_eq_true rfl) d_Fa_shareCopy_4 ⟨Nat.zero_le _, Nat.zero_le _⟩ (fun _ => rfl) (fun _ => rfl) rfl ?_
  intro r _ H locs hp2 hw
  subst hp2
  refine mg_istore X 9 [(4, .int (nI (fm_src fa mo rk w 3 a1 0))), (0, .ref (h)), (1, .int (nI (a1))), (2, .int (nI (a2))), (3, .int (nI (w)))] d_Fa_shareCopy_7 hl (by decide) rfl rfl (fun ls hl => ?_)
  refine mg_aload_n X 10 d_Fa_shareCopy_9 (lv_at hl 1 rfl) rfl ?_
  refine mg_iload_n X 11 d_Fa_shareCopy_10 (lv_at hl 2 rfl) rfl ?_
  refine mg_iconst X 12 1 d_Fa_shareCopy_11 mg_ci_1 rfl ?_
  refine mg_iload_n X 13 d_Fa_shareCopy_12 (lv_at hl 4 rfl) rfl ?_
  refine mg_callVi X hK hw hA 16 [0, 1, 2, 3] 0 (fun _ => [mg_ob h 1 [.ref (qf), .ref (qm), .ref (qr), .int (nI (nf)), .int (nI (nc))], mg_ai K qf 6 fa, mg_ai K qm 6 mo, mg_ai K qr 6 rk]) rfl rfl (k_Fa_sourceOf l D K h qf qm qr nf nc fa mo rk a1 1 w (by omega) (by omega) (by omega) (by omega)) g_Fa_38 ⟨by decide, by decide⟩ ⟨rfl, rfl⟩ rfl rfl rfl hl.1 (rest := []) (As := [.int (nI (a1)), .int (nI (1)), .int (nI (w))]) rfl (Nat.le_of_ble_eq_true rfl) d_Fa_shareCopy_13 ⟨Nat.zero_le _, Nat.zero_le _⟩ (fun _ => rfl) (fun _ => rfl) rfl ?_
  intro r _ H locs hp4 hw
  subst hp4
  refine mg_istore X 18 [(5, .int (nI (fm_src fa mo rk w 3 a1 1))), (4, .int (nI (fm_src fa mo rk w 3 a1 0))), (0, .ref (h)), (1, .int (nI (a1))), (2, .int (nI (a2))), (3, .int (nI (w)))] d_Fa_shareCopy_16 hl (by decide) rfl rfl (fun ls hl => ?_)
  refine mg_aload_n X 19 d_Fa_shareCopy_18 (lv_at hl 2 rfl) rfl ?_
  refine mg_iload_n X 20 d_Fa_shareCopy_19 (lv_at hl 4 rfl) rfl ?_
  refine mg_iconst X 21 0 d_Fa_shareCopy_20 mg_ci_0 rfl ?_
  refine mg_iload_n X 22 d_Fa_shareCopy_21 (lv_at hl 5 rfl) rfl ?_
  refine mg_callVi X hK hw hA 25 [0, 1, 2, 3] 0 (fun _ => [mg_ob h 1 [.ref (qf), .ref (qm), .ref (qr), .int (nI (nf)), .int (nI (nc))], mg_ai K qf 6 fa, mg_ai K qm 6 mo, mg_ai K qr 6 rk]) rfl rfl (k_Fa_sourceOf l D K h qf qm qr nf nc fa mo rk a2 0 w (by omega) (by omega) (by omega) (by omega)) g_Fa_38 ⟨by decide, by decide⟩ ⟨rfl, rfl⟩ rfl rfl rfl hl.1 (rest := []) (As := [.int (nI (a2)), .int (nI (0)), .int (nI (w))]) rfl (Nat.le_of_ble_eq_true rfl) d_Fa_shareCopy_22 ⟨Nat.zero_le _, Nat.zero_le _⟩ (fun _ => rfl) (fun _ => rfl) rfl ?_
  intro r _ H locs hp6 hw
  subst hp6
  refine mg_istore X 27 [(6, .int (nI (fm_src fa mo rk w 3 a2 0))), (5, .int (nI (fm_src fa mo rk w 3 a1 1))), (4, .int (nI (fm_src fa mo rk w 3 a1 0))), (0, .ref (h)), (1, .int (nI (a1))), (2, .int (nI (a2))), (3, .int (nI (w)))] d_Fa_shareCopy_25 hl (by decide) rfl rfl (fun ls hl => ?_)
  refine mg_aload_n X 28 d_Fa_shareCopy_27 (lv_at hl 3 rfl) rfl ?_
  refine mg_iload_n X 29 d_Fa_shareCopy_28 (lv_at hl 5 rfl) rfl ?_
  refine mg_iconst X 30 1 d_Fa_shareCopy_29 mg_ci_1 rfl ?_
  refine mg_iload_n X 31 d_Fa_shareCopy_30 (lv_at hl 6 rfl) rfl ?_
  refine mg_callVi X hK hw hA 34 [0, 1, 2, 3] 0 (fun _ => [mg_ob h 1 [.ref (qf), .ref (qm), .ref (qr), .int (nI (nf)), .int (nI (nc))], mg_ai K qf 6 fa, mg_ai K qm 6 mo, mg_ai K qr 6 rk]) rfl rfl (k_Fa_sourceOf l D K h qf qm qr nf nc fa mo rk a2 1 w (by omega) (by omega) (by omega) (by omega)) g_Fa_38 ⟨by decide, by decide⟩ ⟨rfl, rfl⟩ rfl rfl rfl hl.1 (rest := []) (As := [.int (nI (a2)), .int (nI (1)), .int (nI (w))]) rfl (Nat.le_of_ble_eq_true rfl) d_Fa_shareCopy_31 ⟨Nat.zero_le _, Nat.zero_le _⟩ (fun _ => rfl) (fun _ => rfl) rfl ?_
  intro r _ H locs hp8 hw
  subst hp8
  refine mg_istore X 36 [(7, .int (nI (fm_src fa mo rk w 3 a2 1))), (6, .int (nI (fm_src fa mo rk w 3 a2 0))), (5, .int (nI (fm_src fa mo rk w 3 a1 1))), (4, .int (nI (fm_src fa mo rk w 3 a1 0))), (0, .ref (h)), (1, .int (nI (a1))), (2, .int (nI (a2))), (3, .int (nI (w)))] d_Fa_shareCopy_34 hl (by decide) rfl rfl (fun ls hl => ?_)
  refine mg_iload X 38 d_Fa_shareCopy_36 (lv_at hl 3 rfl) rfl ?_
  refine mg_iload X 40 d_Fa_shareCopy_38 (lv_at hl 1 rfl) rfl ?_
  refine mg_icmp_eq X 64 43 (by omega) (by omega) d_Fa_shareCopy_40 (by decide) rfl (fun e1 => ?_) (fun e1 => ?_)
  · -- pc 40 t
    refine mg_iconst X 65 1 d_Fa_shareCopy_64 mg_ci_1 rfl ?_
    refine mg_goto X 69 d_Fa_shareCopy_65 (by decide) ?_
    exact mg_iret X hr hlk (mg_nz (by omega)) (()) (by rw [ft_c1 (show fm_shr fa mo rk a1 a2 w by unfold fm_shr; omega)]) hw d_Fa_shareCopy_69
  · -- pc 40 f
    refine mg_iload X 45 d_Fa_shareCopy_43 (lv_at hl 3 rfl) rfl ?_
    refine mg_iload X 47 d_Fa_shareCopy_45 (lv_at hl 0 rfl) rfl ?_
    refine mg_icmp_eq X 64 50 (by omega) (by omega) d_Fa_shareCopy_47 (by decide) rfl (fun e2 => ?_) (fun e2 => ?_)
    · -- pc 47 t
      refine mg_iconst X 65 1 d_Fa_shareCopy_64 mg_ci_1 rfl ?_
      refine mg_goto X 69 d_Fa_shareCopy_65 (by decide) ?_
      exact mg_iret X hr hlk (mg_nz (by omega)) (()) (by rw [ft_c1 (show fm_shr fa mo rk a1 a2 w by unfold fm_shr; omega)]) hw d_Fa_shareCopy_69
    · -- pc 47 f
      refine mg_iload X 52 d_Fa_shareCopy_50 (lv_at hl 2 rfl) rfl ?_
      refine mg_iload X 54 d_Fa_shareCopy_52 (lv_at hl 1 rfl) rfl ?_
      refine mg_icmp_eq X 64 57 (by omega) (by omega) d_Fa_shareCopy_54 (by decide) rfl (fun e3 => ?_) (fun e3 => ?_)
      · -- pc 54 t
        refine mg_iconst X 65 1 d_Fa_shareCopy_64 mg_ci_1 rfl ?_
        refine mg_goto X 69 d_Fa_shareCopy_65 (by decide) ?_
        exact mg_iret X hr hlk (mg_nz (by omega)) (()) (by rw [ft_c1 (show fm_shr fa mo rk a1 a2 w by unfold fm_shr; omega)]) hw d_Fa_shareCopy_69
      · -- pc 54 f
        refine mg_iload X 59 d_Fa_shareCopy_57 (lv_at hl 2 rfl) rfl ?_
        refine mg_iload X 61 d_Fa_shareCopy_59 (lv_at hl 0 rfl) rfl ?_
        refine mg_icmp_ne X 68 64 (by omega) (by omega) d_Fa_shareCopy_61 (by decide) rfl (fun e4 => ?_) (fun e4 => ?_)
        · -- pc 61 t
          refine mg_iconst X 69 0 d_Fa_shareCopy_68 mg_ci_0 rfl ?_
          exact mg_iret X hr hlk (mg_nz (by omega)) (()) (by rw [ft_c0 (show ¬ fm_shr fa mo rk a1 a2 w by unfold fm_shr; omega)]) hw d_Fa_shareCopy_69
        · -- pc 61 f
          refine mg_iconst X 65 1 d_Fa_shareCopy_64 mg_ci_1 rfl ?_
          refine mg_goto X 69 d_Fa_shareCopy_65 (by decide) ?_
          exact mg_iret X hr hlk (mg_nz (by omega)) (()) (by rw [ft_c1 (show fm_shr fa mo rk a1 a2 w by unfold fm_shr; omega)]) hw d_Fa_shareCopy_69
end
section
theorem mg_cb_8 : (Int8.ofInt (8)).toInt32 = nI 8 := by decide +kernel
theorem f_Ma_24 : mg_F "LinkedMarkers$Markers" 24 2 4 := ⟨R_Ma, T_Ma, 6, rfl, by decide, in_Ma, rfl, Or.inl (mg_in 93 (by decide +kernel) (by decide +kernel))⟩
theorem g_Ma_31 : mg_CV "LinkedMarkers$Markers" 31 y_Ma_gaps b_Ma_gaps 1 (some .int) 0 := ⟨Or.inl (mg_in 420 (by decide +kernel) (by decide +kernel)), (mg_in 215 (by decide +kernel) (by decide +kernel)), (mg_in 216 (by decide +kernel) (by decide +kernel)), (mg_in 36 (by decide +kernel) (by decide +kernel)), (mg_in 217 (by decide +kernel) (by decide +kernel)), by decide, by decide, by decide +kernel⟩
theorem f_Ma_9 : mg_F "LinkedMarkers$Markers" 9 2 0 := ⟨R_Ma, T_Ma, 6, rfl, by decide, in_Ma, rfl, Or.inl (mg_in 87 (by decide +kernel) (by decide +kernel))⟩
theorem fp_Ma_24 : mg_Fp "LinkedMarkers$Markers" 24 2 4 (.int) false := ⟨R_Ma, T_Ma, 6, t_Ma, rfl, by decide, in_Ma, rfl, ty_Ma, nm_Ma, rfl, by decide +kernel, (fun h => by first | rfl | cases h), Or.inl (mg_in 93 (by decide +kernel) (by decide +kernel))⟩
theorem f_Ma_15 : mg_F "LinkedMarkers$Markers" 15 2 1 := ⟨R_Ma, T_Ma, 6, rfl, by decide, in_Ma, rfl, Or.inl (mg_in 88 (by decide +kernel) (by decide +kernel))⟩
theorem f_Ma_18 : mg_F "LinkedMarkers$Markers" 18 2 2 := ⟨R_Ma, T_Ma, 6, rfl, by decide, in_Ma, rfl, Or.inl (mg_in 91 (by decide +kernel) (by decide +kernel))⟩
theorem f_Ma_21 : mg_F "LinkedMarkers$Markers" 21 2 3 := ⟨R_Ma, T_Ma, 6, rfl, by decide, in_Ma, rfl, Or.inl (mg_in 92 (by decide +kernel) (by decide +kernel))⟩
theorem g_Ma_35 : mg_CV "LinkedMarkers$Markers" 35 y_Ma_isSeen b_Ma_isSeen 3 (some .boolean) 2 := ⟨Or.inl (mg_in 442 (by decide +kernel) (by decide +kernel)), (mg_in 325 (by decide +kernel) (by decide +kernel)), (mg_in 326 (by decide +kernel) (by decide +kernel)), (mg_in 36 (by decide +kernel) (by decide +kernel)), (mg_in 327 (by decide +kernel) (by decide +kernel)), by decide, by decide, by decide +kernel⟩
theorem f_Ma_28 : mg_F "LinkedMarkers$Markers" 28 2 5 := ⟨R_Ma, T_Ma, 6, rfl, by decide, in_Ma, rfl, Or.inl (mg_in 97 (by decide +kernel) (by decide +kernel))⟩
theorem fp_Ma_28 : mg_Fp "LinkedMarkers$Markers" 28 2 5 (.int) false := ⟨R_Ma, T_Ma, 6, t_Ma, rfl, by decide, in_Ma, rfl, ty_Ma, nm_Ma, rfl, by decide +kernel, (fun h => by first | rfl | cases h), Or.inl (mg_in 97 (by decide +kernel) (by decide +kernel))⟩
end
section
theorem d_Ma_gaps_0 : decode b_Ma_gaps 0 = .ok (.aload_n 0, 1) := by decide +kernel
theorem d_Ma_gaps_1 : decode b_Ma_gaps 1 = .ok (.getfield 24, 3) := by decide +kernel
theorem d_Ma_gaps_4 : decode b_Ma_gaps 4 = .ok (.ifCond .le 12, 3) := by decide +kernel
theorem d_Ma_gaps_7 : decode b_Ma_gaps 7 = .ok (.aload_n 0, 1) := by decide +kernel
theorem d_Ma_gaps_8 : decode b_Ma_gaps 8 = .ok (.getfield 24, 3) := by decide +kernel
theorem d_Ma_gaps_11 : decode b_Ma_gaps 11 = .ok (.iconst 1, 1) := by decide +kernel
theorem d_Ma_gaps_12 : decode b_Ma_gaps 12 = .ok (.isub, 1) := by decide +kernel
theorem d_Ma_gaps_13 : decode b_Ma_gaps 13 = .ok (.goto 4, 3) := by decide +kernel
theorem d_Ma_gaps_16 : decode b_Ma_gaps 16 = .ok (.iconst 0, 1) := by decide +kernel
theorem d_Ma_gaps_17 : decode b_Ma_gaps 17 = .ok (.ireturn, 1) := by decide +kernel
theorem d_Ma_hasMarker_0 : decode b_Ma_hasMarker 0 = .ok (.iload_n 1, 1) := by decide +kernel
theorem d_Ma_hasMarker_1 : decode b_Ma_hasMarker 1 = .ok (.ifCond .lt 15, 3) := by decide +kernel
theorem d_Ma_hasMarker_4 : decode b_Ma_hasMarker 4 = .ok (.iload_n 1, 1) := by decide +kernel
theorem d_Ma_hasMarker_5 : decode b_Ma_hasMarker 5 = .ok (.aload_n 0, 1) := by decide +kernel
theorem d_Ma_hasMarker_6 : decode b_Ma_hasMarker 6 = .ok (.getfield 24, 3) := by decide +kernel
theorem d_Ma_hasMarker_9 : decode b_Ma_hasMarker 9 = .ok (.if_icmp .ge 7, 3) := by decide +kernel
theorem d_Ma_hasMarker_12 : decode b_Ma_hasMarker 12 = .ok (.iconst 1, 1) := by decide +kernel
theorem d_Ma_hasMarker_13 : decode b_Ma_hasMarker 13 = .ok (.goto 4, 3) := by decide +kernel
theorem d_Ma_hasMarker_16 : decode b_Ma_hasMarker 16 = .ok (.iconst 0, 1) := by decide +kernel
theorem d_Ma_hasMarker_17 : decode b_Ma_hasMarker 17 = .ok (.ireturn, 1) := by decide +kernel
theorem d_Ma_hasGap_0 : decode b_Ma_hasGap 0 = .ok (.iload_n 1, 1) := by decide +kernel
theorem d_Ma_hasGap_1 : decode b_Ma_hasGap 1 = .ok (.ifCond .lt 15, 3) := by decide +kernel
theorem d_Ma_hasGap_4 : decode b_Ma_hasGap 4 = .ok (.iload_n 1, 1) := by decide +kernel
theorem d_Ma_hasGap_5 : decode b_Ma_hasGap 5 = .ok (.aload_n 0, 1) := by decide +kernel
theorem d_Ma_hasGap_6 : decode b_Ma_hasGap 6 = .ok (.invokevirtual 31, 3) := by decide +kernel
theorem d_Ma_hasGap_9 : decode b_Ma_hasGap 9 = .ok (.if_icmp .ge 7, 3) := by decide +kernel
theorem d_Ma_hasGap_12 : decode b_Ma_hasGap 12 = .ok (.iconst 1, 1) := by decide +kernel
theorem d_Ma_hasGap_13 : decode b_Ma_hasGap 13 = .ok (.goto 4, 3) := by decide +kernel
theorem d_Ma_hasGap_16 : decode b_Ma_hasGap 16 = .ok (.iconst 0, 1) := by decide +kernel
theorem d_Ma_hasGap_17 : decode b_Ma_hasGap 17 = .ok (.ireturn, 1) := by decide +kernel
theorem d_Ma_add_0 : decode b_Ma_add 0 = .ok (.aload_n 0, 1) := by decide +kernel
theorem d_Ma_add_1 : decode b_Ma_add 1 = .ok (.getfield 24, 3) := by decide +kernel
theorem d_Ma_add_4 : decode b_Ma_add 4 = .ok (.istore 4, 2) := by decide +kernel
theorem d_Ma_add_6 : decode b_Ma_add 6 = .ok (.aload_n 0, 1) := by decide +kernel
theorem d_Ma_add_7 : decode b_Ma_add 7 = .ok (.getfield 9, 3) := by decide +kernel
theorem d_Ma_add_10 : decode b_Ma_add 10 = .ok (.iload 4, 2) := by decide +kernel
theorem d_Ma_add_12 : decode b_Ma_add 12 = .ok (.iconst 3, 1) := by decide +kernel
theorem d_Ma_add_13 : decode b_Ma_add 13 = .ok (.imul, 1) := by decide +kernel
theorem d_Ma_add_14 : decode b_Ma_add 14 = .ok (.iload_n 1, 1) := by decide +kernel
theorem d_Ma_add_15 : decode b_Ma_add 15 = .ok (.iastore, 1) := by decide +kernel
theorem d_Ma_add_16 : decode b_Ma_add 16 = .ok (.aload_n 0, 1) := by decide +kernel
theorem d_Ma_add_17 : decode b_Ma_add 17 = .ok (.getfield 9, 3) := by decide +kernel
theorem d_Ma_add_20 : decode b_Ma_add 20 = .ok (.iload 4, 2) := by decide +kernel
theorem d_Ma_add_22 : decode b_Ma_add 22 = .ok (.iconst 3, 1) := by decide +kernel
theorem d_Ma_add_23 : decode b_Ma_add 23 = .ok (.imul, 1) := by decide +kernel
theorem d_Ma_add_24 : decode b_Ma_add 24 = .ok (.iconst 1, 1) := by decide +kernel
theorem d_Ma_add_25 : decode b_Ma_add 25 = .ok (.iadd, 1) := by decide +kernel
theorem d_Ma_add_26 : decode b_Ma_add 26 = .ok (.iload_n 2, 1) := by decide +kernel
theorem d_Ma_add_27 : decode b_Ma_add 27 = .ok (.iastore, 1) := by decide +kernel
theorem d_Ma_add_28 : decode b_Ma_add 28 = .ok (.aload_n 0, 1) := by decide +kernel
theorem d_Ma_add_29 : decode b_Ma_add 29 = .ok (.getfield 9, 3) := by decide +kernel
theorem d_Ma_add_32 : decode b_Ma_add 32 = .ok (.iload 4, 2) := by decide +kernel
theorem d_Ma_add_34 : decode b_Ma_add 34 = .ok (.iconst 3, 1) := by decide +kernel
theorem d_Ma_add_35 : decode b_Ma_add 35 = .ok (.imul, 1) := by decide +kernel
theorem d_Ma_add_36 : decode b_Ma_add 36 = .ok (.iconst 2, 1) := by decide +kernel
theorem d_Ma_add_37 : decode b_Ma_add 37 = .ok (.iadd, 1) := by decide +kernel
theorem d_Ma_add_38 : decode b_Ma_add 38 = .ok (.iload_n 3, 1) := by decide +kernel
theorem d_Ma_add_39 : decode b_Ma_add 39 = .ok (.iastore, 1) := by decide +kernel
theorem d_Ma_add_40 : decode b_Ma_add 40 = .ok (.iload 4, 2) := by decide +kernel
theorem d_Ma_add_42 : decode b_Ma_add 42 = .ok (.ifCond .le 14, 3) := by decide +kernel
theorem d_Ma_add_45 : decode b_Ma_add 45 = .ok (.aload_n 0, 1) := by decide +kernel
theorem d_Ma_add_46 : decode b_Ma_add 46 = .ok (.getfield 15, 3) := by decide +kernel
theorem d_Ma_add_49 : decode b_Ma_add 49 = .ok (.iload 4, 2) := by decide +kernel
theorem d_Ma_add_51 : decode b_Ma_add 51 = .ok (.iconst 1, 1) := by decide +kernel
theorem d_Ma_add_52 : decode b_Ma_add 52 = .ok (.isub, 1) := by decide +kernel
theorem d_Ma_add_53 : decode b_Ma_add 53 = .ok (.bipush 8, 2) := by decide +kernel
theorem d_Ma_add_55 : decode b_Ma_add 55 = .ok (.iastore, 1) := by decide +kernel
theorem d_Ma_add_56 : decode b_Ma_add 56 = .ok (.aload_n 0, 1) := by decide +kernel
theorem d_Ma_add_57 : decode b_Ma_add 57 = .ok (.dup, 1) := by decide +kernel
theorem d_Ma_add_58 : decode b_Ma_add 58 = .ok (.getfield 24, 3) := by decide +kernel
theorem d_Ma_add_61 : decode b_Ma_add 61 = .ok (.iconst 1, 1) := by decide +kernel
theorem d_Ma_add_62 : decode b_Ma_add 62 = .ok (.iadd, 1) := by decide +kernel
theorem d_Ma_add_63 : decode b_Ma_add 63 = .ok (.putfield 24, 3) := by decide +kernel
theorem d_Ma_add_66 : decode b_Ma_add 66 = .ok (.iload 4, 2) := by decide +kernel
theorem d_Ma_add_68 : decode b_Ma_add 68 = .ok (.ireturn, 1) := by decide +kernel
theorem d_Ma_weightOf_0 : decode b_Ma_weightOf 0 = .ok (.iload_n 2, 1) := by decide +kernel
theorem d_Ma_weightOf_1 : decode b_Ma_weightOf 1 = .ok (.ifCond .ne 8, 3) := by decide +kernel
theorem d_Ma_weightOf_4 : decode b_Ma_weightOf 4 = .ok (.bipush 8, 2) := by decide +kernel
theorem d_Ma_weightOf_6 : decode b_Ma_weightOf 6 = .ok (.goto 15, 3) := by decide +kernel
theorem d_Ma_weightOf_9 : decode b_Ma_weightOf 9 = .ok (.aload_n 0, 1) := by decide +kernel
theorem d_Ma_weightOf_10 : decode b_Ma_weightOf 10 = .ok (.getfield 9, 3) := by decide +kernel
theorem d_Ma_weightOf_13 : decode b_Ma_weightOf 13 = .ok (.iload_n 1, 1) := by decide +kernel
theorem d_Ma_weightOf_14 : decode b_Ma_weightOf 14 = .ok (.iconst 3, 1) := by decide +kernel
theorem d_Ma_weightOf_15 : decode b_Ma_weightOf 15 = .ok (.imul, 1) := by decide +kernel
theorem d_Ma_weightOf_16 : decode b_Ma_weightOf 16 = .ok (.iload_n 2, 1) := by decide +kernel
theorem d_Ma_weightOf_17 : decode b_Ma_weightOf 17 = .ok (.iadd, 1) := by decide +kernel
theorem d_Ma_weightOf_18 : decode b_Ma_weightOf 18 = .ok (.iconst 1, 1) := by decide +kernel
theorem d_Ma_weightOf_19 : decode b_Ma_weightOf 19 = .ok (.isub, 1) := by decide +kernel
theorem d_Ma_weightOf_20 : decode b_Ma_weightOf 20 = .ok (.iaload, 1) := by decide +kernel
theorem d_Ma_weightOf_21 : decode b_Ma_weightOf 21 = .ok (.ireturn, 1) := by decide +kernel
theorem d_Ma_isSeen_0 : decode b_Ma_isSeen 0 = .ok (.aload_n 0, 1) := by decide +kernel
theorem d_Ma_isSeen_1 : decode b_Ma_isSeen 1 = .ok (.getfield 18, 3) := by decide +kernel
theorem d_Ma_isSeen_4 : decode b_Ma_isSeen 4 = .ok (.iload_n 2, 1) := by decide +kernel
theorem d_Ma_isSeen_5 : decode b_Ma_isSeen 5 = .ok (.bipush 6, 2) := by decide +kernel
theorem d_Ma_isSeen_7 : decode b_Ma_isSeen 7 = .ok (.imul, 1) := by decide +kernel
theorem d_Ma_isSeen_8 : decode b_Ma_isSeen 8 = .ok (.iload_n 1, 1) := by decide +kernel
theorem d_Ma_isSeen_9 : decode b_Ma_isSeen 9 = .ok (.iadd, 1) := by decide +kernel
theorem d_Ma_isSeen_10 : decode b_Ma_isSeen 10 = .ok (.iaload, 1) := by decide +kernel
theorem d_Ma_isSeen_11 : decode b_Ma_isSeen 11 = .ok (.ifCond .eq 7, 3) := by decide +kernel
theorem d_Ma_isSeen_14 : decode b_Ma_isSeen 14 = .ok (.iconst 1, 1) := by decide +kernel
theorem d_Ma_isSeen_15 : decode b_Ma_isSeen 15 = .ok (.goto 4, 3) := by decide +kernel
theorem d_Ma_isSeen_18 : decode b_Ma_isSeen 18 = .ok (.iconst 0, 1) := by decide +kernel
theorem d_Ma_isSeen_19 : decode b_Ma_isSeen 19 = .ok (.ireturn, 1) := by decide +kernel
theorem d_Ma_oneLetter_0 : decode b_Ma_oneLetter 0 = .ok (.aload_n 0, 1) := by decide +kernel
theorem d_Ma_oneLetter_1 : decode b_Ma_oneLetter 1 = .ok (.getfield 18, 3) := by decide +kernel
theorem d_Ma_oneLetter_4 : decode b_Ma_oneLetter 4 = .ok (.iload_n 2, 1) := by decide +kernel
theorem d_Ma_oneLetter_5 : decode b_Ma_oneLetter 5 = .ok (.bipush 6, 2) := by decide +kernel
theorem d_Ma_oneLetter_7 : decode b_Ma_oneLetter 7 = .ok (.imul, 1) := by decide +kernel
theorem d_Ma_oneLetter_8 : decode b_Ma_oneLetter 8 = .ok (.iload_n 1, 1) := by decide +kernel
theorem d_Ma_oneLetter_9 : decode b_Ma_oneLetter 9 = .ok (.iadd, 1) := by decide +kernel
theorem d_Ma_oneLetter_10 : decode b_Ma_oneLetter 10 = .ok (.iaload, 1) := by decide +kernel
theorem d_Ma_oneLetter_11 : decode b_Ma_oneLetter 11 = .ok (.ireturn, 1) := by decide +kernel
theorem d_Ma_otherLetter_0 : decode b_Ma_otherLetter 0 = .ok (.aload_n 0, 1) := by decide +kernel
theorem d_Ma_otherLetter_1 : decode b_Ma_otherLetter 1 = .ok (.getfield 21, 3) := by decide +kernel
theorem d_Ma_otherLetter_4 : decode b_Ma_otherLetter 4 = .ok (.iload_n 2, 1) := by decide +kernel
theorem d_Ma_otherLetter_5 : decode b_Ma_otherLetter 5 = .ok (.bipush 6, 2) := by decide +kernel
theorem d_Ma_otherLetter_7 : decode b_Ma_otherLetter 7 = .ok (.imul, 1) := by decide +kernel
theorem d_Ma_otherLetter_8 : decode b_Ma_otherLetter 8 = .ok (.iload_n 1, 1) := by decide +kernel
theorem d_Ma_otherLetter_9 : decode b_Ma_otherLetter 9 = .ok (.iadd, 1) := by decide +kernel
theorem d_Ma_otherLetter_10 : decode b_Ma_otherLetter 10 = .ok (.iaload, 1) := by decide +kernel
theorem d_Ma_otherLetter_11 : decode b_Ma_otherLetter 11 = .ok (.ireturn, 1) := by decide +kernel
theorem d_Ma_putSighting_0 : decode b_Ma_putSighting 0 = .ok (.aload_n 0, 1) := by decide +kernel
theorem d_Ma_putSighting_1 : decode b_Ma_putSighting 1 = .ok (.iload_n 1, 1) := by decide +kernel
theorem d_Ma_putSighting_2 : decode b_Ma_putSighting 2 = .ok (.iload_n 2, 1) := by decide +kernel
theorem d_Ma_putSighting_3 : decode b_Ma_putSighting 3 = .ok (.invokevirtual 35, 3) := by decide +kernel
theorem d_Ma_putSighting_6 : decode b_Ma_putSighting 6 = .ok (.ifCond .ne 13, 3) := by decide +kernel
theorem d_Ma_putSighting_9 : decode b_Ma_putSighting 9 = .ok (.aload_n 0, 1) := by decide +kernel
theorem d_Ma_putSighting_10 : decode b_Ma_putSighting 10 = .ok (.dup, 1) := by decide +kernel
theorem d_Ma_putSighting_11 : decode b_Ma_putSighting 11 = .ok (.getfield 28, 3) := by decide +kernel
theorem d_Ma_putSighting_14 : decode b_Ma_putSighting 14 = .ok (.iconst 1, 1) := by decide +kernel
theorem d_Ma_putSighting_15 : decode b_Ma_putSighting 15 = .ok (.iadd, 1) := by decide +kernel
theorem d_Ma_putSighting_16 : decode b_Ma_putSighting 16 = .ok (.putfield 28, 3) := by decide +kernel
theorem d_Ma_putSighting_19 : decode b_Ma_putSighting 19 = .ok (.aload_n 0, 1) := by decide +kernel
theorem d_Ma_putSighting_20 : decode b_Ma_putSighting 20 = .ok (.getfield 18, 3) := by decide +kernel
theorem d_Ma_putSighting_23 : decode b_Ma_putSighting 23 = .ok (.iload_n 2, 1) := by decide +kernel
theorem d_Ma_putSighting_24 : decode b_Ma_putSighting 24 = .ok (.bipush 6, 2) := by decide +kernel
theorem d_Ma_putSighting_26 : decode b_Ma_putSighting 26 = .ok (.imul, 1) := by decide +kernel
theorem d_Ma_putSighting_27 : decode b_Ma_putSighting 27 = .ok (.iload_n 1, 1) := by decide +kernel
theorem d_Ma_putSighting_28 : decode b_Ma_putSighting 28 = .ok (.iadd, 1) := by decide +kernel
theorem d_Ma_putSighting_29 : decode b_Ma_putSighting 29 = .ok (.iload_n 3, 1) := by decide +kernel
theorem d_Ma_putSighting_30 : decode b_Ma_putSighting 30 = .ok (.iastore, 1) := by decide +kernel
theorem d_Ma_putSighting_31 : decode b_Ma_putSighting 31 = .ok (.aload_n 0, 1) := by decide +kernel
theorem d_Ma_putSighting_32 : decode b_Ma_putSighting 32 = .ok (.getfield 21, 3) := by decide +kernel
theorem d_Ma_putSighting_35 : decode b_Ma_putSighting 35 = .ok (.iload_n 2, 1) := by decide +kernel
theorem d_Ma_putSighting_36 : decode b_Ma_putSighting 36 = .ok (.bipush 6, 2) := by decide +kernel
theorem d_Ma_putSighting_38 : decode b_Ma_putSighting 38 = .ok (.imul, 1) := by decide +kernel
theorem d_Ma_putSighting_39 : decode b_Ma_putSighting 39 = .ok (.iload_n 1, 1) := by decide +kernel
theorem d_Ma_putSighting_40 : decode b_Ma_putSighting 40 = .ok (.iadd, 1) := by decide +kernel
theorem d_Ma_putSighting_41 : decode b_Ma_putSighting 41 = .ok (.iload 4, 2) := by decide +kernel
theorem d_Ma_putSighting_43 : decode b_Ma_putSighting 43 = .ok (.iastore, 1) := by decide +kernel
theorem d_Ma_putSighting_44 : decode b_Ma_putSighting 44 = .ok (.return_, 1) := by decide +kernel
theorem d_Ma_dropSighting_0 : decode b_Ma_dropSighting 0 = .ok (.aload_n 0, 1) := by decide +kernel
theorem d_Ma_dropSighting_1 : decode b_Ma_dropSighting 1 = .ok (.iload_n 1, 1) := by decide +kernel
theorem d_Ma_dropSighting_2 : decode b_Ma_dropSighting 2 = .ok (.iload_n 2, 1) := by decide +kernel
theorem d_Ma_dropSighting_3 : decode b_Ma_dropSighting 3 = .ok (.invokevirtual 35, 3) := by decide +kernel
theorem d_Ma_dropSighting_6 : decode b_Ma_dropSighting 6 = .ok (.ifCond .eq 13, 3) := by decide +kernel
theorem d_Ma_dropSighting_9 : decode b_Ma_dropSighting 9 = .ok (.aload_n 0, 1) := by decide +kernel
theorem d_Ma_dropSighting_10 : decode b_Ma_dropSighting 10 = .ok (.dup, 1) := by decide +kernel
theorem d_Ma_dropSighting_11 : decode b_Ma_dropSighting 11 = .ok (.getfield 28, 3) := by decide +kernel
theorem d_Ma_dropSighting_14 : decode b_Ma_dropSighting 14 = .ok (.iconst 1, 1) := by decide +kernel
theorem d_Ma_dropSighting_15 : decode b_Ma_dropSighting 15 = .ok (.isub, 1) := by decide +kernel
theorem d_Ma_dropSighting_16 : decode b_Ma_dropSighting 16 = .ok (.putfield 28, 3) := by decide +kernel
theorem d_Ma_dropSighting_19 : decode b_Ma_dropSighting 19 = .ok (.aload_n 0, 1) := by decide +kernel
theorem d_Ma_dropSighting_20 : decode b_Ma_dropSighting 20 = .ok (.getfield 18, 3) := by decide +kernel
theorem d_Ma_dropSighting_23 : decode b_Ma_dropSighting 23 = .ok (.iload_n 2, 1) := by decide +kernel
theorem d_Ma_dropSighting_24 : decode b_Ma_dropSighting 24 = .ok (.bipush 6, 2) := by decide +kernel
theorem d_Ma_dropSighting_26 : decode b_Ma_dropSighting 26 = .ok (.imul, 1) := by decide +kernel
theorem d_Ma_dropSighting_27 : decode b_Ma_dropSighting 27 = .ok (.iload_n 1, 1) := by decide +kernel
theorem d_Ma_dropSighting_28 : decode b_Ma_dropSighting 28 = .ok (.iadd, 1) := by decide +kernel
theorem d_Ma_dropSighting_29 : decode b_Ma_dropSighting 29 = .ok (.iconst 0, 1) := by decide +kernel
theorem d_Ma_dropSighting_30 : decode b_Ma_dropSighting 30 = .ok (.iastore, 1) := by decide +kernel
theorem d_Ma_dropSighting_31 : decode b_Ma_dropSighting 31 = .ok (.aload_n 0, 1) := by decide +kernel
theorem d_Ma_dropSighting_32 : decode b_Ma_dropSighting 32 = .ok (.getfield 21, 3) := by decide +kernel
theorem d_Ma_dropSighting_35 : decode b_Ma_dropSighting 35 = .ok (.iload_n 2, 1) := by decide +kernel
theorem d_Ma_dropSighting_36 : decode b_Ma_dropSighting 36 = .ok (.bipush 6, 2) := by decide +kernel
theorem d_Ma_dropSighting_38 : decode b_Ma_dropSighting 38 = .ok (.imul, 1) := by decide +kernel
theorem d_Ma_dropSighting_39 : decode b_Ma_dropSighting 39 = .ok (.iload_n 1, 1) := by decide +kernel
theorem d_Ma_dropSighting_40 : decode b_Ma_dropSighting 40 = .ok (.iadd, 1) := by decide +kernel
theorem d_Ma_dropSighting_41 : decode b_Ma_dropSighting 41 = .ok (.iconst 0, 1) := by decide +kernel
theorem d_Ma_dropSighting_42 : decode b_Ma_dropSighting 42 = .ok (.iastore, 1) := by decide +kernel
theorem d_Ma_dropSighting_43 : decode b_Ma_dropSighting 43 = .ok (.return_, 1) := by decide +kernel
end
section
set_option maxRecDepth 100000 in
set_option maxHeartbeats 4000000 in
theorem k_Ma_gaps (l : Launch) (D : va_G) (K : Nat → ClassId) (hM : Nat) (qw : Nat) (qra : Nat) (qo : Nat) (qt : Nat) (nm : Nat) (sg : Nat) (hn : nm ≤ 4) : mg_Mi l D K y_Ma_gaps b_Ma_gaps 1 (.int) ({ frames := 0, cells := 0, slots := 0, locals := 0 }) [.ref (hM)] [mg_ob hM 2 [.ref (qw), .ref (qra), .ref (qo), .ref (qt), .int (nI (nm)), .int (nI (sg))]] (fun (r : Int32) (_ : Unit) => r = nI (nm - 1)) (fun (_ : Unit) => [mg_ob hM 2 [.ref (qw), .ref (qra), .ref (qo), .ref (qt), .int (nI (nm)), .int (nI (sg))]]) := by
  intro sz
  refine mg_entry (Qc := fun A => va_Qi (fun (r : Int32) (_ : Unit) => r = nI (nm - 1)) (mg_B D A (fun (_ : Unit) => [mg_ob hM 2 [.ref (qw), .ref (qra), .ref (qo), .ref (qt), .int (nI (nm)), .int (nI (sg))]])) A) (by decide) (Nat.le_of_ble_eq_true rfl) ?_
  intro p e s m args below meth c A ls X hr hlk hnm hA hK hw hl
  have hl : lv_has ls 1 [(0, .ref (hM))] := hl
  refine mg_aload_n X 1 d_Ma_gaps_0 (lv_at hl 0 rfl) rfl ?_
  refine mg_get X hK hw 4 0 4 f_Ma_24 rfl rfl d_Ma_gaps_1 rfl ?_
  refine mg_if_le X 16 7 (by omega) d_Ma_gaps_4 (by decide) rfl (fun hz => ?_) (fun hz => ?_)
  · -- pc 4 t
    refine mg_iconst X 17 0 d_Ma_gaps_16 mg_ci_0 rfl ?_
    exact mg_iret X hr hlk (rfl) (()) (by rw [show nm - 1 = 0 by omega]) hw d_Ma_gaps_17
  · -- pc 4 f
    refine mg_aload_n X 8 d_Ma_gaps_7 (lv_at hl 0 rfl) rfl ?_
    refine mg_get X hK hw 11 0 4 f_Ma_24 rfl rfl d_Ma_gaps_8 rfl ?_
    refine mg_iconst X 12 1 d_Ma_gaps_11 mg_ci_1 rfl ?_
    refine mg_isub X 13 (nI (nm - 1)) d_Ma_gaps_12 (pk_sub (by omega)) rfl ?_
    refine mg_goto X 17 d_Ma_gaps_13 (by decide) ?_
    exact mg_iret X hr hlk (rfl) (()) (rfl) hw d_Ma_gaps_17

set_option maxRecDepth 100000 in
set_option maxHeartbeats 4000000 in
theorem k_Ma_hasMarker (l : Launch) (D : va_G) (K : Nat → ClassId) (hM : Nat) (qw : Nat) (qra : Nat) (qo : Nat) (qt : Nat) (nm : Nat) (sg : Nat) (x : Int32) (hn : nm ≤ 4) : mg_Mi l D K y_Ma_hasMarker b_Ma_hasMarker 2 (.boolean) ({ frames := 0, cells := 0, slots := 0, locals := 0 }) [.ref (hM), .int (x)] [mg_ob hM 2 [.ref (qw), .ref (qra), .ref (qo), .ref (qt), .int (nI (nm)), .int (nI (sg))]] (fun (r : Int32) (_ : Unit) => r = nI (ft_c (mg_lt x (nm)))) (fun (_ : Unit) => [mg_ob hM 2 [.ref (qw), .ref (qra), .ref (qo), .ref (qt), .int (nI (nm)), .int (nI (sg))]]) := by
  intro sz
  refine mg_entry (Qc := fun A => va_Qi (fun (r : Int32) (_ : Unit) => r = nI (ft_c (mg_lt x (nm)))) (mg_B D A (fun (_ : Unit) => [mg_ob hM 2 [.ref (qw), .ref (qra), .ref (qo), .ref (qt), .int (nI (nm)), .int (nI (sg))]])) A) (by decide) (Nat.le_of_ble_eq_true rfl) ?_
  intro p e s m args below meth c A ls X hr hlk hnm hA hK hw hl
  have hl : lv_has ls 2 [(0, .ref (hM)), (1, .int (x))] := hl
  refine mg_iload_n X 1 d_Ma_hasMarker_0 (lv_at hl 1 rfl) rfl ?_
  refine mg_iflt_r X 16 4 d_Ma_hasMarker_1 (by decide) rfl (fun hneg => ?_) (fun j hj ej => ?_)
  · -- pc 1 t
    refine mg_iconst X 17 0 d_Ma_hasMarker_16 mg_ci_0 rfl ?_
    exact mg_iret X hr hlk (mg_nz (by omega)) (()) (by rw [ft_c0 (mg_lt_neg hneg (by omega))]) hw d_Ma_hasMarker_17
  · -- pc 1 f
    subst ej
    refine mg_iload_n X 5 d_Ma_hasMarker_4 (lv_at hl 1 rfl) rfl ?_
    refine mg_aload_n X 6 d_Ma_hasMarker_5 (lv_at hl 0 rfl) rfl ?_
    refine mg_get X hK hw 9 0 4 f_Ma_24 rfl rfl d_Ma_hasMarker_6 rfl ?_
    refine mg_icmp_ge X 16 12 (by omega) (by omega) d_Ma_hasMarker_9 (by decide) rfl (fun hc => ?_) (fun hc => ?_)
    · -- pc 9 t
      refine mg_iconst X 17 0 d_Ma_hasMarker_16 mg_ci_0 rfl ?_
      exact mg_iret X hr hlk (mg_nz (by omega)) (()) (by rw [ft_c0 (mg_lt_ge hj hc)]) hw d_Ma_hasMarker_17
    · -- pc 9 f
      refine mg_iconst X 13 1 d_Ma_hasMarker_12 mg_ci_1 rfl ?_
      refine mg_goto X 17 d_Ma_hasMarker_13 (by decide) ?_
      exact mg_iret X hr hlk (mg_nz (by omega)) (()) (by rw [ft_c1 (mg_lt_in hc)]) hw d_Ma_hasMarker_17

set_option maxRecDepth 100000 in
set_option maxHeartbeats 4000000 in
theorem k_Ma_hasGap (l : Launch) (D : va_G) (K : Nat → ClassId) (hM : Nat) (qw : Nat) (qra : Nat) (qo : Nat) (qt : Nat) (nm : Nat) (sg : Nat) (x : Int32) (hn : nm ≤ 4) : mg_Mi l D K y_Ma_hasGap b_Ma_hasGap 2 (.boolean) ({ frames := 1, cells := 0, slots := 0, locals := 20 }) [.ref (hM), .int (x)] [mg_ob hM 2 [.ref (qw), .ref (qra), .ref (qo), .ref (qt), .int (nI (nm)), .int (nI (sg))]] (fun (r : Int32) (_ : Unit) => r = nI (ft_c (mg_lt x (nm - 1)))) (fun (_ : Unit) => [mg_ob hM 2 [.ref (qw), .ref (qra), .ref (qo), .ref (qt), .int (nI (nm)), .int (nI (sg))]]) := by
  intro sz
  refine mg_entry (Qc := fun A => va_Qi (fun (r : Int32) (_ : Unit) => r = nI (ft_c (mg_lt x (nm - 1)))) (mg_B D A (fun (_ : Unit) => [mg_ob hM 2 [.ref (qw), .ref (qra), .ref (qo), .ref (qt), .int (nI (nm)), .int (nI (sg))]])) A) (by decide) (Nat.le_of_ble_eq_true rfl) ?_
  intro p e s m args below meth c A ls X hr hlk hnm hA hK hw hl
  have hl : lv_has ls 2 [(0, .ref (hM)), (1, .int (x))] := hl
  refine mg_iload_n X 1 d_Ma_hasGap_0 (lv_at hl 1 rfl) rfl ?_
  refine mg_iflt_r X 16 4 d_Ma_hasGap_1 (by decide) rfl (fun hneg => ?_) (fun j hj ej => ?_)
  · -- pc 1 t
    refine mg_iconst X 17 0 d_Ma_hasGap_16 mg_ci_0 rfl ?_
    exact mg_iret X hr hlk (mg_nz (by omega)) (()) (by rw [ft_c0 (mg_lt_neg hneg (by omega))]) hw d_Ma_hasGap_17
  · -- pc 1 f
    subst ej
    refine mg_iload_n X 5 d_Ma_hasGap_4 (lv_at hl 1 rfl) rfl ?_
    refine mg_aload_n X 6 d_Ma_hasGap_5 (lv_at hl 0 rfl) rfl ?_
    refine mg_callVi X hK hw hA 9 [0] 0 (fun _ => [mg_ob hM 2 [.ref (qw), .ref (qra), .ref (qo), .ref (qt), .int (nI (nm)), .int (nI (sg))]]) rfl rfl (k_Ma_gaps l D K hM qw qra qo qt nm sg (by omega)) g_Ma_31 ⟨by decide, by decide⟩ ⟨rfl, rfl⟩ rfl rfl rfl hl.1 (rest := [.int (nI (j))]) (As := []) rfl (Nat.le_of_ble_eq_true rfl) d_Ma_hasGap_6 ⟨Nat.zero_le _, Nat.zero_le _⟩ (fun _ => rfl) (fun _ => rfl) rfl ?_
    intro r _ H locs hp2 hw
    subst hp2
    refine mg_icmp_ge X 16 12 (by omega) (by omega) d_Ma_hasGap_9 (by decide) rfl (fun hc => ?_) (fun hc => ?_)
    · -- pc 9 t
      refine mg_iconst X 17 0 d_Ma_hasGap_16 mg_ci_0 rfl ?_
      exact mg_iret X hr hlk (mg_nz (by omega)) (()) (by rw [ft_c0 (mg_lt_ge hj hc)]) hw d_Ma_hasGap_17
    · -- pc 9 f
      refine mg_iconst X 13 1 d_Ma_hasGap_12 mg_ci_1 rfl ?_
      refine mg_goto X 17 d_Ma_hasGap_13 (by decide) ?_
      exact mg_iret X hr hlk (mg_nz (by omega)) (()) (by rw [ft_c1 (mg_lt_in hc)]) hw d_Ma_hasGap_17

set_option maxRecDepth 100000 in
set_option maxHeartbeats 4000000 in
theorem k_Ma_add (l : Launch) (D : va_G) (K : Nat → ClassId) (hM : Nat) (qw : Nat) (qra : Nat) (qo : Nat) (qt : Nat) (nm : Nat) (sg : Nat) (wt : Nat → Nat) (rt : Nat → Nat) (a1 : Nat) (a2 : Nat) (a3 : Nat) (hn : nm < 4) : mg_Mi l D K y_Ma_add b_Ma_add 5 (.int) ({ frames := 0, cells := 0, slots := 0, locals := 0 }) [.ref (hM), .int (nI (a1)), .int (nI (a2)), .int (nI (a3))] [mg_ob hM 2 [.ref (qw), .ref (qra), .ref (qo), .ref (qt), .int (nI (nm)), .int (nI (sg))], mg_ai K qw 12 wt, mg_ai K qra 3 rt] (fun (r : Int32) (u : (Nat → Nat)) => r = nI nm ∧ u = ma_rt nm rt) (fun (u : (Nat → Nat)) => [mg_ob hM 2 [.ref (qw), .ref (qra), .ref (qo), .ref (qt), .int (nI (nm + 1)), .int (nI (sg))], mg_ai K qw 12 (va_up (va_up (va_up wt (nm * 3) a1) (nm * 3 + 1) a2) (nm * 3 + 2) a3), mg_ai K qra 3 u]) := by
  intro sz
  refine mg_entry (Qc := fun A => va_Qi (fun (r : Int32) (u : (Nat → Nat)) => r = nI nm ∧ u = ma_rt nm rt) (mg_B D A (fun (u : (Nat → Nat)) => [mg_ob hM 2 [.ref (qw), .ref (qra), .ref (qo), .ref (qt), .int (nI (nm + 1)), .int (nI (sg))], mg_ai K qw 12 (va_up (va_up (va_up wt (nm * 3) a1) (nm * 3 + 1) a2) (nm * 3 + 2) a3), mg_ai K qra 3 u])) A) (by decide) (Nat.le_of_ble_eq_true rfl) ?_
  intro p e s m args below meth c A ls X hr hlk hnm hA hK hw hl
  have hl : lv_has ls 5 [(0, .ref (hM)), (1, .int (nI (a1))), (2, .int (nI (a2))), (3, .int (nI (a3)))] := hl
  refine mg_aload_n X 1 d_Ma_add_0 (lv_at hl 0 rfl) rfl ?_
  refine mg_get X hK hw 4 0 4 f_Ma_24 rfl rfl d_Ma_add_1 rfl ?_
  refine mg_istore X 6 [(4, .int (nI (nm))), (0, .ref (hM)), (1, .int (nI (a1))), (2, .int (nI (a2))), (3, .int (nI (a3)))] d_Ma_add_4 hl (by decide) rfl rfl (fun ls hl => ?_)
  refine mg_aload_n X 7 d_Ma_add_6 (lv_at hl 1 rfl) rfl ?_
  refine mg_get X hK hw 10 0 0 f_Ma_9 rfl rfl d_Ma_add_7 rfl ?_
  refine mg_iload X 12 d_Ma_add_10 (lv_at hl 0 rfl) rfl ?_
  refine mg_iconst X 13 3 d_Ma_add_12 mg_ci_3 rfl ?_
  refine mg_imul X 14 (nI (nm * 3)) d_Ma_add_13 (pk_mul _ _) rfl ?_
  refine mg_iload_n X 15 d_Ma_add_14 (lv_at hl 2 rfl) rfl ?_
  refine mg_iast X hK hw 16 1 [mg_ob hM 2 [.ref (qw), .ref (qra), .ref (qo), .ref (qt), .int (nI (nm)), .int (nI (sg))], mg_ai K qw 12 (va_up wt (nm * 3) a1), mg_ai K qra 3 rt] rfl (by omega) (by omega) d_Ma_add_15 rfl rfl (fun H locs hw => ?_)
  refine mg_aload_n X 17 d_Ma_add_16 (lv_at hl 1 rfl) rfl ?_
  refine mg_get X hK hw 20 0 0 f_Ma_9 rfl rfl d_Ma_add_17 rfl ?_
  refine mg_iload X 22 d_Ma_add_20 (lv_at hl 0 rfl) rfl ?_
  refine mg_iconst X 23 3 d_Ma_add_22 mg_ci_3 rfl ?_
  refine mg_imul X 24 (nI (nm * 3)) d_Ma_add_23 (pk_mul _ _) rfl ?_
  refine mg_iconst X 25 1 d_Ma_add_24 mg_ci_1 rfl ?_
  refine mg_iadd X 26 (nI ((nm * 3) + 1)) d_Ma_add_25 (nI_add _ _) rfl ?_
  refine mg_iload_n X 27 d_Ma_add_26 (lv_at hl 3 rfl) rfl ?_
  refine mg_iast X hK hw 28 1 [mg_ob hM 2 [.ref (qw), .ref (qra), .ref (qo), .ref (qt), .int (nI (nm)), .int (nI (sg))], mg_ai K qw 12 (va_up (va_up wt (nm * 3) a1) ((nm * 3) + 1) a2), mg_ai K qra 3 rt] rfl (by omega) (by omega) d_Ma_add_27 rfl rfl (fun H locs hw => ?_)
  refine mg_aload_n X 29 d_Ma_add_28 (lv_at hl 1 rfl) rfl ?_
  refine mg_get X hK hw 32 0 0 f_Ma_9 rfl rfl d_Ma_add_29 rfl ?_
  refine mg_iload X 34 d_Ma_add_32 (lv_at hl 0 rfl) rfl ?_
  refine mg_iconst X 35 3 d_Ma_add_34 mg_ci_3 rfl ?_
  refine mg_imul X 36 (nI (nm * 3)) d_Ma_add_35 (pk_mul _ _) rfl ?_
  refine mg_iconst X 37 2 d_Ma_add_36 mg_ci_2 rfl ?_
  refine mg_iadd X 38 (nI ((nm * 3) + 2)) d_Ma_add_37 (nI_add _ _) rfl ?_
  refine mg_iload_n X 39 d_Ma_add_38 (lv_at hl 4 rfl) rfl ?_
  refine mg_iast X hK hw 40 1 [mg_ob hM 2 [.ref (qw), .ref (qra), .ref (qo), .ref (qt), .int (nI (nm)), .int (nI (sg))], mg_ai K qw 12 (va_up (va_up (va_up wt (nm * 3) a1) ((nm * 3) + 1) a2) ((nm * 3) + 2) a3), mg_ai K qra 3 rt] rfl (by omega) (by omega) d_Ma_add_39 rfl rfl (fun H locs hw => ?_)
  refine mg_iload X 42 d_Ma_add_40 (lv_at hl 0 rfl) rfl ?_
  refine mg_if_le X 56 45 (by omega) d_Ma_add_42 (by decide) rfl (fun hz => ?_) (fun hz => ?_)
  · -- pc 42 t
    refine mg_aload_n X 57 d_Ma_add_56 (lv_at hl 1 rfl) rfl ?_
    refine mg_dup X 58 d_Ma_add_57 rfl rfl ?_
    refine mg_get X hK hw 61 0 4 f_Ma_24 rfl rfl d_Ma_add_58 rfl ?_
    refine mg_iconst X 62 1 d_Ma_add_61 mg_ci_1 rfl ?_
    refine mg_iadd X 63 (nI (nm + 1)) d_Ma_add_62 (nI_add _ _) rfl ?_
    refine mg_put X hK hw 66 0 4 [mg_ob hM 2 [.ref (qw), .ref (qra), .ref (qo), .ref (qt), .int (nI (nm + 1)), .int (nI (sg))], mg_ai K qw 12 (va_up (va_up (va_up wt (nm * 3) a1) ((nm * 3) + 1) a2) ((nm * 3) + 2) a3), mg_ai K qra 3 rt] fp_Ma_24 rfl (Nat.le_of_ble_eq_true rfl) rfl rfl d_Ma_add_63 rfl rfl (fun H locs hw => ?_)
    refine mg_iload X 68 d_Ma_add_66 (lv_at hl 0 rfl) rfl ?_
    exact mg_iret X hr hlk (rfl) (rt) (⟨rfl, by unfold ma_rt; rw [if_neg (by omega)]⟩) hw d_Ma_add_68
  · -- pc 42 f
    refine mg_aload_n X 46 d_Ma_add_45 (lv_at hl 1 rfl) rfl ?_
    refine mg_get X hK hw 49 0 1 f_Ma_15 rfl rfl d_Ma_add_46 rfl ?_
    refine mg_iload X 51 d_Ma_add_49 (lv_at hl 0 rfl) rfl ?_
    refine mg_iconst X 52 1 d_Ma_add_51 mg_ci_1 rfl ?_
    refine mg_isub X 53 (nI (nm - 1)) d_Ma_add_52 (pk_sub (by omega)) rfl ?_
    refine mg_bipush X 55 8 d_Ma_add_53 mg_cb_8 rfl ?_
    refine mg_iast X hK hw 56 2 [mg_ob hM 2 [.ref (qw), .ref (qra), .ref (qo), .ref (qt), .int (nI (nm)), .int (nI (sg))], mg_ai K qw 12 (va_up (va_up (va_up wt (nm * 3) a1) ((nm * 3) + 1) a2) ((nm * 3) + 2) a3), mg_ai K qra 3 (va_up rt (nm - 1) 8)] rfl (by omega) (by omega) d_Ma_add_55 rfl rfl (fun H locs hw => ?_)
    refine mg_aload_n X 57 d_Ma_add_56 (lv_at hl 1 rfl) rfl ?_
    refine mg_dup X 58 d_Ma_add_57 rfl rfl ?_
    refine mg_get X hK hw 61 0 4 f_Ma_24 rfl rfl d_Ma_add_58 rfl ?_
    refine mg_iconst X 62 1 d_Ma_add_61 mg_ci_1 rfl ?_
    refine mg_iadd X 63 (nI (nm + 1)) d_Ma_add_62 (nI_add _ _) rfl ?_
    refine mg_put X hK hw 66 0 4 [mg_ob hM 2 [.ref (qw), .ref (qra), .ref (qo), .ref (qt), .int (nI (nm + 1)), .int (nI (sg))], mg_ai K qw 12 (va_up (va_up (va_up wt (nm * 3) a1) ((nm * 3) + 1) a2) ((nm * 3) + 2) a3), mg_ai K qra 3 (va_up rt (nm - 1) 8)] fp_Ma_24 rfl (Nat.le_of_ble_eq_true rfl) rfl rfl d_Ma_add_63 rfl rfl (fun H locs hw => ?_)
    refine mg_iload X 68 d_Ma_add_66 (lv_at hl 0 rfl) rfl ?_
    exact mg_iret X hr hlk (rfl) (va_up rt (nm - 1) 8) (⟨rfl, by unfold ma_rt; rw [if_pos hz]⟩) hw d_Ma_add_68

set_option maxRecDepth 100000 in
set_option maxHeartbeats 4000000 in
theorem k_Ma_weightOf (l : Launch) (D : va_G) (K : Nat → ClassId) (hM : Nat) (qw : Nat) (qra : Nat) (qo : Nat) (qt : Nat) (nm : Nat) (sg : Nat) (wt : Nat → Nat) (mk : Nat) (le : Nat) (hm : mk < 4) (hle : le ≤ 3) : mg_Mi l D K y_Ma_weightOf b_Ma_weightOf 3 (.int) ({ frames := 0, cells := 0, slots := 0, locals := 0 }) [.ref (hM), .int (nI (mk)), .int (nI (le))] [mg_ob hM 2 [.ref (qw), .ref (qra), .ref (qo), .ref (qt), .int (nI (nm)), .int (nI (sg))], mg_ai K qw 12 wt] (fun (r : Int32) (_ : Unit) => r = nI (if le = 0 then 8 else ma_wt wt mk le)) (fun (_ : Unit) => [mg_ob hM 2 [.ref (qw), .ref (qra), .ref (qo), .ref (qt), .int (nI (nm)), .int (nI (sg))], mg_ai K qw 12 wt]) := by
  intro sz
  refine mg_entry (Qc := fun A => va_Qi (fun (r : Int32) (_ : Unit) => r = nI (if le = 0 then 8 else ma_wt wt mk le)) (mg_B D A (fun (_ : Unit) => [mg_ob hM 2 [.ref (qw), .ref (qra), .ref (qo), .ref (qt), .int (nI (nm)), .int (nI (sg))], mg_ai K qw 12 wt])) A) (by decide) (Nat.le_of_ble_eq_true rfl) ?_
  intro p e s m args below meth c A ls X hr hlk hnm hA hK hw hl
  have hl : lv_has ls 3 [(0, .ref (hM)), (1, .int (nI (mk))), (2, .int (nI (le)))] := hl
  refine mg_iload_n X 1 d_Ma_weightOf_0 (lv_at hl 2 rfl) rfl ?_
  refine mg_if_ne X 9 4 (by omega) d_Ma_weightOf_1 (by decide) rfl (fun hz => ?_) (fun hz => ?_)
  · -- pc 1 t
    refine mg_aload_n X 10 d_Ma_weightOf_9 (lv_at hl 0 rfl) rfl ?_
    refine mg_get X hK hw 13 0 0 f_Ma_9 rfl rfl d_Ma_weightOf_10 rfl ?_
    refine mg_iload_n X 14 d_Ma_weightOf_13 (lv_at hl 1 rfl) rfl ?_
    refine mg_iconst X 15 3 d_Ma_weightOf_14 mg_ci_3 rfl ?_
    refine mg_imul X 16 (nI (mk * 3)) d_Ma_weightOf_15 (pk_mul _ _) rfl ?_
    refine mg_iload_n X 17 d_Ma_weightOf_16 (lv_at hl 2 rfl) rfl ?_
    refine mg_iadd X 18 (nI ((mk * 3) + le)) d_Ma_weightOf_17 (nI_add _ _) rfl ?_
    refine mg_iconst X 19 1 d_Ma_weightOf_18 mg_ci_1 rfl ?_
    refine mg_isub X 20 (nI (((mk * 3) + le) - 1)) d_Ma_weightOf_19 (pk_sub (by omega)) rfl ?_
    refine mg_iald X hK hw 21 1 rfl (by omega) (by omega) d_Ma_weightOf_20 rfl ?_
    exact mg_iret X hr hlk (rfl) (()) (by rw [if_neg hz]; rfl) hw d_Ma_weightOf_21
  · -- pc 1 f
    refine mg_bipush X 6 8 d_Ma_weightOf_4 mg_cb_8 rfl ?_
    refine mg_goto X 21 d_Ma_weightOf_6 (by decide) ?_
    exact mg_iret X hr hlk (rfl) (()) (by rw [if_pos hz]) hw d_Ma_weightOf_21

set_option maxRecDepth 100000 in
set_option maxHeartbeats 4000000 in
theorem k_Ma_isSeen (l : Launch) (D : va_G) (K : Nat → ClassId) (hM : Nat) (qw : Nat) (qra : Nat) (qo : Nat) (qt : Nat) (nm : Nat) (sg : Nat) (ol : Nat → Nat) (pe : Nat) (mk : Nat) (hm : mk < 4) (hpe : pe < 6) (hol : ∀ k, k < 24 → ol k ≤ 3) : mg_Mi l D K y_Ma_isSeen b_Ma_isSeen 3 (.boolean) ({ frames := 0, cells := 0, slots := 0, locals := 0 }) [.ref (hM), .int (nI (pe)), .int (nI (mk))] [mg_ob hM 2 [.ref (qw), .ref (qra), .ref (qo), .ref (qt), .int (nI (nm)), .int (nI (sg))], mg_ai K qo 24 ol] (fun (r : Int32) (_ : Unit) => r = nI (ft_c (ol (mk * 6 + pe) ≠ 0))) (fun (_ : Unit) => [mg_ob hM 2 [.ref (qw), .ref (qra), .ref (qo), .ref (qt), .int (nI (nm)), .int (nI (sg))], mg_ai K qo 24 ol]) := by
  intro sz
  refine mg_entry (Qc := fun A => va_Qi (fun (r : Int32) (_ : Unit) => r = nI (ft_c (ol (mk * 6 + pe) ≠ 0))) (mg_B D A (fun (_ : Unit) => [mg_ob hM 2 [.ref (qw), .ref (qra), .ref (qo), .ref (qt), .int (nI (nm)), .int (nI (sg))], mg_ai K qo 24 ol])) A) (by decide) (Nat.le_of_ble_eq_true rfl) ?_
  intro p e s m args below meth c A ls X hr hlk hnm hA hK hw hl
  have hl : lv_has ls 3 [(0, .ref (hM)), (1, .int (nI (pe))), (2, .int (nI (mk)))] := hl
  refine mg_aload_n X 1 d_Ma_isSeen_0 (lv_at hl 0 rfl) rfl ?_
  refine mg_get X hK hw 4 0 2 f_Ma_18 rfl rfl d_Ma_isSeen_1 rfl ?_
  refine mg_iload_n X 5 d_Ma_isSeen_4 (lv_at hl 2 rfl) rfl ?_
  refine mg_bipush X 7 6 d_Ma_isSeen_5 mg_cb_6 rfl ?_
  refine mg_imul X 8 (nI (mk * 6)) d_Ma_isSeen_7 (pk_mul _ _) rfl ?_
  refine mg_iload_n X 9 d_Ma_isSeen_8 (lv_at hl 1 rfl) rfl ?_
  refine mg_iadd X 10 (nI ((mk * 6) + pe)) d_Ma_isSeen_9 (nI_add _ _) rfl ?_
  refine mg_iald X hK hw 11 1 rfl (by omega) (by omega) d_Ma_isSeen_10 rfl ?_
  refine mg_if_eq X 18 14 (by have := hol (mk * 6 + pe) (by omega); omega) d_Ma_isSeen_11 (by decide) rfl (fun hz => ?_) (fun hz => ?_)
  · -- pc 11 t
    refine mg_iconst X 19 0 d_Ma_isSeen_18 mg_ci_0 rfl ?_
    exact mg_iret X hr hlk (mg_nz (by omega)) (()) (by rw [ft_c0 (fun q => q hz)]) hw d_Ma_isSeen_19
  · -- pc 11 f
    refine mg_iconst X 15 1 d_Ma_isSeen_14 mg_ci_1 rfl ?_
    refine mg_goto X 19 d_Ma_isSeen_15 (by decide) ?_
    exact mg_iret X hr hlk (mg_nz (by omega)) (()) (by rw [ft_c1 hz]) hw d_Ma_isSeen_19

set_option maxRecDepth 100000 in
set_option maxHeartbeats 4000000 in
theorem k_Ma_oneLetter (l : Launch) (D : va_G) (K : Nat → ClassId) (hM : Nat) (qw : Nat) (qra : Nat) (qo : Nat) (qt : Nat) (nm : Nat) (sg : Nat) (ol : Nat → Nat) (pe : Nat) (mk : Nat) (hm : mk < 4) (hpe : pe < 6) : mg_Mi l D K y_Ma_oneLetter b_Ma_oneLetter 3 (.int) ({ frames := 0, cells := 0, slots := 0, locals := 0 }) [.ref (hM), .int (nI (pe)), .int (nI (mk))] [mg_ob hM 2 [.ref (qw), .ref (qra), .ref (qo), .ref (qt), .int (nI (nm)), .int (nI (sg))], mg_ai K qo 24 ol] (fun (r : Int32) (_ : Unit) => r = nI (ol (mk * 6 + pe))) (fun (_ : Unit) => [mg_ob hM 2 [.ref (qw), .ref (qra), .ref (qo), .ref (qt), .int (nI (nm)), .int (nI (sg))], mg_ai K qo 24 ol]) := by
  intro sz
  refine mg_entry (Qc := fun A => va_Qi (fun (r : Int32) (_ : Unit) => r = nI (ol (mk * 6 + pe))) (mg_B D A (fun (_ : Unit) => [mg_ob hM 2 [.ref (qw), .ref (qra), .ref (qo), .ref (qt), .int (nI (nm)), .int (nI (sg))], mg_ai K qo 24 ol])) A) (by decide) (Nat.le_of_ble_eq_true rfl) ?_
  intro p e s m args below meth c A ls X hr hlk hnm hA hK hw hl
  have hl : lv_has ls 3 [(0, .ref (hM)), (1, .int (nI (pe))), (2, .int (nI (mk)))] := hl
  refine mg_aload_n X 1 d_Ma_oneLetter_0 (lv_at hl 0 rfl) rfl ?_
  refine mg_get X hK hw 4 0 2 f_Ma_18 rfl rfl d_Ma_oneLetter_1 rfl ?_
  refine mg_iload_n X 5 d_Ma_oneLetter_4 (lv_at hl 2 rfl) rfl ?_
  refine mg_bipush X 7 6 d_Ma_oneLetter_5 mg_cb_6 rfl ?_
  refine mg_imul X 8 (nI (mk * 6)) d_Ma_oneLetter_7 (pk_mul _ _) rfl ?_
  refine mg_iload_n X 9 d_Ma_oneLetter_8 (lv_at hl 1 rfl) rfl ?_
  refine mg_iadd X 10 (nI ((mk * 6) + pe)) d_Ma_oneLetter_9 (nI_add _ _) rfl ?_
  refine mg_iald X hK hw 11 1 rfl (by omega) (by omega) d_Ma_oneLetter_10 rfl ?_
  exact mg_iret X hr hlk (rfl) (()) (rfl) hw d_Ma_oneLetter_11

set_option maxRecDepth 100000 in
set_option maxHeartbeats 4000000 in
theorem k_Ma_otherLetter (l : Launch) (D : va_G) (K : Nat → ClassId) (hM : Nat) (qw : Nat) (qra : Nat) (qo : Nat) (qt : Nat) (nm : Nat) (sg : Nat) (tl : Nat → Nat) (pe : Nat) (mk : Nat) (hm : mk < 4) (hpe : pe < 6) : mg_Mi l D K y_Ma_otherLetter b_Ma_otherLetter 3 (.int) ({ frames := 0, cells := 0, slots := 0, locals := 0 }) [.ref (hM), .int (nI (pe)), .int (nI (mk))] [mg_ob hM 2 [.ref (qw), .ref (qra), .ref (qo), .ref (qt), .int (nI (nm)), .int (nI (sg))], mg_ai K qt 24 tl] (fun (r : Int32) (_ : Unit) => r = nI (tl (mk * 6 + pe))) (fun (_ : Unit) => [mg_ob hM 2 [.ref (qw), .ref (qra), .ref (qo), .ref (qt), .int (nI (nm)), .int (nI (sg))], mg_ai K qt 24 tl]) := by
  intro sz
  refine mg_entry (Qc := fun A => va_Qi (fun (r : Int32) (_ : Unit) => r = nI (tl (mk * 6 + pe))) (mg_B D A (fun (_ : Unit) => [mg_ob hM 2 [.ref (qw), .ref (qra), .ref (qo), .ref (qt), .int (nI (nm)), .int (nI (sg))], mg_ai K qt 24 tl])) A) (by decide) (Nat.le_of_ble_eq_true rfl) ?_
  intro p e s m args below meth c A ls X hr hlk hnm hA hK hw hl
  have hl : lv_has ls 3 [(0, .ref (hM)), (1, .int (nI (pe))), (2, .int (nI (mk)))] := hl
  refine mg_aload_n X 1 d_Ma_otherLetter_0 (lv_at hl 0 rfl) rfl ?_
  refine mg_get X hK hw 4 0 3 f_Ma_21 rfl rfl d_Ma_otherLetter_1 rfl ?_
  refine mg_iload_n X 5 d_Ma_otherLetter_4 (lv_at hl 2 rfl) rfl ?_
  refine mg_bipush X 7 6 d_Ma_otherLetter_5 mg_cb_6 rfl ?_
  refine mg_imul X 8 (nI (mk * 6)) d_Ma_otherLetter_7 (pk_mul _ _) rfl ?_
  refine mg_iload_n X 9 d_Ma_otherLetter_8 (lv_at hl 1 rfl) rfl ?_
  refine mg_iadd X 10 (nI ((mk * 6) + pe)) d_Ma_otherLetter_9 (nI_add _ _) rfl ?_
  refine mg_iald X hK hw 11 1 rfl (by omega) (by omega) d_Ma_otherLetter_10 rfl ?_
  exact mg_iret X hr hlk (rfl) (()) (rfl) hw d_Ma_otherLetter_11

set_option maxRecDepth 100000 in
set_option maxHeartbeats 4000000 in
theorem k_Ma_putSighting (l : Launch) (D : va_G) (K : Nat → ClassId) (hM : Nat) (qw : Nat) (qra : Nat) (qo : Nat) (qt : Nat) (nm : Nat) (sg : Nat) (ol : Nat → Nat) (tl : Nat → Nat) (pe : Nat) (mk : Nat) (a1 : Nat) (a2 : Nat) (hm : mk < 4) (hpe : pe < 6) (hol : ∀ k, k < 24 → ol k ≤ 3) (hg : sg ≤ 24) (hg1 : ol (mk * 6 + pe) ≠ 0 → 1 ≤ sg) : mg_Mv l D K y_Ma_putSighting b_Ma_putSighting 5 ({ frames := 1, cells := 0, slots := 0, locals := 22 }) [.ref (hM), .int (nI (pe)), .int (nI (mk)), .int (nI (a1)), .int (nI (a2))] [mg_ob hM 2 [.ref (qw), .ref (qra), .ref (qo), .ref (qt), .int (nI (nm)), .int (nI (sg))], mg_ai K qo 24 ol, mg_ai K qt 24 tl] (fun (g2 : (Nat)) => g2 = (if ol (mk * 6 + pe) = 0 then sg + 1 else sg)) (fun (g2 : (Nat)) => [mg_ob hM 2 [.ref (qw), .ref (qra), .ref (qo), .ref (qt), .int (nI (nm)), .int (nI (g2))], mg_ai K qo 24 (va_up ol (mk * 6 + pe) a1), mg_ai K qt 24 (va_up tl (mk * 6 + pe) a2)]) := by
  intro sz
  refine mg_entry (Qc := fun A => va_Qv (fun (g2 : (Nat)) => g2 = (if ol (mk * 6 + pe) = 0 then sg + 1 else sg)) (mg_B D A (fun (g2 : (Nat)) => [mg_ob hM 2 [.ref (qw), .ref (qra), .ref (qo), .ref (qt), .int (nI (nm)), .int (nI (g2))], mg_ai K qo 24 (va_up ol (mk * 6 + pe) a1), mg_ai K qt 24 (va_up tl (mk * 6 + pe) a2)])) A) (by decide) (Nat.le_of_ble_eq_true rfl) ?_
  intro p e s m args below meth c A ls X hr hlk hnm hA hK hw hl
  have hl : lv_has ls 5 [(0, .ref (hM)), (1, .int (nI (pe))), (2, .int (nI (mk))), (3, .int (nI (a1))), (4, .int (nI (a2)))] := hl
  refine mg_aload_n X 1 d_Ma_putSighting_0 (lv_at hl 0 rfl) rfl ?_
  refine mg_iload_n X 2 d_Ma_putSighting_1 (lv_at hl 1 rfl) rfl ?_
  refine mg_iload_n X 3 d_Ma_putSighting_2 (lv_at hl 2 rfl) rfl ?_
  refine mg_callVi X hK hw hA 6 [0, 1] 0 (fun _ => [mg_ob hM 2 [.ref (qw), .ref (qra), .ref (qo), .ref (qt), .int (nI (nm)), .int (nI (sg))], mg_ai K qo 24 ol, mg_ai K qt 24 tl]) rfl rfl (k_Ma_isSeen l D K hM qw qra qo qt nm sg ol pe mk (by omega) (by omega) (hol)) g_Ma_35 ⟨by decide, by decide⟩ ⟨rfl, rfl⟩ rfl rfl rfl hl.1 (rest := []) (As := [.int (nI (pe)), .int (nI (mk))]) rfl (Nat.le_of_ble_eq_true rfl) d_Ma_putSighting_3 ⟨Nat.zero_le _, Nat.zero_le _⟩ (fun _ => rfl) (fun _ => rfl) rfl ?_
  intro r _ H locs hp2 hw
  subst hp2
  refine mg_bif_ne X 19 9 d_Ma_putSighting_6 (by decide) rfl (fun hz => ?_) (fun hz => ?_)
  · -- pc 6 t
    refine mg_aload_n X 20 d_Ma_putSighting_19 (lv_at hl 0 rfl) rfl ?_
    refine mg_get X hK hw 23 0 2 f_Ma_18 rfl rfl d_Ma_putSighting_20 rfl ?_
    refine mg_iload_n X 24 d_Ma_putSighting_23 (lv_at hl 2 rfl) rfl ?_
    refine mg_bipush X 26 6 d_Ma_putSighting_24 mg_cb_6 rfl ?_
    refine mg_imul X 27 (nI (mk * 6)) d_Ma_putSighting_26 (pk_mul _ _) rfl ?_
    refine mg_iload_n X 28 d_Ma_putSighting_27 (lv_at hl 1 rfl) rfl ?_
    refine mg_iadd X 29 (nI ((mk * 6) + pe)) d_Ma_putSighting_28 (nI_add _ _) rfl ?_
    refine mg_iload_n X 30 d_Ma_putSighting_29 (lv_at hl 3 rfl) rfl ?_
    refine mg_iast X hK hw 31 1 [mg_ob hM 2 [.ref (qw), .ref (qra), .ref (qo), .ref (qt), .int (nI (nm)), .int (nI (sg))], mg_ai K qo 24 (va_up ol ((mk * 6) + pe) a1), mg_ai K qt 24 tl] rfl (by omega) (by omega) d_Ma_putSighting_30 rfl rfl (fun H locs hw => ?_)
    refine mg_aload_n X 32 d_Ma_putSighting_31 (lv_at hl 0 rfl) rfl ?_
    refine mg_get X hK hw 35 0 3 f_Ma_21 rfl rfl d_Ma_putSighting_32 rfl ?_
    refine mg_iload_n X 36 d_Ma_putSighting_35 (lv_at hl 2 rfl) rfl ?_
    refine mg_bipush X 38 6 d_Ma_putSighting_36 mg_cb_6 rfl ?_
    refine mg_imul X 39 (nI (mk * 6)) d_Ma_putSighting_38 (pk_mul _ _) rfl ?_
    refine mg_iload_n X 40 d_Ma_putSighting_39 (lv_at hl 1 rfl) rfl ?_
    refine mg_iadd X 41 (nI ((mk * 6) + pe)) d_Ma_putSighting_40 (nI_add _ _) rfl ?_
    refine mg_iload X 43 d_Ma_putSighting_41 (lv_at hl 4 rfl) rfl ?_
    refine mg_iast X hK hw 44 2 [mg_ob hM 2 [.ref (qw), .ref (qra), .ref (qo), .ref (qt), .int (nI (nm)), .int (nI (sg))], mg_ai K qo 24 (va_up ol ((mk * 6) + pe) a1), mg_ai K qt 24 (va_up tl ((mk * 6) + pe) a2)] rfl (by omega) (by omega) d_Ma_putSighting_43 rfl rfl (fun H locs hw => ?_)
    exact mg_vret X hr hlk (sg) (by rw [if_neg hz]) hw d_Ma_putSighting_44
  · -- pc 6 f
    refine mg_aload_n X 10 d_Ma_putSighting_9 (lv_at hl 0 rfl) rfl ?_
    refine mg_dup X 11 d_Ma_putSighting_10 rfl rfl ?_
    refine mg_get X hK hw 14 0 5 f_Ma_28 rfl rfl d_Ma_putSighting_11 rfl ?_
    refine mg_iconst X 15 1 d_Ma_putSighting_14 mg_ci_1 rfl ?_
    refine mg_iadd X 16 (nI (sg + 1)) d_Ma_putSighting_15 (nI_add _ _) rfl ?_
    refine mg_put X hK hw 19 0 5 [mg_ob hM 2 [.ref (qw), .ref (qra), .ref (qo), .ref (qt), .int (nI (nm)), .int (nI (sg + 1))], mg_ai K qo 24 ol, mg_ai K qt 24 tl] fp_Ma_28 rfl (Nat.le_of_ble_eq_true rfl) rfl rfl d_Ma_putSighting_16 rfl rfl (fun H locs hw => ?_)
    refine mg_aload_n X 20 d_Ma_putSighting_19 (lv_at hl 0 rfl) rfl ?_
    refine mg_get X hK hw 23 0 2 f_Ma_18 rfl rfl d_Ma_putSighting_20 rfl ?_
    refine mg_iload_n X 24 d_Ma_putSighting_23 (lv_at hl 2 rfl) rfl ?_
    refine mg_bipush X 26 6 d_Ma_putSighting_24 mg_cb_6 rfl ?_
    refine mg_imul X 27 (nI (mk * 6)) d_Ma_putSighting_26 (pk_mul _ _) rfl ?_
    refine mg_iload_n X 28 d_Ma_putSighting_27 (lv_at hl 1 rfl) rfl ?_
    refine mg_iadd X 29 (nI ((mk * 6) + pe)) d_Ma_putSighting_28 (nI_add _ _) rfl ?_
    refine mg_iload_n X 30 d_Ma_putSighting_29 (lv_at hl 3 rfl) rfl ?_
    refine mg_iast X hK hw 31 1 [mg_ob hM 2 [.ref (qw), .ref (qra), .ref (qo), .ref (qt), .int (nI (nm)), .int (nI (sg + 1))], mg_ai K qo 24 (va_up ol ((mk * 6) + pe) a1), mg_ai K qt 24 tl] rfl (by omega) (by omega) d_Ma_putSighting_30 rfl rfl (fun H locs hw => ?_)
    refine mg_aload_n X 32 d_Ma_putSighting_31 (lv_at hl 0 rfl) rfl ?_
    refine mg_get X hK hw 35 0 3 f_Ma_21 rfl rfl d_Ma_putSighting_32 rfl ?_
    refine mg_iload_n X 36 d_Ma_putSighting_35 (lv_at hl 2 rfl) rfl ?_
    refine mg_bipush X 38 6 d_Ma_putSighting_36 mg_cb_6 rfl ?_
    refine mg_imul X 39 (nI (mk * 6)) d_Ma_putSighting_38 (pk_mul _ _) rfl ?_
    refine mg_iload_n X 40 d_Ma_putSighting_39 (lv_at hl 1 rfl) rfl ?_
    refine mg_iadd X 41 (nI ((mk * 6) + pe)) d_Ma_putSighting_40 (nI_add _ _) rfl ?_
    refine mg_iload X 43 d_Ma_putSighting_41 (lv_at hl 4 rfl) rfl ?_
    refine mg_iast X hK hw 44 2 [mg_ob hM 2 [.ref (qw), .ref (qra), .ref (qo), .ref (qt), .int (nI (nm)), .int (nI (sg + 1))], mg_ai K qo 24 (va_up ol ((mk * 6) + pe) a1), mg_ai K qt 24 (va_up tl ((mk * 6) + pe) a2)] rfl (by omega) (by omega) d_Ma_putSighting_43 rfl rfl (fun H locs hw => ?_)
    exact mg_vret X hr hlk (sg + 1) (by rw [if_pos (Classical.not_not.mp hz)]) hw d_Ma_putSighting_44

set_option maxRecDepth 100000 in
set_option maxHeartbeats 4000000 in
theorem k_Ma_dropSighting (l : Launch) (D : va_G) (K : Nat → ClassId) (hM : Nat) (qw : Nat) (qra : Nat) (qo : Nat) (qt : Nat) (nm : Nat) (sg : Nat) (ol : Nat → Nat) (tl : Nat → Nat) (pe : Nat) (mk : Nat) (hm : mk < 4) (hpe : pe < 6) (hol : ∀ k, k < 24 → ol k ≤ 3) (hg : sg ≤ 24) (hg1 : ol (mk * 6 + pe) ≠ 0 → 1 ≤ sg) : mg_Mv l D K y_Ma_dropSighting b_Ma_dropSighting 3 ({ frames := 1, cells := 0, slots := 0, locals := 22 }) [.ref (hM), .int (nI (pe)), .int (nI (mk))] [mg_ob hM 2 [.ref (qw), .ref (qra), .ref (qo), .ref (qt), .int (nI (nm)), .int (nI (sg))], mg_ai K qo 24 ol, mg_ai K qt 24 tl] (fun (g2 : (Nat)) => g2 = (if ol (mk * 6 + pe) = 0 then sg else sg - 1)) (fun (g2 : (Nat)) => [mg_ob hM 2 [.ref (qw), .ref (qra), .ref (qo), .ref (qt), .int (nI (nm)), .int (nI (g2))], mg_ai K qo 24 (va_up ol (mk * 6 + pe) 0), mg_ai K qt 24 (va_up tl (mk * 6 + pe) 0)]) := by
  intro sz
  refine mg_entry (Qc := fun A => va_Qv (fun (g2 : (Nat)) => g2 = (if ol (mk * 6 + pe) = 0 then sg else sg - 1)) (mg_B D A (fun (g2 : (Nat)) => [mg_ob hM 2 [.ref (qw), .ref (qra), .ref (qo), .ref (qt), .int (nI (nm)), .int (nI (g2))], mg_ai K qo 24 (va_up ol (mk * 6 + pe) 0), mg_ai K qt 24 (va_up tl (mk * 6 + pe) 0)])) A) (by decide) (Nat.le_of_ble_eq_true rfl) ?_
  intro p e s m args below meth c A ls X hr hlk hnm hA hK hw hl
  have hl : lv_has ls 3 [(0, .ref (hM)), (1, .int (nI (pe))), (2, .int (nI (mk)))] := hl
  refine mg_aload_n X 1 d_Ma_dropSighting_0 (lv_at hl 0 rfl) rfl ?_
  refine mg_iload_n X 2 d_Ma_dropSighting_1 (lv_at hl 1 rfl) rfl ?_
  refine mg_iload_n X 3 d_Ma_dropSighting_2 (lv_at hl 2 rfl) rfl ?_
  refine mg_callVi X hK hw hA 6 [0, 1] 0 (fun _ => [mg_ob hM 2 [.ref (qw), .ref (qra), .ref (qo), .ref (qt), .int (nI (nm)), .int (nI (sg))], mg_ai K qo 24 ol, mg_ai K qt 24 tl]) rfl rfl (k_Ma_isSeen l D K hM qw qra qo qt nm sg ol pe mk (by omega) (by omega) (hol)) g_Ma_35 ⟨by decide, by decide⟩ ⟨rfl, rfl⟩ rfl rfl rfl hl.1 (rest := []) (As := [.int (nI (pe)), .int (nI (mk))]) rfl (Nat.le_of_ble_eq_true rfl) d_Ma_dropSighting_3 ⟨Nat.zero_le _, Nat.zero_le _⟩ (fun _ => rfl) (fun _ => rfl) rfl ?_
  intro r _ H locs hp2 hw
  subst hp2
  refine mg_bif_eq X 19 9 d_Ma_dropSighting_6 (by decide) rfl (fun hz => ?_) (fun hz => ?_)
  · -- pc 6 t
    refine mg_aload_n X 20 d_Ma_dropSighting_19 (lv_at hl 0 rfl) rfl ?_
    refine mg_get X hK hw 23 0 2 f_Ma_18 rfl rfl d_Ma_dropSighting_20 rfl ?_
    refine mg_iload_n X 24 d_Ma_dropSighting_23 (lv_at hl 2 rfl) rfl ?_
    refine mg_bipush X 26 6 d_Ma_dropSighting_24 mg_cb_6 rfl ?_
    refine mg_imul X 27 (nI (mk * 6)) d_Ma_dropSighting_26 (pk_mul _ _) rfl ?_
    refine mg_iload_n X 28 d_Ma_dropSighting_27 (lv_at hl 1 rfl) rfl ?_
    refine mg_iadd X 29 (nI ((mk * 6) + pe)) d_Ma_dropSighting_28 (nI_add _ _) rfl ?_
    refine mg_iconst X 30 0 d_Ma_dropSighting_29 mg_ci_0 rfl ?_
    refine mg_iast X hK hw 31 1 [mg_ob hM 2 [.ref (qw), .ref (qra), .ref (qo), .ref (qt), .int (nI (nm)), .int (nI (sg))], mg_ai K qo 24 (va_up ol ((mk * 6) + pe) 0), mg_ai K qt 24 tl] rfl (by omega) (by omega) d_Ma_dropSighting_30 rfl rfl (fun H locs hw => ?_)
    refine mg_aload_n X 32 d_Ma_dropSighting_31 (lv_at hl 0 rfl) rfl ?_
    refine mg_get X hK hw 35 0 3 f_Ma_21 rfl rfl d_Ma_dropSighting_32 rfl ?_
    refine mg_iload_n X 36 d_Ma_dropSighting_35 (lv_at hl 2 rfl) rfl ?_
    refine mg_bipush X 38 6 d_Ma_dropSighting_36 mg_cb_6 rfl ?_
    refine mg_imul X 39 (nI (mk * 6)) d_Ma_dropSighting_38 (pk_mul _ _) rfl ?_
    refine mg_iload_n X 40 d_Ma_dropSighting_39 (lv_at hl 1 rfl) rfl ?_
    refine mg_iadd X 41 (nI ((mk * 6) + pe)) d_Ma_dropSighting_40 (nI_add _ _) rfl ?_
    refine mg_iconst X 42 0 d_Ma_dropSighting_41 mg_ci_0 rfl ?_
    refine mg_iast X hK hw 43 2 [mg_ob hM 2 [.ref (qw), .ref (qra), .ref (qo), .ref (qt), .int (nI (nm)), .int (nI (sg))], mg_ai K qo 24 (va_up ol ((mk * 6) + pe) 0), mg_ai K qt 24 (va_up tl ((mk * 6) + pe) 0)] rfl (by omega) (by omega) d_Ma_dropSighting_42 rfl rfl (fun H locs hw => ?_)
    exact mg_vret X hr hlk (sg) (by rw [if_pos (Classical.not_not.mp hz)]) hw d_Ma_dropSighting_43
  · -- pc 6 f
    refine mg_aload_n X 10 d_Ma_dropSighting_9 (lv_at hl 0 rfl) rfl ?_
    refine mg_dup X 11 d_Ma_dropSighting_10 rfl rfl ?_
    refine mg_get X hK hw 14 0 5 f_Ma_28 rfl rfl d_Ma_dropSighting_11 rfl ?_
    refine mg_iconst X 15 1 d_Ma_dropSighting_14 mg_ci_1 rfl ?_
    refine mg_isub X 16 (nI (sg - 1)) d_Ma_dropSighting_15 (pk_sub (hg1 hz)) rfl ?_
    refine mg_put X hK hw 19 0 5 [mg_ob hM 2 [.ref (qw), .ref (qra), .ref (qo), .ref (qt), .int (nI (nm)), .int (nI (sg - 1))], mg_ai K qo 24 ol, mg_ai K qt 24 tl] fp_Ma_28 rfl (Nat.le_of_ble_eq_true rfl) rfl rfl d_Ma_dropSighting_16 rfl rfl (fun H locs hw => ?_)
    refine mg_aload_n X 20 d_Ma_dropSighting_19 (lv_at hl 0 rfl) rfl ?_
    refine mg_get X hK hw 23 0 2 f_Ma_18 rfl rfl d_Ma_dropSighting_20 rfl ?_
    refine mg_iload_n X 24 d_Ma_dropSighting_23 (lv_at hl 2 rfl) rfl ?_
    refine mg_bipush X 26 6 d_Ma_dropSighting_24 mg_cb_6 rfl ?_
    refine mg_imul X 27 (nI (mk * 6)) d_Ma_dropSighting_26 (pk_mul _ _) rfl ?_
    refine mg_iload_n X 28 d_Ma_dropSighting_27 (lv_at hl 1 rfl) rfl ?_
    refine mg_iadd X 29 (nI ((mk * 6) + pe)) d_Ma_dropSighting_28 (nI_add _ _) rfl ?_
    refine mg_iconst X 30 0 d_Ma_dropSighting_29 mg_ci_0 rfl ?_
    refine mg_iast X hK hw 31 1 [mg_ob hM 2 [.ref (qw), .ref (qra), .ref (qo), .ref (qt), .int (nI (nm)), .int (nI (sg - 1))], mg_ai K qo 24 (va_up ol ((mk * 6) + pe) 0), mg_ai K qt 24 tl] rfl (by omega) (by omega) d_Ma_dropSighting_30 rfl rfl (fun H locs hw => ?_)
    refine mg_aload_n X 32 d_Ma_dropSighting_31 (lv_at hl 0 rfl) rfl ?_
    refine mg_get X hK hw 35 0 3 f_Ma_21 rfl rfl d_Ma_dropSighting_32 rfl ?_
    refine mg_iload_n X 36 d_Ma_dropSighting_35 (lv_at hl 2 rfl) rfl ?_
    refine mg_bipush X 38 6 d_Ma_dropSighting_36 mg_cb_6 rfl ?_
    refine mg_imul X 39 (nI (mk * 6)) d_Ma_dropSighting_38 (pk_mul _ _) rfl ?_
    refine mg_iload_n X 40 d_Ma_dropSighting_39 (lv_at hl 1 rfl) rfl ?_
    refine mg_iadd X 41 (nI ((mk * 6) + pe)) d_Ma_dropSighting_40 (nI_add _ _) rfl ?_
    refine mg_iconst X 42 0 d_Ma_dropSighting_41 mg_ci_0 rfl ?_
    refine mg_iast X hK hw 43 2 [mg_ob hM 2 [.ref (qw), .ref (qra), .ref (qo), .ref (qt), .int (nI (nm)), .int (nI (sg - 1))], mg_ai K qo 24 (va_up ol ((mk * 6) + pe) 0), mg_ai K qt 24 (va_up tl ((mk * 6) + pe) 0)] rfl (by omega) (by omega) d_Ma_dropSighting_42 rfl rfl (fun H locs hw => ?_)
    exact mg_vret X hr hlk (sg - 1) (by rw [if_neg hz]) hw d_Ma_dropSighting_43
end
section
theorem mg_cb_64 : (Int8.ofInt (64)).toInt32 = nI 64 := by decide +kernel
theorem f_Fi_19 : mg_F "LinkedMarkers$Fits" 19 3 2 := ⟨R_Fi, T_Fi, 4, rfl, by decide, in_Fi, rfl, Or.inl (mg_in 120 (by decide +kernel) (by decide +kernel))⟩
theorem f_Fi_9 : mg_F "LinkedMarkers$Fits" 9 3 0 := ⟨R_Fi, T_Fi, 4, rfl, by decide, in_Fi, rfl, Or.inl (mg_in 118 (by decide +kernel) (by decide +kernel))⟩
theorem f_Fi_71 : mg_F "LinkedMarkers$Fits" 71 1 3 := ⟨R_Fa, T_Fa, 5, rfl, by decide, in_Fa, rfl, Or.inr ⟨"LinkedMarkers", (mg_inN 66 (by decide +kernel) (by decide +kernel))⟩⟩
theorem f_Fi_15 : mg_F "LinkedMarkers$Fits" 15 3 1 := ⟨R_Fi, T_Fi, 4, rfl, by decide, in_Fi, rfl, Or.inl (mg_in 119 (by decide +kernel) (by decide +kernel))⟩
theorem f_Fi_23 : mg_F "LinkedMarkers$Fits" 23 3 3 := ⟨R_Fi, T_Fi, 4, rfl, by decide, in_Fi, rfl, Or.inl (mg_in 121 (by decide +kernel) (by decide +kernel))⟩
theorem g_Fi_74 : mg_CV "LinkedMarkers$Fits" 74 y_Ma_weightOf b_Ma_weightOf 3 (some .int) 2 := ⟨Or.inl (mg_in 320 (by decide +kernel) (by decide +kernel)), (mg_in 321 (by decide +kernel) (by decide +kernel)), (mg_in 322 (by decide +kernel) (by decide +kernel)), (mg_in 36 (by decide +kernel) (by decide +kernel)), (mg_in 323 (by decide +kernel) (by decide +kernel)), by decide, by decide, by decide +kernel⟩
theorem g_Fi_68 : mg_CV "LinkedMarkers$Fits" 68 y_Fa_sourceOf b_Fa_sourceOf 8 (some .int) 3 := ⟨Or.inl (mg_in 340 (by decide +kernel) (by decide +kernel)), (mg_in 341 (by decide +kernel) (by decide +kernel)), (mg_in 342 (by decide +kernel) (by decide +kernel)), (mg_in 35 (by decide +kernel) (by decide +kernel)), (mg_in 343 (by decide +kernel) (by decide +kernel)), by decide, by decide, by decide +kernel⟩
theorem g_Fi_42 : mg_CV "LinkedMarkers$Fits" 42 y_Fi_sumFrom b_Fi_sumFrom 7 (some .int) 3 := ⟨Or.inl (mg_in 311 (by decide +kernel) (by decide +kernel)), (mg_in 313 (by decide +kernel) (by decide +kernel)), (mg_in 2 (by decide +kernel) (by decide +kernel)), (mg_in 37 (by decide +kernel) (by decide +kernel)), (mg_in 314 (by decide +kernel) (by decide +kernel)), by decide, by decide, by decide +kernel⟩
theorem g_Fi_46 : mg_CV "LinkedMarkers$Fits" 46 y_Fa_persons b_Fa_persons 1 (some .int) 0 := ⟨Or.inl (mg_in 315 (by decide +kernel) (by decide +kernel)), (mg_in 199 (by decide +kernel) (by decide +kernel)), (mg_in 200 (by decide +kernel) (by decide +kernel)), (mg_in 35 (by decide +kernel) (by decide +kernel)), (mg_in 201 (by decide +kernel) (by decide +kernel)), by decide, by decide, by decide +kernel⟩
theorem g_Fi_53 : mg_CV "LinkedMarkers$Fits" 53 y_Ma_isSeen b_Ma_isSeen 3 (some .boolean) 2 := ⟨Or.inl (mg_in 324 (by decide +kernel) (by decide +kernel)), (mg_in 325 (by decide +kernel) (by decide +kernel)), (mg_in 326 (by decide +kernel) (by decide +kernel)), (mg_in 36 (by decide +kernel) (by decide +kernel)), (mg_in 327 (by decide +kernel) (by decide +kernel)), by decide, by decide, by decide +kernel⟩
theorem g_Fi_57 : mg_CV "LinkedMarkers$Fits" 57 y_Ma_oneLetter b_Ma_oneLetter 3 (some .int) 2 := ⟨Or.inl (mg_in 328 (by decide +kernel) (by decide +kernel)), (mg_in 329 (by decide +kernel) (by decide +kernel)), (mg_in 330 (by decide +kernel) (by decide +kernel)), (mg_in 36 (by decide +kernel) (by decide +kernel)), (mg_in 331 (by decide +kernel) (by decide +kernel)), by decide, by decide, by decide +kernel⟩
theorem g_Fi_61 : mg_CV "LinkedMarkers$Fits" 61 y_Ma_otherLetter b_Ma_otherLetter 3 (some .int) 2 := ⟨Or.inl (mg_in 332 (by decide +kernel) (by decide +kernel)), (mg_in 333 (by decide +kernel) (by decide +kernel)), (mg_in 334 (by decide +kernel) (by decide +kernel)), (mg_in 36 (by decide +kernel) (by decide +kernel)), (mg_in 335 (by decide +kernel) (by decide +kernel)), by decide, by decide, by decide +kernel⟩
theorem g_Fi_64 : mg_CV "LinkedMarkers$Fits" 64 y_Fi_sumWith b_Fi_sumWith 11 (some .int) 5 := ⟨Or.inl (mg_in 336 (by decide +kernel) (by decide +kernel)), (mg_in 338 (by decide +kernel) (by decide +kernel)), (mg_in 4 (by decide +kernel) (by decide +kernel)), (mg_in 37 (by decide +kernel) (by decide +kernel)), (mg_in 339 (by decide +kernel) (by decide +kernel)), by decide, by decide, by decide +kernel⟩
theorem g_Fi_49 : mg_CV "LinkedMarkers$Fits" 49 y_Fi_weightOfLetters b_Fi_weightOfLetters 4 (some .int) 1 := ⟨Or.inl (mg_in 316 (by decide +kernel) (by decide +kernel)), (mg_in 318 (by decide +kernel) (by decide +kernel)), (mg_in 3 (by decide +kernel) (by decide +kernel)), (mg_in 37 (by decide +kernel) (by decide +kernel)), (mg_in 319 (by decide +kernel) (by decide +kernel)), by decide, by decide, by decide +kernel⟩
theorem g_Fi_36 : mg_CV "LinkedMarkers$Fits" 36 y_Fa_ways b_Fa_ways 1 (some .int) 0 := ⟨Or.inl (mg_in 310 (by decide +kernel) (by decide +kernel)), (mg_in 203 (by decide +kernel) (by decide +kernel)), (mg_in 204 (by decide +kernel) (by decide +kernel)), (mg_in 35 (by decide +kernel) (by decide +kernel)), (mg_in 205 (by decide +kernel) (by decide +kernel)), by decide, by decide, by decide +kernel⟩
theorem f_Fi_26 : mg_F "LinkedMarkers$Fits" 26 2 4 := ⟨R_Ma, T_Ma, 6, rfl, by decide, in_Ma, rfl, Or.inr ⟨"LinkedMarkers", (mg_inN 94 (by decide +kernel) (by decide +kernel))⟩⟩
theorem g_Fi_32 : mg_CV "LinkedMarkers$Fits" 32 y_Fi_renew b_Fi_renew 3 none 1 := ⟨Or.inl (mg_in 306 (by decide +kernel) (by decide +kernel)), (mg_in 307 (by decide +kernel) (by decide +kernel)), (mg_in 308 (by decide +kernel) (by decide +kernel)), (mg_in 37 (by decide +kernel) (by decide +kernel)), (mg_in 309 (by decide +kernel) (by decide +kernel)), by decide, by decide, by decide +kernel⟩
end
section
theorem d_Fi_at_0 : decode b_Fi_at 0 = .ok (.aload_n 0, 1) := by decide +kernel
theorem d_Fi_at_1 : decode b_Fi_at 1 = .ok (.getfield 19, 3) := by decide +kernel
theorem d_Fi_at_4 : decode b_Fi_at 4 = .ok (.iload_n 1, 1) := by decide +kernel
theorem d_Fi_at_5 : decode b_Fi_at 5 = .ok (.bipush 64, 2) := by decide +kernel
theorem d_Fi_at_7 : decode b_Fi_at 7 = .ok (.imul, 1) := by decide +kernel
theorem d_Fi_at_8 : decode b_Fi_at 8 = .ok (.iload_n 2, 1) := by decide +kernel
theorem d_Fi_at_9 : decode b_Fi_at 9 = .ok (.iadd, 1) := by decide +kernel
theorem d_Fi_at_10 : decode b_Fi_at 10 = .ok (.iaload, 1) := by decide +kernel
theorem d_Fi_at_11 : decode b_Fi_at 11 = .ok (.ireturn, 1) := by decide +kernel
theorem d_Fi_weightOfLetters_0 : decode b_Fi_weightOfLetters 0 = .ok (.iconst 1, 1) := by decide +kernel
theorem d_Fi_weightOfLetters_1 : decode b_Fi_weightOfLetters 1 = .ok (.istore_n 2, 1) := by decide +kernel
theorem d_Fi_weightOfLetters_2 : decode b_Fi_weightOfLetters 2 = .ok (.iconst 0, 1) := by decide +kernel
theorem d_Fi_weightOfLetters_3 : decode b_Fi_weightOfLetters 3 = .ok (.istore_n 3, 1) := by decide +kernel
theorem d_Fi_weightOfLetters_4 : decode b_Fi_weightOfLetters 4 = .ok (.iload_n 3, 1) := by decide +kernel
theorem d_Fi_weightOfLetters_5 : decode b_Fi_weightOfLetters 5 = .ok (.iconst 2, 1) := by decide +kernel
theorem d_Fi_weightOfLetters_6 : decode b_Fi_weightOfLetters 6 = .ok (.aload_n 0, 1) := by decide +kernel
theorem d_Fi_weightOfLetters_7 : decode b_Fi_weightOfLetters 7 = .ok (.getfield 9, 3) := by decide +kernel
theorem d_Fi_weightOfLetters_10 : decode b_Fi_weightOfLetters 10 = .ok (.getfield 71, 3) := by decide +kernel
theorem d_Fi_weightOfLetters_13 : decode b_Fi_weightOfLetters 13 = .ok (.imul, 1) := by decide +kernel
theorem d_Fi_weightOfLetters_14 : decode b_Fi_weightOfLetters 14 = .ok (.if_icmp .ge 26, 3) := by decide +kernel
theorem d_Fi_weightOfLetters_17 : decode b_Fi_weightOfLetters 17 = .ok (.iload_n 2, 1) := by decide +kernel
theorem d_Fi_weightOfLetters_18 : decode b_Fi_weightOfLetters 18 = .ok (.aload_n 0, 1) := by decide +kernel
theorem d_Fi_weightOfLetters_19 : decode b_Fi_weightOfLetters 19 = .ok (.getfield 15, 3) := by decide +kernel
theorem d_Fi_weightOfLetters_22 : decode b_Fi_weightOfLetters 22 = .ok (.iload_n 1, 1) := by decide +kernel
theorem d_Fi_weightOfLetters_23 : decode b_Fi_weightOfLetters 23 = .ok (.aload_n 0, 1) := by decide +kernel
theorem d_Fi_weightOfLetters_24 : decode b_Fi_weightOfLetters 24 = .ok (.getfield 23, 3) := by decide +kernel
theorem d_Fi_weightOfLetters_27 : decode b_Fi_weightOfLetters 27 = .ok (.iload_n 3, 1) := by decide +kernel
theorem d_Fi_weightOfLetters_28 : decode b_Fi_weightOfLetters 28 = .ok (.iaload, 1) := by decide +kernel
theorem d_Fi_weightOfLetters_29 : decode b_Fi_weightOfLetters 29 = .ok (.invokevirtual 74, 3) := by decide +kernel
theorem d_Fi_weightOfLetters_32 : decode b_Fi_weightOfLetters 32 = .ok (.imul, 1) := by decide +kernel
theorem d_Fi_weightOfLetters_33 : decode b_Fi_weightOfLetters 33 = .ok (.istore_n 2, 1) := by decide +kernel
theorem d_Fi_weightOfLetters_34 : decode b_Fi_weightOfLetters 34 = .ok (.iinc 3 1, 3) := by decide +kernel
theorem d_Fi_weightOfLetters_37 : decode b_Fi_weightOfLetters 37 = .ok (.goto (-33), 3) := by decide +kernel
theorem d_Fi_weightOfLetters_40 : decode b_Fi_weightOfLetters 40 = .ok (.iload_n 2, 1) := by decide +kernel
theorem d_Fi_weightOfLetters_41 : decode b_Fi_weightOfLetters 41 = .ok (.ireturn, 1) := by decide +kernel
theorem d_Fi_sumWith_0 : decode b_Fi_sumWith 0 = .ok (.iconst 0, 1) := by decide +kernel
theorem d_Fi_sumWith_1 : decode b_Fi_sumWith 1 = .ok (.istore 6, 2) := by decide +kernel
theorem d_Fi_sumWith_3 : decode b_Fi_sumWith 3 = .ok (.aload_n 0, 1) := by decide +kernel
theorem d_Fi_sumWith_4 : decode b_Fi_sumWith 4 = .ok (.getfield 9, 3) := by decide +kernel
theorem d_Fi_sumWith_7 : decode b_Fi_sumWith 7 = .ok (.iload_n 1, 1) := by decide +kernel
theorem d_Fi_sumWith_8 : decode b_Fi_sumWith 8 = .ok (.iconst 0, 1) := by decide +kernel
theorem d_Fi_sumWith_9 : decode b_Fi_sumWith 9 = .ok (.iload_n 3, 1) := by decide +kernel
theorem d_Fi_sumWith_10 : decode b_Fi_sumWith 10 = .ok (.invokevirtual 68, 3) := by decide +kernel
theorem d_Fi_sumWith_13 : decode b_Fi_sumWith 13 = .ok (.istore 7, 2) := by decide +kernel
theorem d_Fi_sumWith_15 : decode b_Fi_sumWith 15 = .ok (.aload_n 0, 1) := by decide +kernel
theorem d_Fi_sumWith_16 : decode b_Fi_sumWith 16 = .ok (.getfield 23, 3) := by decide +kernel
theorem d_Fi_sumWith_19 : decode b_Fi_sumWith 19 = .ok (.iload 7, 2) := by decide +kernel
theorem d_Fi_sumWith_21 : decode b_Fi_sumWith 21 = .ok (.iaload, 1) := by decide +kernel
theorem d_Fi_sumWith_22 : decode b_Fi_sumWith 22 = .ok (.istore 8, 2) := by decide +kernel
theorem d_Fi_sumWith_24 : decode b_Fi_sumWith 24 = .ok (.iload 8, 2) := by decide +kernel
theorem d_Fi_sumWith_26 : decode b_Fi_sumWith 26 = .ok (.ifCond .eq 10, 3) := by decide +kernel
theorem d_Fi_sumWith_29 : decode b_Fi_sumWith 29 = .ok (.iload 8, 2) := by decide +kernel
theorem d_Fi_sumWith_31 : decode b_Fi_sumWith 31 = .ok (.iload 4, 2) := by decide +kernel
theorem d_Fi_sumWith_33 : decode b_Fi_sumWith 33 = .ok (.if_icmp .ne 83, 3) := by decide +kernel
theorem d_Fi_sumWith_36 : decode b_Fi_sumWith 36 = .ok (.aload_n 0, 1) := by decide +kernel
theorem d_Fi_sumWith_37 : decode b_Fi_sumWith 37 = .ok (.getfield 23, 3) := by decide +kernel
theorem d_Fi_sumWith_40 : decode b_Fi_sumWith 40 = .ok (.iload 7, 2) := by decide +kernel
theorem d_Fi_sumWith_42 : decode b_Fi_sumWith 42 = .ok (.iload 4, 2) := by decide +kernel
theorem d_Fi_sumWith_44 : decode b_Fi_sumWith 44 = .ok (.iastore, 1) := by decide +kernel
theorem d_Fi_sumWith_45 : decode b_Fi_sumWith 45 = .ok (.aload_n 0, 1) := by decide +kernel
theorem d_Fi_sumWith_46 : decode b_Fi_sumWith 46 = .ok (.getfield 9, 3) := by decide +kernel
theorem d_Fi_sumWith_49 : decode b_Fi_sumWith 49 = .ok (.iload_n 1, 1) := by decide +kernel
theorem d_Fi_sumWith_50 : decode b_Fi_sumWith 50 = .ok (.iconst 1, 1) := by decide +kernel
theorem d_Fi_sumWith_51 : decode b_Fi_sumWith 51 = .ok (.iload_n 3, 1) := by decide +kernel
theorem d_Fi_sumWith_52 : decode b_Fi_sumWith 52 = .ok (.invokevirtual 68, 3) := by decide +kernel
theorem d_Fi_sumWith_55 : decode b_Fi_sumWith 55 = .ok (.istore 9, 2) := by decide +kernel
theorem d_Fi_sumWith_57 : decode b_Fi_sumWith 57 = .ok (.aload_n 0, 1) := by decide +kernel
theorem d_Fi_sumWith_58 : decode b_Fi_sumWith 58 = .ok (.getfield 23, 3) := by decide +kernel
theorem d_Fi_sumWith_61 : decode b_Fi_sumWith 61 = .ok (.iload 9, 2) := by decide +kernel
theorem d_Fi_sumWith_63 : decode b_Fi_sumWith 63 = .ok (.iaload, 1) := by decide +kernel
theorem d_Fi_sumWith_64 : decode b_Fi_sumWith 64 = .ok (.istore 10, 2) := by decide +kernel
theorem d_Fi_sumWith_66 : decode b_Fi_sumWith 66 = .ok (.iload 10, 2) := by decide +kernel
theorem d_Fi_sumWith_68 : decode b_Fi_sumWith 68 = .ok (.ifCond .eq 10, 3) := by decide +kernel
theorem d_Fi_sumWith_71 : decode b_Fi_sumWith 71 = .ok (.iload 10, 2) := by decide +kernel
theorem d_Fi_sumWith_73 : decode b_Fi_sumWith 73 = .ok (.iload 5, 2) := by decide +kernel
theorem d_Fi_sumWith_75 : decode b_Fi_sumWith 75 = .ok (.if_icmp .ne 32, 3) := by decide +kernel
theorem d_Fi_sumWith_78 : decode b_Fi_sumWith 78 = .ok (.aload_n 0, 1) := by decide +kernel
theorem d_Fi_sumWith_79 : decode b_Fi_sumWith 79 = .ok (.getfield 23, 3) := by decide +kernel
theorem d_Fi_sumWith_82 : decode b_Fi_sumWith 82 = .ok (.iload 9, 2) := by decide +kernel
theorem d_Fi_sumWith_84 : decode b_Fi_sumWith 84 = .ok (.iload 5, 2) := by decide +kernel
theorem d_Fi_sumWith_86 : decode b_Fi_sumWith 86 = .ok (.iastore, 1) := by decide +kernel
theorem d_Fi_sumWith_87 : decode b_Fi_sumWith 87 = .ok (.aload_n 0, 1) := by decide +kernel
theorem d_Fi_sumWith_88 : decode b_Fi_sumWith 88 = .ok (.iload_n 1, 1) := by decide +kernel
theorem d_Fi_sumWith_89 : decode b_Fi_sumWith 89 = .ok (.iconst 1, 1) := by decide +kernel
theorem d_Fi_sumWith_90 : decode b_Fi_sumWith 90 = .ok (.iadd, 1) := by decide +kernel
theorem d_Fi_sumWith_91 : decode b_Fi_sumWith 91 = .ok (.iload_n 2, 1) := by decide +kernel
theorem d_Fi_sumWith_92 : decode b_Fi_sumWith 92 = .ok (.iload_n 3, 1) := by decide +kernel
theorem d_Fi_sumWith_93 : decode b_Fi_sumWith 93 = .ok (.invokevirtual 42, 3) := by decide +kernel
theorem d_Fi_sumWith_96 : decode b_Fi_sumWith 96 = .ok (.istore 6, 2) := by decide +kernel
theorem d_Fi_sumWith_98 : decode b_Fi_sumWith 98 = .ok (.aload_n 0, 1) := by decide +kernel
theorem d_Fi_sumWith_99 : decode b_Fi_sumWith 99 = .ok (.getfield 23, 3) := by decide +kernel
theorem d_Fi_sumWith_102 : decode b_Fi_sumWith 102 = .ok (.iload 9, 2) := by decide +kernel
theorem d_Fi_sumWith_104 : decode b_Fi_sumWith 104 = .ok (.iload 10, 2) := by decide +kernel
theorem d_Fi_sumWith_106 : decode b_Fi_sumWith 106 = .ok (.iastore, 1) := by decide +kernel
theorem d_Fi_sumWith_107 : decode b_Fi_sumWith 107 = .ok (.aload_n 0, 1) := by decide +kernel
theorem d_Fi_sumWith_108 : decode b_Fi_sumWith 108 = .ok (.getfield 23, 3) := by decide +kernel
theorem d_Fi_sumWith_111 : decode b_Fi_sumWith 111 = .ok (.iload 7, 2) := by decide +kernel
theorem d_Fi_sumWith_113 : decode b_Fi_sumWith 113 = .ok (.iload 8, 2) := by decide +kernel
theorem d_Fi_sumWith_115 : decode b_Fi_sumWith 115 = .ok (.iastore, 1) := by decide +kernel
theorem d_Fi_sumWith_116 : decode b_Fi_sumWith 116 = .ok (.iload 6, 2) := by decide +kernel
theorem d_Fi_sumWith_118 : decode b_Fi_sumWith 118 = .ok (.ireturn, 1) := by decide +kernel
theorem d_Fi_sumFrom_0 : decode b_Fi_sumFrom 0 = .ok (.iload_n 1, 1) := by decide +kernel
theorem d_Fi_sumFrom_1 : decode b_Fi_sumFrom 1 = .ok (.aload_n 0, 1) := by decide +kernel
theorem d_Fi_sumFrom_2 : decode b_Fi_sumFrom 2 = .ok (.getfield 9, 3) := by decide +kernel
theorem d_Fi_sumFrom_5 : decode b_Fi_sumFrom 5 = .ok (.invokevirtual 46, 3) := by decide +kernel
theorem d_Fi_sumFrom_8 : decode b_Fi_sumFrom 8 = .ok (.if_icmp .lt 9, 3) := by decide +kernel
theorem d_Fi_sumFrom_11 : decode b_Fi_sumFrom 11 = .ok (.aload_n 0, 1) := by decide +kernel
theorem d_Fi_sumFrom_12 : decode b_Fi_sumFrom 12 = .ok (.iload_n 2, 1) := by decide +kernel
theorem d_Fi_sumFrom_13 : decode b_Fi_sumFrom 13 = .ok (.invokevirtual 49, 3) := by decide +kernel
theorem d_Fi_sumFrom_16 : decode b_Fi_sumFrom 16 = .ok (.ireturn, 1) := by decide +kernel
theorem d_Fi_sumFrom_17 : decode b_Fi_sumFrom 17 = .ok (.aload_n 0, 1) := by decide +kernel
theorem d_Fi_sumFrom_18 : decode b_Fi_sumFrom 18 = .ok (.getfield 15, 3) := by decide +kernel
theorem d_Fi_sumFrom_21 : decode b_Fi_sumFrom 21 = .ok (.iload_n 1, 1) := by decide +kernel
theorem d_Fi_sumFrom_22 : decode b_Fi_sumFrom 22 = .ok (.iload_n 2, 1) := by decide +kernel
theorem d_Fi_sumFrom_23 : decode b_Fi_sumFrom 23 = .ok (.invokevirtual 53, 3) := by decide +kernel
theorem d_Fi_sumFrom_26 : decode b_Fi_sumFrom 26 = .ok (.ifCond .ne 13, 3) := by decide +kernel
theorem d_Fi_sumFrom_29 : decode b_Fi_sumFrom 29 = .ok (.aload_n 0, 1) := by decide +kernel
theorem d_Fi_sumFrom_30 : decode b_Fi_sumFrom 30 = .ok (.iload_n 1, 1) := by decide +kernel
theorem d_Fi_sumFrom_31 : decode b_Fi_sumFrom 31 = .ok (.iconst 1, 1) := by decide +kernel
theorem d_Fi_sumFrom_32 : decode b_Fi_sumFrom 32 = .ok (.iadd, 1) := by decide +kernel
theorem d_Fi_sumFrom_33 : decode b_Fi_sumFrom 33 = .ok (.iload_n 2, 1) := by decide +kernel
theorem d_Fi_sumFrom_34 : decode b_Fi_sumFrom 34 = .ok (.iload_n 3, 1) := by decide +kernel
theorem d_Fi_sumFrom_35 : decode b_Fi_sumFrom 35 = .ok (.invokevirtual 42, 3) := by decide +kernel
theorem d_Fi_sumFrom_38 : decode b_Fi_sumFrom 38 = .ok (.ireturn, 1) := by decide +kernel
theorem d_Fi_sumFrom_39 : decode b_Fi_sumFrom 39 = .ok (.aload_n 0, 1) := by decide +kernel
theorem d_Fi_sumFrom_40 : decode b_Fi_sumFrom 40 = .ok (.getfield 15, 3) := by decide +kernel
theorem d_Fi_sumFrom_43 : decode b_Fi_sumFrom 43 = .ok (.iload_n 1, 1) := by decide +kernel
theorem d_Fi_sumFrom_44 : decode b_Fi_sumFrom 44 = .ok (.iload_n 2, 1) := by decide +kernel
theorem d_Fi_sumFrom_45 : decode b_Fi_sumFrom 45 = .ok (.invokevirtual 57, 3) := by decide +kernel
theorem d_Fi_sumFrom_48 : decode b_Fi_sumFrom 48 = .ok (.istore 4, 2) := by decide +kernel
theorem d_Fi_sumFrom_50 : decode b_Fi_sumFrom 50 = .ok (.aload_n 0, 1) := by decide +kernel
theorem d_Fi_sumFrom_51 : decode b_Fi_sumFrom 51 = .ok (.getfield 15, 3) := by decide +kernel
theorem d_Fi_sumFrom_54 : decode b_Fi_sumFrom 54 = .ok (.iload_n 1, 1) := by decide +kernel
theorem d_Fi_sumFrom_55 : decode b_Fi_sumFrom 55 = .ok (.iload_n 2, 1) := by decide +kernel
theorem d_Fi_sumFrom_56 : decode b_Fi_sumFrom 56 = .ok (.invokevirtual 61, 3) := by decide +kernel
theorem d_Fi_sumFrom_59 : decode b_Fi_sumFrom 59 = .ok (.istore 5, 2) := by decide +kernel
theorem d_Fi_sumFrom_61 : decode b_Fi_sumFrom 61 = .ok (.aload_n 0, 1) := by decide +kernel
theorem d_Fi_sumFrom_62 : decode b_Fi_sumFrom 62 = .ok (.iload_n 1, 1) := by decide +kernel
theorem d_Fi_sumFrom_63 : decode b_Fi_sumFrom 63 = .ok (.iload_n 2, 1) := by decide +kernel
theorem d_Fi_sumFrom_64 : decode b_Fi_sumFrom 64 = .ok (.iload_n 3, 1) := by decide +kernel
theorem d_Fi_sumFrom_65 : decode b_Fi_sumFrom 65 = .ok (.iload 4, 2) := by decide +kernel
theorem d_Fi_sumFrom_67 : decode b_Fi_sumFrom 67 = .ok (.iload 5, 2) := by decide +kernel
theorem d_Fi_sumFrom_69 : decode b_Fi_sumFrom 69 = .ok (.invokevirtual 64, 3) := by decide +kernel
theorem d_Fi_sumFrom_72 : decode b_Fi_sumFrom 72 = .ok (.istore 6, 2) := by decide +kernel
theorem d_Fi_sumFrom_74 : decode b_Fi_sumFrom 74 = .ok (.iload 4, 2) := by decide +kernel
theorem d_Fi_sumFrom_76 : decode b_Fi_sumFrom 76 = .ok (.iload 5, 2) := by decide +kernel
theorem d_Fi_sumFrom_78 : decode b_Fi_sumFrom 78 = .ok (.if_icmp .eq 19, 3) := by decide +kernel
theorem d_Fi_sumFrom_81 : decode b_Fi_sumFrom 81 = .ok (.iload 6, 2) := by decide +kernel
theorem d_Fi_sumFrom_83 : decode b_Fi_sumFrom 83 = .ok (.aload_n 0, 1) := by decide +kernel
theorem d_Fi_sumFrom_84 : decode b_Fi_sumFrom 84 = .ok (.iload_n 1, 1) := by decide +kernel
theorem d_Fi_sumFrom_85 : decode b_Fi_sumFrom 85 = .ok (.iload_n 2, 1) := by decide +kernel
theorem d_Fi_sumFrom_86 : decode b_Fi_sumFrom 86 = .ok (.iload_n 3, 1) := by decide +kernel
theorem d_Fi_sumFrom_87 : decode b_Fi_sumFrom 87 = .ok (.iload 5, 2) := by decide +kernel
theorem d_Fi_sumFrom_89 : decode b_Fi_sumFrom 89 = .ok (.iload 4, 2) := by decide +kernel
theorem d_Fi_sumFrom_91 : decode b_Fi_sumFrom 91 = .ok (.invokevirtual 64, 3) := by decide +kernel
theorem d_Fi_sumFrom_94 : decode b_Fi_sumFrom 94 = .ok (.iadd, 1) := by decide +kernel
theorem d_Fi_sumFrom_95 : decode b_Fi_sumFrom 95 = .ok (.istore 6, 2) := by decide +kernel
theorem d_Fi_sumFrom_97 : decode b_Fi_sumFrom 97 = .ok (.iload 6, 2) := by decide +kernel
theorem d_Fi_sumFrom_99 : decode b_Fi_sumFrom 99 = .ok (.ireturn, 1) := by decide +kernel
theorem d_Fi_renew_0 : decode b_Fi_renew 0 = .ok (.iconst 0, 1) := by decide +kernel
theorem d_Fi_renew_1 : decode b_Fi_renew 1 = .ok (.istore_n 2, 1) := by decide +kernel
theorem d_Fi_renew_2 : decode b_Fi_renew 2 = .ok (.iload_n 2, 1) := by decide +kernel
theorem d_Fi_renew_3 : decode b_Fi_renew 3 = .ok (.aload_n 0, 1) := by decide +kernel
theorem d_Fi_renew_4 : decode b_Fi_renew 4 = .ok (.getfield 9, 3) := by decide +kernel
theorem d_Fi_renew_7 : decode b_Fi_renew 7 = .ok (.invokevirtual 36, 3) := by decide +kernel
theorem d_Fi_renew_10 : decode b_Fi_renew 10 = .ok (.if_icmp .ge 27, 3) := by decide +kernel
theorem d_Fi_renew_13 : decode b_Fi_renew 13 = .ok (.aload_n 0, 1) := by decide +kernel
theorem d_Fi_renew_14 : decode b_Fi_renew 14 = .ok (.getfield 19, 3) := by decide +kernel
theorem d_Fi_renew_17 : decode b_Fi_renew 17 = .ok (.iload_n 1, 1) := by decide +kernel
theorem d_Fi_renew_18 : decode b_Fi_renew 18 = .ok (.bipush 64, 2) := by decide +kernel
theorem d_Fi_renew_20 : decode b_Fi_renew 20 = .ok (.imul, 1) := by decide +kernel
theorem d_Fi_renew_21 : decode b_Fi_renew 21 = .ok (.iload_n 2, 1) := by decide +kernel
theorem d_Fi_renew_22 : decode b_Fi_renew 22 = .ok (.iadd, 1) := by decide +kernel
theorem d_Fi_renew_23 : decode b_Fi_renew 23 = .ok (.aload_n 0, 1) := by decide +kernel
theorem d_Fi_renew_24 : decode b_Fi_renew 24 = .ok (.iconst 0, 1) := by decide +kernel
theorem d_Fi_renew_25 : decode b_Fi_renew 25 = .ok (.iload_n 1, 1) := by decide +kernel
theorem d_Fi_renew_26 : decode b_Fi_renew 26 = .ok (.iload_n 2, 1) := by decide +kernel
theorem d_Fi_renew_27 : decode b_Fi_renew 27 = .ok (.invokevirtual 42, 3) := by decide +kernel
theorem d_Fi_renew_30 : decode b_Fi_renew 30 = .ok (.iastore, 1) := by decide +kernel
theorem d_Fi_renew_31 : decode b_Fi_renew 31 = .ok (.iinc 2 1, 3) := by decide +kernel
theorem d_Fi_renew_34 : decode b_Fi_renew 34 = .ok (.goto (-32), 3) := by decide +kernel
theorem d_Fi_renew_37 : decode b_Fi_renew 37 = .ok (.return_, 1) := by decide +kernel
theorem d_Fi_renewAll_0 : decode b_Fi_renewAll 0 = .ok (.iconst 0, 1) := by decide +kernel
theorem d_Fi_renewAll_1 : decode b_Fi_renewAll 1 = .ok (.istore_n 1, 1) := by decide +kernel
theorem d_Fi_renewAll_2 : decode b_Fi_renewAll 2 = .ok (.iload_n 1, 1) := by decide +kernel
theorem d_Fi_renewAll_3 : decode b_Fi_renewAll 3 = .ok (.aload_n 0, 1) := by decide +kernel
theorem d_Fi_renewAll_4 : decode b_Fi_renewAll 4 = .ok (.getfield 15, 3) := by decide +kernel
theorem d_Fi_renewAll_7 : decode b_Fi_renewAll 7 = .ok (.getfield 26, 3) := by decide +kernel
theorem d_Fi_renewAll_10 : decode b_Fi_renewAll 10 = .ok (.if_icmp .ge 14, 3) := by decide +kernel
theorem d_Fi_renewAll_13 : decode b_Fi_renewAll 13 = .ok (.aload_n 0, 1) := by decide +kernel
theorem d_Fi_renewAll_14 : decode b_Fi_renewAll 14 = .ok (.iload_n 1, 1) := by decide +kernel
theorem d_Fi_renewAll_15 : decode b_Fi_renewAll 15 = .ok (.invokevirtual 32, 3) := by decide +kernel
theorem d_Fi_renewAll_18 : decode b_Fi_renewAll 18 = .ok (.iinc 1 1, 3) := by decide +kernel
theorem d_Fi_renewAll_21 : decode b_Fi_renewAll 21 = .ok (.goto (-19), 3) := by decide +kernel
theorem d_Fi_renewAll_24 : decode b_Fi_renewAll 24 = .ok (.return_, 1) := by decide +kernel
end
section
set_option maxRecDepth 100000 in
set_option maxHeartbeats 4000000 in
theorem k_Fi_at (l : Launch) (D : va_G) (K : Nat → ClassId) (hF : Nat) (qtb : Nat) (ql : Nat) (h : Nat) (hM : Nat) (mk : Nat) (w : Nat) (tb : Nat → Nat) (hm : mk < 4) (hw1 : w < 64) : mg_Mi l D K y_Fi_at b_Fi_at 3 (.int) ({ frames := 0, cells := 0, slots := 0, locals := 0 }) [.ref (hF), .int (nI (mk)), .int (nI (w))] [mg_ob hF 3 [.ref (h), .ref (hM), .ref (qtb), .ref (ql)], mg_ai K qtb 256 tb] (fun (r : Int32) (_ : Unit) => r = nI (tb (mk * 64 + w))) (fun (_ : Unit) => [mg_ob hF 3 [.ref (h), .ref (hM), .ref (qtb), .ref (ql)], mg_ai K qtb 256 tb]) := by
  intro sz
  refine mg_entry (Qc := fun A => va_Qi (fun (r : Int32) (_ : Unit) => r = nI (tb (mk * 64 + w))) (mg_B D A (fun (_ : Unit) => [mg_ob hF 3 [.ref (h), .ref (hM), .ref (qtb), .ref (ql)], mg_ai K qtb 256 tb])) A) (by decide) (Nat.le_of_ble_eq_true rfl) ?_
  intro p e s m args below meth c A ls X hr hlk hnm hA hK hw hl
  have hl : lv_has ls 3 [(0, .ref (hF)), (1, .int (nI (mk))), (2, .int (nI (w)))] := hl
  refine mg_aload_n X 1 d_Fi_at_0 (lv_at hl 0 rfl) rfl ?_
  refine mg_get X hK hw 4 0 2 f_Fi_19 rfl rfl d_Fi_at_1 rfl ?_
  refine mg_iload_n X 5 d_Fi_at_4 (lv_at hl 1 rfl) rfl ?_
  refine mg_bipush X 7 64 d_Fi_at_5 mg_cb_64 rfl ?_
  refine mg_imul X 8 (nI (mk * 64)) d_Fi_at_7 (pk_mul _ _) rfl ?_
  refine mg_iload_n X 9 d_Fi_at_8 (lv_at hl 2 rfl) rfl ?_
  refine mg_iadd X 10 (nI ((mk * 64) + w)) d_Fi_at_9 (nI_add _ _) rfl ?_
  refine mg_iald X hK hw 11 1 rfl (by omega) (by omega) d_Fi_at_10 rfl ?_
  exact mg_iret X hr hlk (rfl) (()) (rfl) hw d_Fi_at_11

set_option maxRecDepth 100000 in
set_option maxHeartbeats 4000000 in
theorem k_Fi_weightOfLetters (l : Launch) (D : va_G) (K : Nat → ClassId) (hF : Nat) (qtb : Nat) (ql : Nat) (h : Nat) (qf : Nat) (qm : Nat) (qr : Nat) (nf : Nat) (nc : Nat) (hM : Nat) (qw : Nat) (qra : Nat) (qo : Nat) (qt : Nat) (nm : Nat) (sg : Nat) (wt : Nat → Nat) (L : Nat → Nat) (mk : Nat) (hf1 : nf ≤ 3) (hm : mk < 4) (hW : ∀ l, 1 ≤ l → l ≤ 3 → ma_wt wt mk l ≤ 8) (hL : ∀ k, k < 6 → L k ≤ 3) : mg_Mi l D K y_Fi_weightOfLetters b_Fi_weightOfLetters 4 (.int) ({ frames := 1, cells := 0, slots := 0, locals := 22 }) [.ref (hF), .int (nI (mk))] [mg_ob hF 3 [.ref (h), .ref (hM), .ref (qtb), .ref (ql)], mg_ai K ql 6 L, mg_ob h 1 [.ref (qf), .ref (qm), .ref (qr), .int (nI (nf)), .int (nI (nc))], mg_ob hM 2 [.ref (qw), .ref (qra), .ref (qo), .ref (qt), .int (nI (nm)), .int (nI (sg))], mg_ai K qw 12 wt] (fun (r : Int32) (_ : Unit) => r = nI (ft_w (ma_wt wt mk) L (2 * nf))) (fun (_ : Unit) => [mg_ob hF 3 [.ref (h), .ref (hM), .ref (qtb), .ref (ql)], mg_ai K ql 6 L, mg_ob h 1 [.ref (qf), .ref (qm), .ref (qr), .int (nI (nf)), .int (nI (nc))], mg_ob hM 2 [.ref (qw), .ref (qra), .ref (qo), .ref (qt), .int (nI (nm)), .int (nI (sg))], mg_ai K qw 12 wt]) := by
  intro sz
  refine mg_entry (Qc := fun A => va_Qi (fun (r : Int32) (_ : Unit) => r = nI (ft_w (ma_wt wt mk) L (2 * nf))) (mg_B D A (fun (_ : Unit) => [mg_ob hF 3 [.ref (h), .ref (hM), .ref (qtb), .ref (ql)], mg_ai K ql 6 L, mg_ob h 1 [.ref (qf), .ref (qm), .ref (qr), .int (nI (nf)), .int (nI (nc))], mg_ob hM 2 [.ref (qw), .ref (qra), .ref (qo), .ref (qt), .int (nI (nm)), .int (nI (sg))], mg_ai K qw 12 wt])) A) (by decide) (Nat.le_of_ble_eq_true rfl) ?_
  intro p e s m args below meth c A ls X hr hlk hnm hA hK hw hl
  have hl : lv_has ls 4 [(0, .ref (hF)), (1, .int (nI (mk)))] := hl
  refine mg_iconst X 1 1 d_Fi_weightOfLetters_0 mg_ci_1 rfl ?_
  refine mg_istore_n X 2 [(2, .int (nI (1))), (0, .ref (hF)), (1, .int (nI (mk)))] d_Fi_weightOfLetters_1 hl (by decide) rfl rfl (fun ls hl => ?_)
  refine mg_iconst X 3 0 d_Fi_weightOfLetters_2 mg_ci_0 rfl ?_
  refine mg_istore_n X 4 [(3, .int (nI (0))), (2, .int (nI (1))), (0, .ref (hF)), (1, .int (nI (mk)))] d_Fi_weightOfLetters_3 hl (by decide) rfl rfl (fun ls hl => ?_)
  have L4 : ∀ (n0 : Nat) (k : Nat) (x : Nat), n0 = 2 * nf - k → (x = ft_w (ma_wt wt mk) L k) → (k ≤ 2 * nf) → ∀ (ls : Array Slot) (H : Heap) (locs : List Loc), lv_has ls 4 [(0, .ref (hF)), (1, .int (nI (mk))), (2, .int (nI (x))), (3, .int (nI (k)))] → mg_H D A s.heap H locs [mg_ob hF 3 [.ref (h), .ref (hM), .ref (qtb), .ref (ql)], mg_ai K ql 6 L, mg_ob h 1 [.ref (qf), .ref (qm), .ref (qr), .int (nI (nf)), .int (nI (nc))], mg_ob hM 2 [.ref (qw), .ref (qra), .ref (qo), .ref (qt), .int (nI (nm)), .int (nI (sg))], mg_ai K qw 12 wt] → W p l e ({ frames := 1, cells := 0, slots := 0, locals := 22 }) s m args below meth c H locs 0 0 (MQ below (va_Qi (fun (r : Int32) (_ : Unit) => r = nI (ft_w (ma_wt wt mk) L (2 * nf))) (mg_B D A (fun (_ : Unit) => [mg_ob hF 3 [.ref (h), .ref (hM), .ref (qtb), .ref (ql)], mg_ai K ql 6 L, mg_ob h 1 [.ref (qf), .ref (qm), .ref (qr), .int (nI (nf)), .int (nI (nc))], mg_ob hM 2 [.ref (qw), .ref (qra), .ref (qo), .ref (qt), .int (nI (nm)), .int (nI (sg))], mg_ai K qw 12 wt])) A) args s 0 0 A) (F0 m 4 ls []) := by
    intro n0
    induction n0 using Nat.strongRecOn with
    | ind n0 ih4 =>
    intro k x hm4 hI hk ls H locs hl hw
    have hx : x ≤ 8 ^ 6 := by rw [hI]; exact Nat.le_trans (ft_w_le (K := 6) hW hL k (by omega)) (Nat.pow_le_pow_right (by decide) (by omega))
    refine mg_iload_n X 5 d_Fi_weightOfLetters_4 (lv_at hl 3 rfl) rfl ?_
    refine mg_iconst X 6 2 d_Fi_weightOfLetters_5 mg_ci_2 rfl ?_
    refine mg_aload_n X 7 d_Fi_weightOfLetters_6 (lv_at hl 0 rfl) rfl ?_
    refine mg_get X hK hw 10 0 0 f_Fi_9 rfl rfl d_Fi_weightOfLetters_7 rfl ?_
    refine mg_get X hK hw 13 2 3 f_Fi_71 rfl rfl d_Fi_weightOfLetters_10 rfl ?_
    refine mg_imul X 14 (nI (2 * nf)) d_Fi_weightOfLetters_13 (pk_mul _ _) rfl ?_
    refine mg_icmp_ge X 40 17 (by omega) (by omega) d_Fi_weightOfLetters_14 (by decide) rfl (fun hb => ?_) (fun hb => ?_)
    · -- pc 14 t
      refine mg_iload_n X 41 d_Fi_weightOfLetters_40 (lv_at hl 2 rfl) rfl ?_
      exact mg_iret X hr hlk (rfl) (()) (by rw [hI, show k = 2 * nf by omega]) hw d_Fi_weightOfLetters_41
    · -- pc 14 f
      refine mg_iload_n X 18 d_Fi_weightOfLetters_17 (lv_at hl 2 rfl) rfl ?_
      refine mg_aload_n X 19 d_Fi_weightOfLetters_18 (lv_at hl 0 rfl) rfl ?_
      refine mg_get X hK hw 22 0 1 f_Fi_15 rfl rfl d_Fi_weightOfLetters_19 rfl ?_
      refine mg_iload_n X 23 d_Fi_weightOfLetters_22 (lv_at hl 1 rfl) rfl ?_
      refine mg_aload_n X 24 d_Fi_weightOfLetters_23 (lv_at hl 0 rfl) rfl ?_
      refine mg_get X hK hw 27 0 3 f_Fi_23 rfl rfl d_Fi_weightOfLetters_24 rfl ?_
      refine mg_iload_n X 28 d_Fi_weightOfLetters_27 (lv_at hl 3 rfl) rfl ?_
      refine mg_iald X hK hw 29 1 rfl (by omega) (by omega) d_Fi_weightOfLetters_28 rfl ?_
      refine mg_callVi X hK hw hA 32 [3, 4] 3 (fun _ => [mg_ob hF 3 [.ref (h), .ref (hM), .ref (qtb), .ref (ql)], mg_ai K ql 6 L, mg_ob h 1 [.ref (qf), .ref (qm), .ref (qr), .int (nI (nf)), .int (nI (nc))], mg_ob hM 2 [.ref (qw), .ref (qra), .ref (qo), .ref (qt), .int (nI (nm)), .int (nI (sg))], mg_ai K qw 12 wt]) rfl rfl (k_Ma_weightOf l D K hM qw qra qo qt nm sg wt mk (L k) (by omega) (hL k (by omega))) g_Fi_74 ⟨by decide, by decide⟩ ⟨rfl, rfl⟩ rfl rfl rfl hl.1 (rest := [.int (nI (x))]) (As := [.int (nI (mk)), .int (nI (L k))]) rfl (Nat.le_of_ble_eq_true rfl) d_Fi_weightOfLetters_29 ⟨Nat.zero_le _, Nat.zero_le _⟩ (fun _ => rfl) (fun _ => rfl) rfl ?_
      intro r _ H locs hp2 hw
      subst hp2
      refine mg_imul X 33 (nI (x * (if (L k) = 0 then 8 else ma_wt wt mk (L k)))) d_Fi_weightOfLetters_32 (pk_mul _ _) rfl ?_
      refine mg_istore_n X 34 [(2, .int (nI (x * (if (L k) = 0 then 8 else ma_wt wt mk (L k))))), (0, .ref (hF)), (1, .int (nI (mk))), (3, .int (nI (k)))] d_Fi_weightOfLetters_33 hl (by decide) rfl rfl (fun ls hl => ?_)
      refine mg_iinc X 37 [(3, .int (nI (k + 1))), (2, .int (nI (x * (if (L k) = 0 then 8 else ma_wt wt mk (L k))))), (0, .ref (hF)), (1, .int (nI (mk)))] (k + 1) d_Fi_weightOfLetters_34 hl (k := 3) rfl (mg_inc1 _) (by decide) rfl rfl (fun ls hl => ?_)
      refine mg_goto X 4 d_Fi_weightOfLetters_37 (by decide) ?_
      have hl : lv_has ls 4 [(0, .ref (hF)), (1, .int (nI (mk))), (2, .int (nI (x * (if (L k) = 0 then 8 else ma_wt wt mk (L k))))), (3, .int (nI (k + 1)))] := lv_sub hl [2, 3, 1, 0] rfl
      exact ih4 _ (by omega) (k + 1) (x * (if (L k) = 0 then 8 else ma_wt wt mk (L k))) rfl (by rw [hI]; rfl) (by omega) ls _ _ hl hw
  have hl : lv_has ls 4 [(0, .ref (hF)), (1, .int (nI (mk))), (2, .int (nI (1))), (3, .int (nI (0)))] := lv_sub hl [2, 3, 1, 0] rfl
  exact L4 _ 0 1 rfl (rfl) (by omega) ls _ _ hl hw

set_option maxRecDepth 100000 in
set_option maxHeartbeats 4000000 in
theorem k_Fi_sumWith (l : Launch) (D : va_G) (K : Nat → ClassId) (hF : Nat) (qtb : Nat) (ql : Nat) (h : Nat) (qf : Nat) (qm : Nat) (qr : Nat) (nf : Nat) (nc : Nat) (hM : Nat) (qw : Nat) (qra : Nat) (qo : Nat) (qt : Nat) (nm : Nat) (sg : Nat) (fa : Nat → Nat) (mo : Nat → Nat) (rk : Nat → Nat) (wt : Nat → Nat) (ol : Nat → Nat) (tl : Nat → Nat) (L : Nat → Nat) (mk : Nat) (w : Nat) (j : Nat) (p0 : Nat) (fr : Nat) (lo : Nat) (x : Nat) (y : Nat) (hF0 : fm_ok nf nc fa mo rk) (hm : mk < 4) (hw1 : w < 64) (hol : ∀ k, k < 24 → ol k ≤ 3) (htl : ∀ k, k < 24 → tl k ≤ 3) (hL : ∀ k, k < 6 → L k ≤ 3) (hp : p0 < nf + nc) (hx : 1 ≤ x ∧ x ≤ 3) (hy : 1 ≤ y ∧ y ≤ 3) (hrec : ∀ (L1 : Nat → Nat), (∀ k, k < 6 → L1 k ≤ 3) → mg_Mi l D K y_Fi_sumFrom b_Fi_sumFrom 7 (.int) ({ frames := fr, cells := 0, slots := 0, locals := lo }) [.ref (hF), .int (nI (p0 + 1)), .int (nI (mk)), .int (nI (w))] [mg_ob hF 3 [.ref (h), .ref (hM), .ref (qtb), .ref (ql)], mg_ai K ql 6 L1, mg_ob h 1 [.ref (qf), .ref (qm), .ref (qr), .int (nI (nf)), .int (nI (nc))], mg_ai K qf 6 fa, mg_ai K qm 6 mo, mg_ai K qr 6 rk, mg_ob hM 2 [.ref (qw), .ref (qra), .ref (qo), .ref (qt), .int (nI (nm)), .int (nI (sg))], mg_ai K qw 12 wt, mg_ai K qo 24 ol, mg_ai K qt 24 tl] (fun (r : Int32) (_ : Unit) => r = nI (ft_from (ma_wt wt mk) (2 * nf) (fun q => ol (mk * 6 + q)) (fun q => tl (mk * 6 + q)) (fun q => fm_src fa mo rk w 3 q 0) (fun q => fm_src fa mo rk w 3 q 1) j (p0 + 1) L1)) (fun (_ : Unit) => [mg_ob hF 3 [.ref (h), .ref (hM), .ref (qtb), .ref (ql)], mg_ai K ql 6 L1, mg_ob h 1 [.ref (qf), .ref (qm), .ref (qr), .int (nI (nf)), .int (nI (nc))], mg_ai K qf 6 fa, mg_ai K qm 6 mo, mg_ai K qr 6 rk, mg_ob hM 2 [.ref (qw), .ref (qra), .ref (qo), .ref (qt), .int (nI (nm)), .int (nI (sg))], mg_ai K qw 12 wt, mg_ai K qo 24 ol, mg_ai K qt 24 tl])) : mg_Mi l D K y_Fi_sumWith b_Fi_sumWith 11 (.int) ({ frames := fr + 1, cells := 0, slots := 0, locals := lo + 30 }) [.ref (hF), .int (nI (p0)), .int (nI (mk)), .int (nI (w)), .int (nI (x)), .int (nI (y))] [mg_ob hF 3 [.ref (h), .ref (hM), .ref (qtb), .ref (ql)], mg_ai K ql 6 L, mg_ob h 1 [.ref (qf), .ref (qm), .ref (qr), .int (nI (nf)), .int (nI (nc))], mg_ai K qf 6 fa, mg_ai K qm 6 mo, mg_ai K qr 6 rk, mg_ob hM 2 [.ref (qw), .ref (qra), .ref (qo), .ref (qt), .int (nI (nm)), .int (nI (sg))], mg_ai K qw 12 wt, mg_ai K qo 24 ol, mg_ai K qt 24 tl] (fun (r : Int32) (_ : Unit) => r = nI (ft_with (fun q => fm_src fa mo rk w 3 q 0) (fun q => fm_src fa mo rk w 3 q 1) (ft_from (ma_wt wt mk) (2 * nf) (fun q => ol (mk * 6 + q)) (fun q => tl (mk * 6 + q)) (fun q => fm_src fa mo rk w 3 q 0) (fun q => fm_src fa mo rk w 3 q 1) j (p0 + 1)) p0 L x y)) (fun (_ : Unit) => [mg_ob hF 3 [.ref (h), .ref (hM), .ref (qtb), .ref (ql)], mg_ai K ql 6 L, mg_ob h 1 [.ref (qf), .ref (qm), .ref (qr), .int (nI (nf)), .int (nI (nc))], mg_ai K qf 6 fa, mg_ai K qm 6 mo, mg_ai K qr 6 rk, mg_ob hM 2 [.ref (qw), .ref (qra), .ref (qo), .ref (qt), .int (nI (nm)), .int (nI (sg))], mg_ai K qw 12 wt, mg_ai K qo 24 ol, mg_ai K qt 24 tl]) := by
  intro sz
  refine mg_entry (Qc := fun A => va_Qi (fun (r : Int32) (_ : Unit) => r = nI (ft_with (fun q => fm_src fa mo rk w 3 q 0) (fun q => fm_src fa mo rk w 3 q 1) (ft_from (ma_wt wt mk) (2 * nf) (fun q => ol (mk * 6 + q)) (fun q => tl (mk * 6 + q)) (fun q => fm_src fa mo rk w 3 q 0) (fun q => fm_src fa mo rk w 3 q 1) j (p0 + 1)) p0 L x y)) (mg_B D A (fun (_ : Unit) => [mg_ob hF 3 [.ref (h), .ref (hM), .ref (qtb), .ref (ql)], mg_ai K ql 6 L, mg_ob h 1 [.ref (qf), .ref (qm), .ref (qr), .int (nI (nf)), .int (nI (nc))], mg_ai K qf 6 fa, mg_ai K qm 6 mo, mg_ai K qr 6 rk, mg_ob hM 2 [.ref (qw), .ref (qra), .ref (qo), .ref (qt), .int (nI (nm)), .int (nI (sg))], mg_ai K qw 12 wt, mg_ai K qo 24 ol, mg_ai K qt 24 tl])) A) (by decide) (Nat.le_of_ble_eq_true rfl) ?_
  intro p e s m args below meth c A ls X hr hlk hnm hA hK hw hl
  have hl : lv_has ls 11 [(0, .ref (hF)), (1, .int (nI (p0))), (2, .int (nI (mk))), (3, .int (nI (w))), (4, .int (nI (x))), (5, .int (nI (y)))] := hl
  have hf1 := hF0.1
  have hf2 := hF0.2.1
  have q0 := fm_lt3 hF0 w hp (show 0 < 2 by omega)
  have q1 := fm_lt3 hF0 w hp (show 1 < 2 by omega)
  have l0 := hL (fm_src fa mo rk w 3 p0 0) (by omega)
  have l1 := fi_le1 (a := fm_src fa mo rk w 3 p0 0) hL hx.2 (fm_src fa mo rk w 3 p0 1) (by omega)
  refine mg_iconst X 1 0 d_Fi_sumWith_0 mg_ci_0 rfl ?_
  refine mg_istore X 3 [(6, .int (nI (0))), (0, .ref (hF)), (1, .int (nI (p0))), (2, .int (nI (mk))), (3, .int (nI (w))), (4, .int (nI (x))), (5, .int (nI (y)))] d_Fi_sumWith_1 hl (by decide) rfl rfl (fun ls hl => ?_)
  refine mg_aload_n X 4 d_Fi_sumWith_3 (lv_at hl 1 rfl) rfl ?_
  refine mg_get X hK hw 7 0 0 f_Fi_9 rfl rfl d_Fi_sumWith_4 rfl ?_
  refine mg_iload_n X 8 d_Fi_sumWith_7 (lv_at hl 2 rfl) rfl ?_
  refine mg_iconst X 9 0 d_Fi_sumWith_8 mg_ci_0 rfl ?_
  refine mg_iload_n X 10 d_Fi_sumWith_9 (lv_at hl 4 rfl) rfl ?_
  refine mg_callVi X hK hw hA 13 [2, 3, 4, 5] 2 (fun _ => [mg_ob hF 3 [.ref (h), .ref (hM), .ref (qtb), .ref (ql)], mg_ai K ql 6 L, mg_ob h 1 [.ref (qf), .ref (qm), .ref (qr), .int (nI (nf)), .int (nI (nc))], mg_ai K qf 6 fa, mg_ai K qm 6 mo, mg_ai K qr 6 rk, mg_ob hM 2 [.ref (qw), .ref (qra), .ref (qo), .ref (qt), .int (nI (nm)), .int (nI (sg))], mg_ai K qw 12 wt, mg_ai K qo 24 ol, mg_ai K qt 24 tl]) rfl rfl (k_Fa_sourceOf l D K h qf qm qr nf nc fa mo rk p0 0 w (hF0) (by omega) (by omega) (by omega)) g_Fi_68 ⟨by dsimp only; omega, by dsimp only; omega⟩ ⟨rfl, rfl⟩ rfl rfl rfl hl.1 (rest := []) (As := [.int (nI (p0)), .int (nI (0)), .int (nI (w))]) rfl (Nat.le_of_ble_eq_true rfl) d_Fi_sumWith_10 ⟨Nat.zero_le _, Nat.zero_le _⟩ (fun _ => rfl) (fun _ => rfl) rfl ?_
  intro r _ H locs hp2 hw
  subst hp2
  refine mg_istore X 15 [(7, .int (nI (fm_src fa mo rk w 3 p0 0))), (6, .int (nI (0))), (0, .ref (hF)), (1, .int (nI (p0))), (2, .int (nI (mk))), (3, .int (nI (w))), (4, .int (nI (x))), (5, .int (nI (y)))] d_Fi_sumWith_13 hl (by decide) rfl rfl (fun ls hl => ?_)
  refine mg_aload_n X 16 d_Fi_sumWith_15 (lv_at hl 2 rfl) rfl ?_
  refine mg_get X hK hw 19 0 3 f_Fi_23 rfl rfl d_Fi_sumWith_16 rfl ?_
  refine mg_iload X 21 d_Fi_sumWith_19 (lv_at hl 0 rfl) rfl ?_
  refine mg_iald X hK hw 22 1 rfl (by omega) (by omega) d_Fi_sumWith_21 rfl ?_
  refine mg_istore X 24 [(8, .int (nI (L (fm_src fa mo rk w 3 p0 0)))), (7, .int (nI (fm_src fa mo rk w 3 p0 0))), (6, .int (nI (0))), (0, .ref (hF)), (1, .int (nI (p0))), (2, .int (nI (mk))), (3, .int (nI (w))), (4, .int (nI (x))), (5, .int (nI (y)))] d_Fi_sumWith_22 hl (by decide) rfl rfl (fun ls hl => ?_)
  refine mg_iload X 26 d_Fi_sumWith_24 (lv_at hl 0 rfl) rfl ?_
  refine mg_if_eq X 36 29 (by omega) d_Fi_sumWith_26 (by decide) rfl (fun e1 => ?_) (fun e1 => ?_)
  · -- pc 26 t
    refine mg_aload_n X 37 d_Fi_sumWith_36 (lv_at hl 3 rfl) rfl ?_
    refine mg_get X hK hw 40 0 3 f_Fi_23 rfl rfl d_Fi_sumWith_37 rfl ?_
    refine mg_iload X 42 d_Fi_sumWith_40 (lv_at hl 1 rfl) rfl ?_
    refine mg_iload X 44 d_Fi_sumWith_42 (lv_at hl 7 rfl) rfl ?_
    refine mg_iast X hK hw 45 1 [mg_ob hF 3 [.ref (h), .ref (hM), .ref (qtb), .ref (ql)], mg_ai K ql 6 (va_up L (fm_src fa mo rk w 3 p0 0) x), mg_ob h 1 [.ref (qf), .ref (qm), .ref (qr), .int (nI (nf)), .int (nI (nc))], mg_ai K qf 6 fa, mg_ai K qm 6 mo, mg_ai K qr 6 rk, mg_ob hM 2 [.ref (qw), .ref (qra), .ref (qo), .ref (qt), .int (nI (nm)), .int (nI (sg))], mg_ai K qw 12 wt, mg_ai K qo 24 ol, mg_ai K qt 24 tl] rfl (by omega) (by omega) d_Fi_sumWith_44 rfl rfl (fun H locs hw => ?_)
    refine mg_aload_n X 46 d_Fi_sumWith_45 (lv_at hl 3 rfl) rfl ?_
    refine mg_get X hK hw 49 0 0 f_Fi_9 rfl rfl d_Fi_sumWith_46 rfl ?_
    refine mg_iload_n X 50 d_Fi_sumWith_49 (lv_at hl 4 rfl) rfl ?_
    refine mg_iconst X 51 1 d_Fi_sumWith_50 mg_ci_1 rfl ?_
    refine mg_iload_n X 52 d_Fi_sumWith_51 (lv_at hl 6 rfl) rfl ?_
    refine mg_callVi X hK hw hA 55 [2, 3, 4, 5] 2 (fun _ => [mg_ob hF 3 [.ref (h), .ref (hM), .ref (qtb), .ref (ql)], mg_ai K ql 6 (va_up L (fm_src fa mo rk w 3 p0 0) x), mg_ob h 1 [.ref (qf), .ref (qm), .ref (qr), .int (nI (nf)), .int (nI (nc))], mg_ai K qf 6 fa, mg_ai K qm 6 mo, mg_ai K qr 6 rk, mg_ob hM 2 [.ref (qw), .ref (qra), .ref (qo), .ref (qt), .int (nI (nm)), .int (nI (sg))], mg_ai K qw 12 wt, mg_ai K qo 24 ol, mg_ai K qt 24 tl]) rfl rfl (k_Fa_sourceOf l D K h qf qm qr nf nc fa mo rk p0 1 w (hF0) (by omega) (by omega) (by omega)) g_Fi_68 ⟨by dsimp only; omega, by dsimp only; omega⟩ ⟨rfl, rfl⟩ rfl rfl rfl hl.1 (rest := []) (As := [.int (nI (p0)), .int (nI (1)), .int (nI (w))]) rfl (Nat.le_of_ble_eq_true rfl) d_Fi_sumWith_52 ⟨Nat.zero_le _, Nat.zero_le _⟩ (fun _ => rfl) (fun _ => rfl) rfl ?_
    intro r _ H locs hp4 hw
    subst hp4
    refine mg_istore X 57 [(9, .int (nI (fm_src fa mo rk w 3 p0 1))), (8, .int (nI (L (fm_src fa mo rk w 3 p0 0)))), (7, .int (nI (fm_src fa mo rk w 3 p0 0))), (6, .int (nI (0))), (0, .ref (hF)), (1, .int (nI (p0))), (2, .int (nI (mk))), (3, .int (nI (w))), (4, .int (nI (x))), (5, .int (nI (y)))] d_Fi_sumWith_55 hl (by decide) rfl rfl (fun ls hl => ?_)
    refine mg_aload_n X 58 d_Fi_sumWith_57 (lv_at hl 4 rfl) rfl ?_
    refine mg_get X hK hw 61 0 3 f_Fi_23 rfl rfl d_Fi_sumWith_58 rfl ?_
    refine mg_iload X 63 d_Fi_sumWith_61 (lv_at hl 0 rfl) rfl ?_
    refine mg_iald X hK hw 64 1 rfl (by omega) (by omega) d_Fi_sumWith_63 rfl ?_
    refine mg_istore X 66 [(10, .int (nI ((va_up L (fm_src fa mo rk w 3 p0 0) x) (fm_src fa mo rk w 3 p0 1)))), (9, .int (nI (fm_src fa mo rk w 3 p0 1))), (8, .int (nI (L (fm_src fa mo rk w 3 p0 0)))), (7, .int (nI (fm_src fa mo rk w 3 p0 0))), (6, .int (nI (0))), (0, .ref (hF)), (1, .int (nI (p0))), (2, .int (nI (mk))), (3, .int (nI (w))), (4, .int (nI (x))), (5, .int (nI (y)))] d_Fi_sumWith_64 hl (by decide) rfl rfl (fun ls hl => ?_)
    refine mg_iload X 68 d_Fi_sumWith_66 (lv_at hl 0 rfl) rfl ?_
    refine mg_if_eq X 78 71 (by omega) d_Fi_sumWith_68 (by decide) rfl (fun e3 => ?_) (fun e3 => ?_)
    · -- pc 68 t
      refine mg_aload_n X 79 d_Fi_sumWith_78 (lv_at hl 5 rfl) rfl ?_
      refine mg_get X hK hw 82 0 3 f_Fi_23 rfl rfl d_Fi_sumWith_79 rfl ?_
      refine mg_iload X 84 d_Fi_sumWith_82 (lv_at hl 1 rfl) rfl ?_
      refine mg_iload X 86 d_Fi_sumWith_84 (lv_at hl 10 rfl) rfl ?_
      refine mg_iast X hK hw 87 1 [mg_ob hF 3 [.ref (h), .ref (hM), .ref (qtb), .ref (ql)], mg_ai K ql 6 (va_up (va_up L (fm_src fa mo rk w 3 p0 0) x) (fm_src fa mo rk w 3 p0 1) y), mg_ob h 1 [.ref (qf), .ref (qm), .ref (qr), .int (nI (nf)), .int (nI (nc))], mg_ai K qf 6 fa, mg_ai K qm 6 mo, mg_ai K qr 6 rk, mg_ob hM 2 [.ref (qw), .ref (qra), .ref (qo), .ref (qt), .int (nI (nm)), .int (nI (sg))], mg_ai K qw 12 wt, mg_ai K qo 24 ol, mg_ai K qt 24 tl] rfl (by omega) (by omega) d_Fi_sumWith_86 rfl rfl (fun H locs hw => ?_)
      refine mg_aload_n X 88 d_Fi_sumWith_87 (lv_at hl 5 rfl) rfl ?_
      refine mg_iload_n X 89 d_Fi_sumWith_88 (lv_at hl 6 rfl) rfl ?_
      refine mg_iconst X 90 1 d_Fi_sumWith_89 mg_ci_1 rfl ?_
      refine mg_iadd X 91 (nI (p0 + 1)) d_Fi_sumWith_90 (nI_add _ _) rfl ?_
      refine mg_iload_n X 92 d_Fi_sumWith_91 (lv_at hl 7 rfl) rfl ?_
      refine mg_iload_n X 93 d_Fi_sumWith_92 (lv_at hl 8 rfl) rfl ?_
      refine mg_callVi X hK hw hA 96 [0, 1, 2, 3, 4, 5, 6, 7, 8, 9] 0 (fun _ => [mg_ob hF 3 [.ref (h), .ref (hM), .ref (qtb), .ref (ql)], mg_ai K ql 6 (va_up (va_up L (fm_src fa mo rk w 3 p0 0) x) (fm_src fa mo rk w 3 p0 1) y), mg_ob h 1 [.ref (qf), .ref (qm), .ref (qr), .int (nI (nf)), .int (nI (nc))], mg_ai K qf 6 fa, mg_ai K qm 6 mo, mg_ai K qr 6 rk, mg_ob hM 2 [.ref (qw), .ref (qra), .ref (qo), .ref (qt), .int (nI (nm)), .int (nI (sg))], mg_ai K qw 12 wt, mg_ai K qo 24 ol, mg_ai K qt 24 tl]) rfl rfl (hrec (va_up (va_up L (fm_src fa mo rk w 3 p0 0) x) (fm_src fa mo rk w 3 p0 1) y) (fun k hk => fi_le2 (fi_le1 hL hx.2) hy.2 k hk)) g_Fi_42 ⟨by dsimp only; omega, by dsimp only; omega⟩ ⟨rfl, rfl⟩ rfl rfl rfl hl.1 (rest := []) (As := [.int (nI (p0 + 1)), .int (nI (mk)), .int (nI (w))]) rfl (Nat.le_of_ble_eq_true rfl) d_Fi_sumWith_93 ⟨Nat.zero_le _, Nat.zero_le _⟩ (fun _ => rfl) (fun _ => rfl) rfl ?_
      intro r _ H locs hp6 hw
      subst hp6
      refine mg_istore X 98 [(6, .int (nI (ft_from (ma_wt wt mk) (2 * nf) (fun q => ol (mk * 6 + q)) (fun q => tl (mk * 6 + q)) (fun q => fm_src fa mo rk w 3 q 0) (fun q => fm_src fa mo rk w 3 q 1) j (p0 + 1) (va_up (va_up L (fm_src fa mo rk w 3 p0 0) x) (fm_src fa mo rk w 3 p0 1) y)))), (10, .int (nI ((va_up L (fm_src fa mo rk w 3 p0 0) x) (fm_src fa mo rk w 3 p0 1)))), (9, .int (nI (fm_src fa mo rk w 3 p0 1))), (8, .int (nI (L (fm_src fa mo rk w 3 p0 0)))), (7, .int (nI (fm_src fa mo rk w 3 p0 0))), (0, .ref (hF)), (1, .int (nI (p0))), (2, .int (nI (mk))), (3, .int (nI (w))), (4, .int (nI (x))), (5, .int (nI (y)))] d_Fi_sumWith_96 hl (by decide) rfl rfl (fun ls hl => ?_)
      refine mg_aload_n X 99 d_Fi_sumWith_98 (lv_at hl 5 rfl) rfl ?_
      refine mg_get X hK hw 102 0 3 f_Fi_23 rfl rfl d_Fi_sumWith_99 rfl ?_
      refine mg_iload X 104 d_Fi_sumWith_102 (lv_at hl 2 rfl) rfl ?_
      refine mg_iload X 106 d_Fi_sumWith_104 (lv_at hl 1 rfl) rfl ?_
      refine mg_iast X hK hw 107 1 [mg_ob hF 3 [.ref (h), .ref (hM), .ref (qtb), .ref (ql)], mg_ai K ql 6 (va_up (va_up (va_up L (fm_src fa mo rk w 3 p0 0) x) (fm_src fa mo rk w 3 p0 1) y) (fm_src fa mo rk w 3 p0 1) ((va_up L (fm_src fa mo rk w 3 p0 0) x) (fm_src fa mo rk w 3 p0 1))), mg_ob h 1 [.ref (qf), .ref (qm), .ref (qr), .int (nI (nf)), .int (nI (nc))], mg_ai K qf 6 fa, mg_ai K qm 6 mo, mg_ai K qr 6 rk, mg_ob hM 2 [.ref (qw), .ref (qra), .ref (qo), .ref (qt), .int (nI (nm)), .int (nI (sg))], mg_ai K qw 12 wt, mg_ai K qo 24 ol, mg_ai K qt 24 tl] rfl (by omega) (by omega) d_Fi_sumWith_106 rfl rfl (fun H locs hw => ?_)
      refine mg_aload_n X 108 d_Fi_sumWith_107 (lv_at hl 5 rfl) rfl ?_
      refine mg_get X hK hw 111 0 3 f_Fi_23 rfl rfl d_Fi_sumWith_108 rfl ?_
      refine mg_iload X 113 d_Fi_sumWith_111 (lv_at hl 4 rfl) rfl ?_
      refine mg_iload X 115 d_Fi_sumWith_113 (lv_at hl 3 rfl) rfl ?_
      refine mg_iast X hK hw 116 1 [mg_ob hF 3 [.ref (h), .ref (hM), .ref (qtb), .ref (ql)], mg_ai K ql 6 (va_up (va_up (va_up (va_up L (fm_src fa mo rk w 3 p0 0) x) (fm_src fa mo rk w 3 p0 1) y) (fm_src fa mo rk w 3 p0 1) ((va_up L (fm_src fa mo rk w 3 p0 0) x) (fm_src fa mo rk w 3 p0 1))) (fm_src fa mo rk w 3 p0 0) (L (fm_src fa mo rk w 3 p0 0))), mg_ob h 1 [.ref (qf), .ref (qm), .ref (qr), .int (nI (nf)), .int (nI (nc))], mg_ai K qf 6 fa, mg_ai K qm 6 mo, mg_ai K qr 6 rk, mg_ob hM 2 [.ref (qw), .ref (qra), .ref (qo), .ref (qt), .int (nI (nm)), .int (nI (sg))], mg_ai K qw 12 wt, mg_ai K qo 24 ol, mg_ai K qt 24 tl] rfl (by omega) (by omega) d_Fi_sumWith_115 rfl rfl (fun H locs hw => ?_)
      refine mg_iload X 118 d_Fi_sumWith_116 (lv_at hl 0 rfl) rfl ?_
      rw [fi_back2 L (fm_src fa mo rk w 3 p0 0) (fm_src fa mo rk w 3 p0 1) x y] at hw
      exact mg_iret X hr hlk (rfl) (()) (by unfold ft_with; rw [if_pos (show L (fm_src fa mo rk w 3 p0 0) = 0 ∨ L (fm_src fa mo rk w 3 p0 0) = x by omega), if_pos (show va_up L (fm_src fa mo rk w 3 p0 0) x (fm_src fa mo rk w 3 p0 1) = 0 ∨ va_up L (fm_src fa mo rk w 3 p0 0) x (fm_src fa mo rk w 3 p0 1) = y by omega)]) hw d_Fi_sumWith_118
    · -- pc 68 f
      refine mg_iload X 73 d_Fi_sumWith_71 (lv_at hl 0 rfl) rfl ?_
      refine mg_iload X 75 d_Fi_sumWith_73 (lv_at hl 10 rfl) rfl ?_
      refine mg_icmp_ne X 107 78 (by omega) (by omega) d_Fi_sumWith_75 (by decide) rfl (fun e4 => ?_) (fun e4 => ?_)
      · -- pc 75 t
        refine mg_aload_n X 108 d_Fi_sumWith_107 (lv_at hl 5 rfl) rfl ?_
        refine mg_get X hK hw 111 0 3 f_Fi_23 rfl rfl d_Fi_sumWith_108 rfl ?_
        refine mg_iload X 113 d_Fi_sumWith_111 (lv_at hl 3 rfl) rfl ?_
        refine mg_iload X 115 d_Fi_sumWith_113 (lv_at hl 2 rfl) rfl ?_
        refine mg_iast X hK hw 116 1 [mg_ob hF 3 [.ref (h), .ref (hM), .ref (qtb), .ref (ql)], mg_ai K ql 6 (va_up (va_up L (fm_src fa mo rk w 3 p0 0) x) (fm_src fa mo rk w 3 p0 0) (L (fm_src fa mo rk w 3 p0 0))), mg_ob h 1 [.ref (qf), .ref (qm), .ref (qr), .int (nI (nf)), .int (nI (nc))], mg_ai K qf 6 fa, mg_ai K qm 6 mo, mg_ai K qr 6 rk, mg_ob hM 2 [.ref (qw), .ref (qra), .ref (qo), .ref (qt), .int (nI (nm)), .int (nI (sg))], mg_ai K qw 12 wt, mg_ai K qo 24 ol, mg_ai K qt 24 tl] rfl (by omega) (by omega) d_Fi_sumWith_115 rfl rfl (fun H locs hw => ?_)
        refine mg_iload X 118 d_Fi_sumWith_116 (lv_at hl 4 rfl) rfl ?_
        rw [fi_back1 L (fm_src fa mo rk w 3 p0 0) x] at hw
        exact mg_iret X hr hlk (rfl) (()) (by unfold ft_with; rw [if_pos (show L (fm_src fa mo rk w 3 p0 0) = 0 ∨ L (fm_src fa mo rk w 3 p0 0) = x by omega), if_neg (show ¬ (va_up L (fm_src fa mo rk w 3 p0 0) x (fm_src fa mo rk w 3 p0 1) = 0 ∨ va_up L (fm_src fa mo rk w 3 p0 0) x (fm_src fa mo rk w 3 p0 1) = y) by omega)]) hw d_Fi_sumWith_118
      · -- pc 75 f
        refine mg_aload_n X 79 d_Fi_sumWith_78 (lv_at hl 5 rfl) rfl ?_
        refine mg_get X hK hw 82 0 3 f_Fi_23 rfl rfl d_Fi_sumWith_79 rfl ?_
        refine mg_iload X 84 d_Fi_sumWith_82 (lv_at hl 1 rfl) rfl ?_
        refine mg_iload X 86 d_Fi_sumWith_84 (lv_at hl 10 rfl) rfl ?_
        refine mg_iast X hK hw 87 1 [mg_ob hF 3 [.ref (h), .ref (hM), .ref (qtb), .ref (ql)], mg_ai K ql 6 (va_up (va_up L (fm_src fa mo rk w 3 p0 0) x) (fm_src fa mo rk w 3 p0 1) y), mg_ob h 1 [.ref (qf), .ref (qm), .ref (qr), .int (nI (nf)), .int (nI (nc))], mg_ai K qf 6 fa, mg_ai K qm 6 mo, mg_ai K qr 6 rk, mg_ob hM 2 [.ref (qw), .ref (qra), .ref (qo), .ref (qt), .int (nI (nm)), .int (nI (sg))], mg_ai K qw 12 wt, mg_ai K qo 24 ol, mg_ai K qt 24 tl] rfl (by omega) (by omega) d_Fi_sumWith_86 rfl rfl (fun H locs hw => ?_)
        refine mg_aload_n X 88 d_Fi_sumWith_87 (lv_at hl 5 rfl) rfl ?_
        refine mg_iload_n X 89 d_Fi_sumWith_88 (lv_at hl 6 rfl) rfl ?_
        refine mg_iconst X 90 1 d_Fi_sumWith_89 mg_ci_1 rfl ?_
        refine mg_iadd X 91 (nI (p0 + 1)) d_Fi_sumWith_90 (nI_add _ _) rfl ?_
        refine mg_iload_n X 92 d_Fi_sumWith_91 (lv_at hl 7 rfl) rfl ?_
        refine mg_iload_n X 93 d_Fi_sumWith_92 (lv_at hl 8 rfl) rfl ?_
        refine mg_callVi X hK hw hA 96 [0, 1, 2, 3, 4, 5, 6, 7, 8, 9] 0 (fun _ => [mg_ob hF 3 [.ref (h), .ref (hM), .ref (qtb), .ref (ql)], mg_ai K ql 6 (va_up (va_up L (fm_src fa mo rk w 3 p0 0) x) (fm_src fa mo rk w 3 p0 1) y), mg_ob h 1 [.ref (qf), .ref (qm), .ref (qr), .int (nI (nf)), .int (nI (nc))], mg_ai K qf 6 fa, mg_ai K qm 6 mo, mg_ai K qr 6 rk, mg_ob hM 2 [.ref (qw), .ref (qra), .ref (qo), .ref (qt), .int (nI (nm)), .int (nI (sg))], mg_ai K qw 12 wt, mg_ai K qo 24 ol, mg_ai K qt 24 tl]) rfl rfl (hrec (va_up (va_up L (fm_src fa mo rk w 3 p0 0) x) (fm_src fa mo rk w 3 p0 1) y) (fun k hk => fi_le2 (fi_le1 hL hx.2) hy.2 k hk)) g_Fi_42 ⟨by dsimp only; omega, by dsimp only; omega⟩ ⟨rfl, rfl⟩ rfl rfl rfl hl.1 (rest := []) (As := [.int (nI (p0 + 1)), .int (nI (mk)), .int (nI (w))]) rfl (Nat.le_of_ble_eq_true rfl) d_Fi_sumWith_93 ⟨Nat.zero_le _, Nat.zero_le _⟩ (fun _ => rfl) (fun _ => rfl) rfl ?_
        intro r _ H locs hp8 hw
        subst hp8
        refine mg_istore X 98 [(6, .int (nI (ft_from (ma_wt wt mk) (2 * nf) (fun q => ol (mk * 6 + q)) (fun q => tl (mk * 6 + q)) (fun q => fm_src fa mo rk w 3 q 0) (fun q => fm_src fa mo rk w 3 q 1) j (p0 + 1) (va_up (va_up L (fm_src fa mo rk w 3 p0 0) x) (fm_src fa mo rk w 3 p0 1) y)))), (10, .int (nI ((va_up L (fm_src fa mo rk w 3 p0 0) x) (fm_src fa mo rk w 3 p0 1)))), (9, .int (nI (fm_src fa mo rk w 3 p0 1))), (8, .int (nI (L (fm_src fa mo rk w 3 p0 0)))), (7, .int (nI (fm_src fa mo rk w 3 p0 0))), (0, .ref (hF)), (1, .int (nI (p0))), (2, .int (nI (mk))), (3, .int (nI (w))), (4, .int (nI (x))), (5, .int (nI (y)))] d_Fi_sumWith_96 hl (by decide) rfl rfl (fun ls hl => ?_)
        refine mg_aload_n X 99 d_Fi_sumWith_98 (lv_at hl 5 rfl) rfl ?_
        refine mg_get X hK hw 102 0 3 f_Fi_23 rfl rfl d_Fi_sumWith_99 rfl ?_
        refine mg_iload X 104 d_Fi_sumWith_102 (lv_at hl 2 rfl) rfl ?_
        refine mg_iload X 106 d_Fi_sumWith_104 (lv_at hl 1 rfl) rfl ?_
        refine mg_iast X hK hw 107 1 [mg_ob hF 3 [.ref (h), .ref (hM), .ref (qtb), .ref (ql)], mg_ai K ql 6 (va_up (va_up (va_up L (fm_src fa mo rk w 3 p0 0) x) (fm_src fa mo rk w 3 p0 1) y) (fm_src fa mo rk w 3 p0 1) ((va_up L (fm_src fa mo rk w 3 p0 0) x) (fm_src fa mo rk w 3 p0 1))), mg_ob h 1 [.ref (qf), .ref (qm), .ref (qr), .int (nI (nf)), .int (nI (nc))], mg_ai K qf 6 fa, mg_ai K qm 6 mo, mg_ai K qr 6 rk, mg_ob hM 2 [.ref (qw), .ref (qra), .ref (qo), .ref (qt), .int (nI (nm)), .int (nI (sg))], mg_ai K qw 12 wt, mg_ai K qo 24 ol, mg_ai K qt 24 tl] rfl (by omega) (by omega) d_Fi_sumWith_106 rfl rfl (fun H locs hw => ?_)
        refine mg_aload_n X 108 d_Fi_sumWith_107 (lv_at hl 5 rfl) rfl ?_
        refine mg_get X hK hw 111 0 3 f_Fi_23 rfl rfl d_Fi_sumWith_108 rfl ?_
        refine mg_iload X 113 d_Fi_sumWith_111 (lv_at hl 4 rfl) rfl ?_
        refine mg_iload X 115 d_Fi_sumWith_113 (lv_at hl 3 rfl) rfl ?_
        refine mg_iast X hK hw 116 1 [mg_ob hF 3 [.ref (h), .ref (hM), .ref (qtb), .ref (ql)], mg_ai K ql 6 (va_up (va_up (va_up (va_up L (fm_src fa mo rk w 3 p0 0) x) (fm_src fa mo rk w 3 p0 1) y) (fm_src fa mo rk w 3 p0 1) ((va_up L (fm_src fa mo rk w 3 p0 0) x) (fm_src fa mo rk w 3 p0 1))) (fm_src fa mo rk w 3 p0 0) (L (fm_src fa mo rk w 3 p0 0))), mg_ob h 1 [.ref (qf), .ref (qm), .ref (qr), .int (nI (nf)), .int (nI (nc))], mg_ai K qf 6 fa, mg_ai K qm 6 mo, mg_ai K qr 6 rk, mg_ob hM 2 [.ref (qw), .ref (qra), .ref (qo), .ref (qt), .int (nI (nm)), .int (nI (sg))], mg_ai K qw 12 wt, mg_ai K qo 24 ol, mg_ai K qt 24 tl] rfl (by omega) (by omega) d_Fi_sumWith_115 rfl rfl (fun H locs hw => ?_)
        refine mg_iload X 118 d_Fi_sumWith_116 (lv_at hl 0 rfl) rfl ?_
        rw [fi_back2 L (fm_src fa mo rk w 3 p0 0) (fm_src fa mo rk w 3 p0 1) x y] at hw
        exact mg_iret X hr hlk (rfl) (()) (by unfold ft_with; rw [if_pos (show L (fm_src fa mo rk w 3 p0 0) = 0 ∨ L (fm_src fa mo rk w 3 p0 0) = x by omega), if_pos (show va_up L (fm_src fa mo rk w 3 p0 0) x (fm_src fa mo rk w 3 p0 1) = 0 ∨ va_up L (fm_src fa mo rk w 3 p0 0) x (fm_src fa mo rk w 3 p0 1) = y by omega)]) hw d_Fi_sumWith_118
  · -- pc 26 f
    refine mg_iload X 31 d_Fi_sumWith_29 (lv_at hl 0 rfl) rfl ?_
    refine mg_iload X 33 d_Fi_sumWith_31 (lv_at hl 7 rfl) rfl ?_
    refine mg_icmp_ne X 116 36 (by omega) (by omega) d_Fi_sumWith_33 (by decide) rfl (fun e2 => ?_) (fun e2 => ?_)
    · -- pc 33 t
      refine mg_iload X 118 d_Fi_sumWith_116 (lv_at hl 2 rfl) rfl ?_
      exact mg_iret X hr hlk (rfl) (()) (by unfold ft_with; rw [if_neg (show ¬ (L (fm_src fa mo rk w 3 p0 0) = 0 ∨ L (fm_src fa mo rk w 3 p0 0) = x) by omega)]) hw d_Fi_sumWith_118
    · -- pc 33 f
      refine mg_aload_n X 37 d_Fi_sumWith_36 (lv_at hl 3 rfl) rfl ?_
      refine mg_get X hK hw 40 0 3 f_Fi_23 rfl rfl d_Fi_sumWith_37 rfl ?_
      refine mg_iload X 42 d_Fi_sumWith_40 (lv_at hl 1 rfl) rfl ?_
      refine mg_iload X 44 d_Fi_sumWith_42 (lv_at hl 7 rfl) rfl ?_
      refine mg_iast X hK hw 45 1 [mg_ob hF 3 [.ref (h), .ref (hM), .ref (qtb), .ref (ql)], mg_ai K ql 6 (va_up L (fm_src fa mo rk w 3 p0 0) x), mg_ob h 1 [.ref (qf), .ref (qm), .ref (qr), .int (nI (nf)), .int (nI (nc))], mg_ai K qf 6 fa, mg_ai K qm 6 mo, mg_ai K qr 6 rk, mg_ob hM 2 [.ref (qw), .ref (qra), .ref (qo), .ref (qt), .int (nI (nm)), .int (nI (sg))], mg_ai K qw 12 wt, mg_ai K qo 24 ol, mg_ai K qt 24 tl] rfl (by omega) (by omega) d_Fi_sumWith_44 rfl rfl (fun H locs hw => ?_)
      refine mg_aload_n X 46 d_Fi_sumWith_45 (lv_at hl 3 rfl) rfl ?_
      refine mg_get X hK hw 49 0 0 f_Fi_9 rfl rfl d_Fi_sumWith_46 rfl ?_
      refine mg_iload_n X 50 d_Fi_sumWith_49 (lv_at hl 4 rfl) rfl ?_
      refine mg_iconst X 51 1 d_Fi_sumWith_50 mg_ci_1 rfl ?_
      refine mg_iload_n X 52 d_Fi_sumWith_51 (lv_at hl 6 rfl) rfl ?_
      refine mg_callVi X hK hw hA 55 [2, 3, 4, 5] 2 (fun _ => [mg_ob hF 3 [.ref (h), .ref (hM), .ref (qtb), .ref (ql)], mg_ai K ql 6 (va_up L (fm_src fa mo rk w 3 p0 0) x), mg_ob h 1 [.ref (qf), .ref (qm), .ref (qr), .int (nI (nf)), .int (nI (nc))], mg_ai K qf 6 fa, mg_ai K qm 6 mo, mg_ai K qr 6 rk, mg_ob hM 2 [.ref (qw), .ref (qra), .ref (qo), .ref (qt), .int (nI (nm)), .int (nI (sg))], mg_ai K qw 12 wt, mg_ai K qo 24 ol, mg_ai K qt 24 tl]) rfl rfl (k_Fa_sourceOf l D K h qf qm qr nf nc fa mo rk p0 1 w (hF0) (by omega) (by omega) (by omega)) g_Fi_68 ⟨by dsimp only; omega, by dsimp only; omega⟩ ⟨rfl, rfl⟩ rfl rfl rfl hl.1 (rest := []) (As := [.int (nI (p0)), .int (nI (1)), .int (nI (w))]) rfl (Nat.le_of_ble_eq_true rfl) d_Fi_sumWith_52 ⟨Nat.zero_le _, Nat.zero_le _⟩ (fun _ => rfl) (fun _ => rfl) rfl ?_
      intro r _ H locs hp10 hw
      subst hp10
      refine mg_istore X 57 [(9, .int (nI (fm_src fa mo rk w 3 p0 1))), (8, .int (nI (L (fm_src fa mo rk w 3 p0 0)))), (7, .int (nI (fm_src fa mo rk w 3 p0 0))), (6, .int (nI (0))), (0, .ref (hF)), (1, .int (nI (p0))), (2, .int (nI (mk))), (3, .int (nI (w))), (4, .int (nI (x))), (5, .int (nI (y)))] d_Fi_sumWith_55 hl (by decide) rfl rfl (fun ls hl => ?_)
      refine mg_aload_n X 58 d_Fi_sumWith_57 (lv_at hl 4 rfl) rfl ?_
      refine mg_get X hK hw 61 0 3 f_Fi_23 rfl rfl d_Fi_sumWith_58 rfl ?_
      refine mg_iload X 63 d_Fi_sumWith_61 (lv_at hl 0 rfl) rfl ?_
      refine mg_iald X hK hw 64 1 rfl (by omega) (by omega) d_Fi_sumWith_63 rfl ?_
      refine mg_istore X 66 [(10, .int (nI ((va_up L (fm_src fa mo rk w 3 p0 0) x) (fm_src fa mo rk w 3 p0 1)))), (9, .int (nI (fm_src fa mo rk w 3 p0 1))), (8, .int (nI (L (fm_src fa mo rk w 3 p0 0)))), (7, .int (nI (fm_src fa mo rk w 3 p0 0))), (6, .int (nI (0))), (0, .ref (hF)), (1, .int (nI (p0))), (2, .int (nI (mk))), (3, .int (nI (w))), (4, .int (nI (x))), (5, .int (nI (y)))] d_Fi_sumWith_64 hl (by decide) rfl rfl (fun ls hl => ?_)
      refine mg_iload X 68 d_Fi_sumWith_66 (lv_at hl 0 rfl) rfl ?_
      refine mg_if_eq X 78 71 (by omega) d_Fi_sumWith_68 (by decide) rfl (fun e3 => ?_) (fun e3 => ?_)
      · -- pc 68 t
        refine mg_aload_n X 79 d_Fi_sumWith_78 (lv_at hl 5 rfl) rfl ?_
        refine mg_get X hK hw 82 0 3 f_Fi_23 rfl rfl d_Fi_sumWith_79 rfl ?_
        refine mg_iload X 84 d_Fi_sumWith_82 (lv_at hl 1 rfl) rfl ?_
        refine mg_iload X 86 d_Fi_sumWith_84 (lv_at hl 10 rfl) rfl ?_
        refine mg_iast X hK hw 87 1 [mg_ob hF 3 [.ref (h), .ref (hM), .ref (qtb), .ref (ql)], mg_ai K ql 6 (va_up (va_up L (fm_src fa mo rk w 3 p0 0) x) (fm_src fa mo rk w 3 p0 1) y), mg_ob h 1 [.ref (qf), .ref (qm), .ref (qr), .int (nI (nf)), .int (nI (nc))], mg_ai K qf 6 fa, mg_ai K qm 6 mo, mg_ai K qr 6 rk, mg_ob hM 2 [.ref (qw), .ref (qra), .ref (qo), .ref (qt), .int (nI (nm)), .int (nI (sg))], mg_ai K qw 12 wt, mg_ai K qo 24 ol, mg_ai K qt 24 tl] rfl (by omega) (by omega) d_Fi_sumWith_86 rfl rfl (fun H locs hw => ?_)
        refine mg_aload_n X 88 d_Fi_sumWith_87 (lv_at hl 5 rfl) rfl ?_
        refine mg_iload_n X 89 d_Fi_sumWith_88 (lv_at hl 6 rfl) rfl ?_
        refine mg_iconst X 90 1 d_Fi_sumWith_89 mg_ci_1 rfl ?_
        refine mg_iadd X 91 (nI (p0 + 1)) d_Fi_sumWith_90 (nI_add _ _) rfl ?_
        refine mg_iload_n X 92 d_Fi_sumWith_91 (lv_at hl 7 rfl) rfl ?_
        refine mg_iload_n X 93 d_Fi_sumWith_92 (lv_at hl 8 rfl) rfl ?_
        refine mg_callVi X hK hw hA 96 [0, 1, 2, 3, 4, 5, 6, 7, 8, 9] 0 (fun _ => [mg_ob hF 3 [.ref (h), .ref (hM), .ref (qtb), .ref (ql)], mg_ai K ql 6 (va_up (va_up L (fm_src fa mo rk w 3 p0 0) x) (fm_src fa mo rk w 3 p0 1) y), mg_ob h 1 [.ref (qf), .ref (qm), .ref (qr), .int (nI (nf)), .int (nI (nc))], mg_ai K qf 6 fa, mg_ai K qm 6 mo, mg_ai K qr 6 rk, mg_ob hM 2 [.ref (qw), .ref (qra), .ref (qo), .ref (qt), .int (nI (nm)), .int (nI (sg))], mg_ai K qw 12 wt, mg_ai K qo 24 ol, mg_ai K qt 24 tl]) rfl rfl (hrec (va_up (va_up L (fm_src fa mo rk w 3 p0 0) x) (fm_src fa mo rk w 3 p0 1) y) (fun k hk => fi_le2 (fi_le1 hL hx.2) hy.2 k hk)) g_Fi_42 ⟨by dsimp only; omega, by dsimp only; omega⟩ ⟨rfl, rfl⟩ rfl rfl rfl hl.1 (rest := []) (As := [.int (nI (p0 + 1)), .int (nI (mk)), .int (nI (w))]) rfl (Nat.le_of_ble_eq_true rfl) d_Fi_sumWith_93 ⟨Nat.zero_le _, Nat.zero_le _⟩ (fun _ => rfl) (fun _ => rfl) rfl ?_
        intro r _ H locs hp12 hw
        subst hp12
        refine mg_istore X 98 [(6, .int (nI (ft_from (ma_wt wt mk) (2 * nf) (fun q => ol (mk * 6 + q)) (fun q => tl (mk * 6 + q)) (fun q => fm_src fa mo rk w 3 q 0) (fun q => fm_src fa mo rk w 3 q 1) j (p0 + 1) (va_up (va_up L (fm_src fa mo rk w 3 p0 0) x) (fm_src fa mo rk w 3 p0 1) y)))), (10, .int (nI ((va_up L (fm_src fa mo rk w 3 p0 0) x) (fm_src fa mo rk w 3 p0 1)))), (9, .int (nI (fm_src fa mo rk w 3 p0 1))), (8, .int (nI (L (fm_src fa mo rk w 3 p0 0)))), (7, .int (nI (fm_src fa mo rk w 3 p0 0))), (0, .ref (hF)), (1, .int (nI (p0))), (2, .int (nI (mk))), (3, .int (nI (w))), (4, .int (nI (x))), (5, .int (nI (y)))] d_Fi_sumWith_96 hl (by decide) rfl rfl (fun ls hl => ?_)
        refine mg_aload_n X 99 d_Fi_sumWith_98 (lv_at hl 5 rfl) rfl ?_
        refine mg_get X hK hw 102 0 3 f_Fi_23 rfl rfl d_Fi_sumWith_99 rfl ?_
        refine mg_iload X 104 d_Fi_sumWith_102 (lv_at hl 2 rfl) rfl ?_
        refine mg_iload X 106 d_Fi_sumWith_104 (lv_at hl 1 rfl) rfl ?_
        refine mg_iast X hK hw 107 1 [mg_ob hF 3 [.ref (h), .ref (hM), .ref (qtb), .ref (ql)], mg_ai K ql 6 (va_up (va_up (va_up L (fm_src fa mo rk w 3 p0 0) x) (fm_src fa mo rk w 3 p0 1) y) (fm_src fa mo rk w 3 p0 1) ((va_up L (fm_src fa mo rk w 3 p0 0) x) (fm_src fa mo rk w 3 p0 1))), mg_ob h 1 [.ref (qf), .ref (qm), .ref (qr), .int (nI (nf)), .int (nI (nc))], mg_ai K qf 6 fa, mg_ai K qm 6 mo, mg_ai K qr 6 rk, mg_ob hM 2 [.ref (qw), .ref (qra), .ref (qo), .ref (qt), .int (nI (nm)), .int (nI (sg))], mg_ai K qw 12 wt, mg_ai K qo 24 ol, mg_ai K qt 24 tl] rfl (by omega) (by omega) d_Fi_sumWith_106 rfl rfl (fun H locs hw => ?_)
        refine mg_aload_n X 108 d_Fi_sumWith_107 (lv_at hl 5 rfl) rfl ?_
        refine mg_get X hK hw 111 0 3 f_Fi_23 rfl rfl d_Fi_sumWith_108 rfl ?_
        refine mg_iload X 113 d_Fi_sumWith_111 (lv_at hl 4 rfl) rfl ?_
        refine mg_iload X 115 d_Fi_sumWith_113 (lv_at hl 3 rfl) rfl ?_
        refine mg_iast X hK hw 116 1 [mg_ob hF 3 [.ref (h), .ref (hM), .ref (qtb), .ref (ql)], mg_ai K ql 6 (va_up (va_up (va_up (va_up L (fm_src fa mo rk w 3 p0 0) x) (fm_src fa mo rk w 3 p0 1) y) (fm_src fa mo rk w 3 p0 1) ((va_up L (fm_src fa mo rk w 3 p0 0) x) (fm_src fa mo rk w 3 p0 1))) (fm_src fa mo rk w 3 p0 0) (L (fm_src fa mo rk w 3 p0 0))), mg_ob h 1 [.ref (qf), .ref (qm), .ref (qr), .int (nI (nf)), .int (nI (nc))], mg_ai K qf 6 fa, mg_ai K qm 6 mo, mg_ai K qr 6 rk, mg_ob hM 2 [.ref (qw), .ref (qra), .ref (qo), .ref (qt), .int (nI (nm)), .int (nI (sg))], mg_ai K qw 12 wt, mg_ai K qo 24 ol, mg_ai K qt 24 tl] rfl (by omega) (by omega) d_Fi_sumWith_115 rfl rfl (fun H locs hw => ?_)
        refine mg_iload X 118 d_Fi_sumWith_116 (lv_at hl 0 rfl) rfl ?_
        rw [fi_back2 L (fm_src fa mo rk w 3 p0 0) (fm_src fa mo rk w 3 p0 1) x y] at hw
        exact mg_iret X hr hlk (rfl) (()) (by unfold ft_with; rw [if_pos (show L (fm_src fa mo rk w 3 p0 0) = 0 ∨ L (fm_src fa mo rk w 3 p0 0) = x by omega), if_pos (show va_up L (fm_src fa mo rk w 3 p0 0) x (fm_src fa mo rk w 3 p0 1) = 0 ∨ va_up L (fm_src fa mo rk w 3 p0 0) x (fm_src fa mo rk w 3 p0 1) = y by omega)]) hw d_Fi_sumWith_118
      · -- pc 68 f
        refine mg_iload X 73 d_Fi_sumWith_71 (lv_at hl 0 rfl) rfl ?_
        refine mg_iload X 75 d_Fi_sumWith_73 (lv_at hl 10 rfl) rfl ?_
        refine mg_icmp_ne X 107 78 (by omega) (by omega) d_Fi_sumWith_75 (by decide) rfl (fun e4 => ?_) (fun e4 => ?_)
        · -- pc 75 t
          refine mg_aload_n X 108 d_Fi_sumWith_107 (lv_at hl 5 rfl) rfl ?_
          refine mg_get X hK hw 111 0 3 f_Fi_23 rfl rfl d_Fi_sumWith_108 rfl ?_
          refine mg_iload X 113 d_Fi_sumWith_111 (lv_at hl 3 rfl) rfl ?_
          refine mg_iload X 115 d_Fi_sumWith_113 (lv_at hl 2 rfl) rfl ?_
          refine mg_iast X hK hw 116 1 [mg_ob hF 3 [.ref (h), .ref (hM), .ref (qtb), .ref (ql)], mg_ai K ql 6 (va_up (va_up L (fm_src fa mo rk w 3 p0 0) x) (fm_src fa mo rk w 3 p0 0) (L (fm_src fa mo rk w 3 p0 0))), mg_ob h 1 [.ref (qf), .ref (qm), .ref (qr), .int (nI (nf)), .int (nI (nc))], mg_ai K qf 6 fa, mg_ai K qm 6 mo, mg_ai K qr 6 rk, mg_ob hM 2 [.ref (qw), .ref (qra), .ref (qo), .ref (qt), .int (nI (nm)), .int (nI (sg))], mg_ai K qw 12 wt, mg_ai K qo 24 ol, mg_ai K qt 24 tl] rfl (by omega) (by omega) d_Fi_sumWith_115 rfl rfl (fun H locs hw => ?_)
          refine mg_iload X 118 d_Fi_sumWith_116 (lv_at hl 4 rfl) rfl ?_
          rw [fi_back1 L (fm_src fa mo rk w 3 p0 0) x] at hw
          exact mg_iret X hr hlk (rfl) (()) (by unfold ft_with; rw [if_pos (show L (fm_src fa mo rk w 3 p0 0) = 0 ∨ L (fm_src fa mo rk w 3 p0 0) = x by omega), if_neg (show ¬ (va_up L (fm_src fa mo rk w 3 p0 0) x (fm_src fa mo rk w 3 p0 1) = 0 ∨ va_up L (fm_src fa mo rk w 3 p0 0) x (fm_src fa mo rk w 3 p0 1) = y) by omega)]) hw d_Fi_sumWith_118
        · -- pc 75 f
          refine mg_aload_n X 79 d_Fi_sumWith_78 (lv_at hl 5 rfl) rfl ?_
          refine mg_get X hK hw 82 0 3 f_Fi_23 rfl rfl d_Fi_sumWith_79 rfl ?_
          refine mg_iload X 84 d_Fi_sumWith_82 (lv_at hl 1 rfl) rfl ?_
          refine mg_iload X 86 d_Fi_sumWith_84 (lv_at hl 10 rfl) rfl ?_
          refine mg_iast X hK hw 87 1 [mg_ob hF 3 [.ref (h), .ref (hM), .ref (qtb), .ref (ql)], mg_ai K ql 6 (va_up (va_up L (fm_src fa mo rk w 3 p0 0) x) (fm_src fa mo rk w 3 p0 1) y), mg_ob h 1 [.ref (qf), .ref (qm), .ref (qr), .int (nI (nf)), .int (nI (nc))], mg_ai K qf 6 fa, mg_ai K qm 6 mo, mg_ai K qr 6 rk, mg_ob hM 2 [.ref (qw), .ref (qra), .ref (qo), .ref (qt), .int (nI (nm)), .int (nI (sg))], mg_ai K qw 12 wt, mg_ai K qo 24 ol, mg_ai K qt 24 tl] rfl (by omega) (by omega) d_Fi_sumWith_86 rfl rfl (fun H locs hw => ?_)
          refine mg_aload_n X 88 d_Fi_sumWith_87 (lv_at hl 5 rfl) rfl ?_
          refine mg_iload_n X 89 d_Fi_sumWith_88 (lv_at hl 6 rfl) rfl ?_
          refine mg_iconst X 90 1 d_Fi_sumWith_89 mg_ci_1 rfl ?_
          refine mg_iadd X 91 (nI (p0 + 1)) d_Fi_sumWith_90 (nI_add _ _) rfl ?_
          refine mg_iload_n X 92 d_Fi_sumWith_91 (lv_at hl 7 rfl) rfl ?_
          refine mg_iload_n X 93 d_Fi_sumWith_92 (lv_at hl 8 rfl) rfl ?_
          refine mg_callVi X hK hw hA 96 [0, 1, 2, 3, 4, 5, 6, 7, 8, 9] 0 (fun _ => [mg_ob hF 3 [.ref (h), .ref (hM), .ref (qtb), .ref (ql)], mg_ai K ql 6 (va_up (va_up L (fm_src fa mo rk w 3 p0 0) x) (fm_src fa mo rk w 3 p0 1) y), mg_ob h 1 [.ref (qf), .ref (qm), .ref (qr), .int (nI (nf)), .int (nI (nc))], mg_ai K qf 6 fa, mg_ai K qm 6 mo, mg_ai K qr 6 rk, mg_ob hM 2 [.ref (qw), .ref (qra), .ref (qo), .ref (qt), .int (nI (nm)), .int (nI (sg))], mg_ai K qw 12 wt, mg_ai K qo 24 ol, mg_ai K qt 24 tl]) rfl rfl (hrec (va_up (va_up L (fm_src fa mo rk w 3 p0 0) x) (fm_src fa mo rk w 3 p0 1) y) (fun k hk => fi_le2 (fi_le1 hL hx.2) hy.2 k hk)) g_Fi_42 ⟨by dsimp only; omega, by dsimp only; omega⟩ ⟨rfl, rfl⟩ rfl rfl rfl hl.1 (rest := []) (As := [.int (nI (p0 + 1)), .int (nI (mk)), .int (nI (w))]) rfl (Nat.le_of_ble_eq_true rfl) d_Fi_sumWith_93 ⟨Nat.zero_le _, Nat.zero_le _⟩ (fun _ => rfl) (fun _ => rfl) rfl ?_
          intro r _ H locs hp14 hw
          subst hp14
          refine mg_istore X 98 [(6, .int (nI (ft_from (ma_wt wt mk) (2 * nf) (fun q => ol (mk * 6 + q)) (fun q => tl (mk * 6 + q)) (fun q => fm_src fa mo rk w 3 q 0) (fun q => fm_src fa mo rk w 3 q 1) j (p0 + 1) (va_up (va_up L (fm_src fa mo rk w 3 p0 0) x) (fm_src fa mo rk w 3 p0 1) y)))), (10, .int (nI ((va_up L (fm_src fa mo rk w 3 p0 0) x) (fm_src fa mo rk w 3 p0 1)))), (9, .int (nI (fm_src fa mo rk w 3 p0 1))), (8, .int (nI (L (fm_src fa mo rk w 3 p0 0)))), (7, .int (nI (fm_src fa mo rk w 3 p0 0))), (0, .ref (hF)), (1, .int (nI (p0))), (2, .int (nI (mk))), (3, .int (nI (w))), (4, .int (nI (x))), (5, .int (nI (y)))] d_Fi_sumWith_96 hl (by decide) rfl rfl (fun ls hl => ?_)
          refine mg_aload_n X 99 d_Fi_sumWith_98 (lv_at hl 5 rfl) rfl ?_
          refine mg_get X hK hw 102 0 3 f_Fi_23 rfl rfl d_Fi_sumWith_99 rfl ?_
          refine mg_iload X 104 d_Fi_sumWith_102 (lv_at hl 2 rfl) rfl ?_
          refine mg_iload X 106 d_Fi_sumWith_104 (lv_at hl 1 rfl) rfl ?_
          refine mg_iast X hK hw 107 1 [mg_ob hF 3 [.ref (h), .ref (hM), .ref (qtb), .ref (ql)], mg_ai K ql 6 (va_up (va_up (va_up L (fm_src fa mo rk w 3 p0 0) x) (fm_src fa mo rk w 3 p0 1) y) (fm_src fa mo rk w 3 p0 1) ((va_up L (fm_src fa mo rk w 3 p0 0) x) (fm_src fa mo rk w 3 p0 1))), mg_ob h 1 [.ref (qf), .ref (qm), .ref (qr), .int (nI (nf)), .int (nI (nc))], mg_ai K qf 6 fa, mg_ai K qm 6 mo, mg_ai K qr 6 rk, mg_ob hM 2 [.ref (qw), .ref (qra), .ref (qo), .ref (qt), .int (nI (nm)), .int (nI (sg))], mg_ai K qw 12 wt, mg_ai K qo 24 ol, mg_ai K qt 24 tl] rfl (by omega) (by omega) d_Fi_sumWith_106 rfl rfl (fun H locs hw => ?_)
          refine mg_aload_n X 108 d_Fi_sumWith_107 (lv_at hl 5 rfl) rfl ?_
          refine mg_get X hK hw 111 0 3 f_Fi_23 rfl rfl d_Fi_sumWith_108 rfl ?_
          refine mg_iload X 113 d_Fi_sumWith_111 (lv_at hl 4 rfl) rfl ?_
          refine mg_iload X 115 d_Fi_sumWith_113 (lv_at hl 3 rfl) rfl ?_
          refine mg_iast X hK hw 116 1 [mg_ob hF 3 [.ref (h), .ref (hM), .ref (qtb), .ref (ql)], mg_ai K ql 6 (va_up (va_up (va_up (va_up L (fm_src fa mo rk w 3 p0 0) x) (fm_src fa mo rk w 3 p0 1) y) (fm_src fa mo rk w 3 p0 1) ((va_up L (fm_src fa mo rk w 3 p0 0) x) (fm_src fa mo rk w 3 p0 1))) (fm_src fa mo rk w 3 p0 0) (L (fm_src fa mo rk w 3 p0 0))), mg_ob h 1 [.ref (qf), .ref (qm), .ref (qr), .int (nI (nf)), .int (nI (nc))], mg_ai K qf 6 fa, mg_ai K qm 6 mo, mg_ai K qr 6 rk, mg_ob hM 2 [.ref (qw), .ref (qra), .ref (qo), .ref (qt), .int (nI (nm)), .int (nI (sg))], mg_ai K qw 12 wt, mg_ai K qo 24 ol, mg_ai K qt 24 tl] rfl (by omega) (by omega) d_Fi_sumWith_115 rfl rfl (fun H locs hw => ?_)
          refine mg_iload X 118 d_Fi_sumWith_116 (lv_at hl 0 rfl) rfl ?_
          rw [fi_back2 L (fm_src fa mo rk w 3 p0 0) (fm_src fa mo rk w 3 p0 1) x y] at hw
          exact mg_iret X hr hlk (rfl) (()) (by unfold ft_with; rw [if_pos (show L (fm_src fa mo rk w 3 p0 0) = 0 ∨ L (fm_src fa mo rk w 3 p0 0) = x by omega), if_pos (show va_up L (fm_src fa mo rk w 3 p0 0) x (fm_src fa mo rk w 3 p0 1) = 0 ∨ va_up L (fm_src fa mo rk w 3 p0 0) x (fm_src fa mo rk w 3 p0 1) = y by omega)]) hw d_Fi_sumWith_118

set_option maxRecDepth 100000 in
set_option maxHeartbeats 4000000 in
theorem k_Fi_sumFrom (l : Launch) (D : va_G) (K : Nat → ClassId) (hF : Nat) (qtb : Nat) (ql : Nat) (h : Nat) (qf : Nat) (qm : Nat) (qr : Nat) (nf : Nat) (nc : Nat) (hM : Nat) (qw : Nat) (qra : Nat) (qo : Nat) (qt : Nat) (nm : Nat) (sg : Nat) (fa : Nat → Nat) (mo : Nat → Nat) (rk : Nat → Nat) (wt : Nat → Nat) (ol : Nat → Nat) (tl : Nat → Nat) (L : Nat → Nat) (mk : Nat) (w : Nat) (j : Nat) (p0 : Nat) (fr : Nat) (lo : Nat) (hF0 : fm_ok nf nc fa mo rk) (hm : mk < 4) (hw1 : w < 64) (hol : ∀ k, k < 24 → ol k ≤ 3) (htl : ∀ k, k < 24 → tl k ≤ 3) (hW : ∀ l, 1 ≤ l → l ≤ 3 → ma_wt wt mk l ≤ 8) (hsn : ∀ q, q < 6 → ol (mk * 6 + q) = 0 ∨ 1 ≤ tl (mk * 6 + q)) (hL : ∀ k, k < 6 → L k ≤ 3) (hp : p0 + (j + 1) = nf + nc) (hrec : ∀ (L1 : Nat → Nat), (∀ k, k < 6 → L1 k ≤ 3) → mg_Mi l D K y_Fi_sumFrom b_Fi_sumFrom 7 (.int) ({ frames := fr, cells := 0, slots := 0, locals := lo }) [.ref (hF), .int (nI (p0 + 1)), .int (nI (mk)), .int (nI (w))] [mg_ob hF 3 [.ref (h), .ref (hM), .ref (qtb), .ref (ql)], mg_ai K ql 6 L1, mg_ob h 1 [.ref (qf), .ref (qm), .ref (qr), .int (nI (nf)), .int (nI (nc))], mg_ai K qf 6 fa, mg_ai K qm 6 mo, mg_ai K qr 6 rk, mg_ob hM 2 [.ref (qw), .ref (qra), .ref (qo), .ref (qt), .int (nI (nm)), .int (nI (sg))], mg_ai K qw 12 wt, mg_ai K qo 24 ol, mg_ai K qt 24 tl] (fun (r : Int32) (_ : Unit) => r = nI (ft_from (ma_wt wt mk) (2 * nf) (fun q => ol (mk * 6 + q)) (fun q => tl (mk * 6 + q)) (fun q => fm_src fa mo rk w 3 q 0) (fun q => fm_src fa mo rk w 3 q 1) j (p0 + 1) L1)) (fun (_ : Unit) => [mg_ob hF 3 [.ref (h), .ref (hM), .ref (qtb), .ref (ql)], mg_ai K ql 6 L1, mg_ob h 1 [.ref (qf), .ref (qm), .ref (qr), .int (nI (nf)), .int (nI (nc))], mg_ai K qf 6 fa, mg_ai K qm 6 mo, mg_ai K qr 6 rk, mg_ob hM 2 [.ref (qw), .ref (qra), .ref (qo), .ref (qt), .int (nI (nm)), .int (nI (sg))], mg_ai K qw 12 wt, mg_ai K qo 24 ol, mg_ai K qt 24 tl])) : mg_Mi l D K y_Fi_sumFrom b_Fi_sumFrom 7 (.int) ({ frames := fr + 2, cells := 0, slots := 0, locals := lo + 60 }) [.ref (hF), .int (nI (p0)), .int (nI (mk)), .int (nI (w))] [mg_ob hF 3 [.ref (h), .ref (hM), .ref (qtb), .ref (ql)], mg_ai K ql 6 L, mg_ob h 1 [.ref (qf), .ref (qm), .ref (qr), .int (nI (nf)), .int (nI (nc))], mg_ai K qf 6 fa, mg_ai K qm 6 mo, mg_ai K qr 6 rk, mg_ob hM 2 [.ref (qw), .ref (qra), .ref (qo), .ref (qt), .int (nI (nm)), .int (nI (sg))], mg_ai K qw 12 wt, mg_ai K qo 24 ol, mg_ai K qt 24 tl] (fun (r : Int32) (_ : Unit) => r = nI (ft_from (ma_wt wt mk) (2 * nf) (fun q => ol (mk * 6 + q)) (fun q => tl (mk * 6 + q)) (fun q => fm_src fa mo rk w 3 q 0) (fun q => fm_src fa mo rk w 3 q 1) (j + 1) p0 L)) (fun (_ : Unit) => [mg_ob hF 3 [.ref (h), .ref (hM), .ref (qtb), .ref (ql)], mg_ai K ql 6 L, mg_ob h 1 [.ref (qf), .ref (qm), .ref (qr), .int (nI (nf)), .int (nI (nc))], mg_ai K qf 6 fa, mg_ai K qm 6 mo, mg_ai K qr 6 rk, mg_ob hM 2 [.ref (qw), .ref (qra), .ref (qo), .ref (qt), .int (nI (nm)), .int (nI (sg))], mg_ai K qw 12 wt, mg_ai K qo 24 ol, mg_ai K qt 24 tl]) := by
  intro sz
  refine mg_entry (Qc := fun A => va_Qi (fun (r : Int32) (_ : Unit) => r = nI (ft_from (ma_wt wt mk) (2 * nf) (fun q => ol (mk * 6 + q)) (fun q => tl (mk * 6 + q)) (fun q => fm_src fa mo rk w 3 q 0) (fun q => fm_src fa mo rk w 3 q 1) (j + 1) p0 L)) (mg_B D A (fun (_ : Unit) => [mg_ob hF 3 [.ref (h), .ref (hM), .ref (qtb), .ref (ql)], mg_ai K ql 6 L, mg_ob h 1 [.ref (qf), .ref (qm), .ref (qr), .int (nI (nf)), .int (nI (nc))], mg_ai K qf 6 fa, mg_ai K qm 6 mo, mg_ai K qr 6 rk, mg_ob hM 2 [.ref (qw), .ref (qra), .ref (qo), .ref (qt), .int (nI (nm)), .int (nI (sg))], mg_ai K qw 12 wt, mg_ai K qo 24 ol, mg_ai K qt 24 tl])) A) (by decide) (Nat.le_of_ble_eq_true rfl) ?_
  intro p e s m args below meth c A ls X hr hlk hnm hA hK hw hl
  have hl : lv_has ls 7 [(0, .ref (hF)), (1, .int (nI (p0))), (2, .int (nI (mk))), (3, .int (nI (w)))] := hl
  have hf1 := hF0.1
  have hf2 := hF0.2.1
  have o3 := hol (mk * 6 + p0) (by omega)
  have t3 := htl (mk * 6 + p0) (by omega)
  have st0 := hsn p0 (by omega)
  refine mg_iload_n X 1 d_Fi_sumFrom_0 (lv_at hl 1 rfl) rfl ?_
  refine mg_aload_n X 2 d_Fi_sumFrom_1 (lv_at hl 0 rfl) rfl ?_
  refine mg_get X hK hw 5 0 0 f_Fi_9 rfl rfl d_Fi_sumFrom_2 rfl ?_
  refine mg_callVi X hK hw hA 8 [2] 2 (fun _ => [mg_ob hF 3 [.ref (h), .ref (hM), .ref (qtb), .ref (ql)], mg_ai K ql 6 L, mg_ob h 1 [.ref (qf), .ref (qm), .ref (qr), .int (nI (nf)), .int (nI (nc))], mg_ai K qf 6 fa, mg_ai K qm 6 mo, mg_ai K qr 6 rk, mg_ob hM 2 [.ref (qw), .ref (qra), .ref (qo), .ref (qt), .int (nI (nm)), .int (nI (sg))], mg_ai K qw 12 wt, mg_ai K qo 24 ol, mg_ai K qt 24 tl]) rfl rfl (k_Fa_persons l D K h qf qm qr nf nc ) g_Fi_46 ⟨by dsimp only; omega, by dsimp only; omega⟩ ⟨rfl, rfl⟩ rfl rfl rfl hl.1 (rest := [.int (nI (p0))]) (As := []) rfl (Nat.le_of_ble_eq_true rfl) d_Fi_sumFrom_5 ⟨Nat.zero_le _, Nat.zero_le _⟩ (fun _ => rfl) (fun _ => rfl) rfl ?_
  intro r _ H locs hp2 hw
  subst hp2
  refine mg_icmp_lt X 17 11 (by omega) (by omega) d_Fi_sumFrom_8 (by decide) rfl (fun hlt => ?_) (fun hlt => absurd hlt (by omega))
  refine mg_aload_n X 18 d_Fi_sumFrom_17 (lv_at hl 0 rfl) rfl ?_
  refine mg_get X hK hw 21 0 1 f_Fi_15 rfl rfl d_Fi_sumFrom_18 rfl ?_
  refine mg_iload_n X 22 d_Fi_sumFrom_21 (lv_at hl 1 rfl) rfl ?_
  refine mg_iload_n X 23 d_Fi_sumFrom_22 (lv_at hl 2 rfl) rfl ?_
  refine mg_callVi X hK hw hA 26 [6, 8] 6 (fun _ => [mg_ob hF 3 [.ref (h), .ref (hM), .ref (qtb), .ref (ql)], mg_ai K ql 6 L, mg_ob h 1 [.ref (qf), .ref (qm), .ref (qr), .int (nI (nf)), .int (nI (nc))], mg_ai K qf 6 fa, mg_ai K qm 6 mo, mg_ai K qr 6 rk, mg_ob hM 2 [.ref (qw), .ref (qra), .ref (qo), .ref (qt), .int (nI (nm)), .int (nI (sg))], mg_ai K qw 12 wt, mg_ai K qo 24 ol, mg_ai K qt 24 tl]) rfl rfl (k_Ma_isSeen l D K hM qw qra qo qt nm sg ol p0 mk (by omega) (by omega) (hol)) g_Fi_53 ⟨by dsimp only; omega, by dsimp only; omega⟩ ⟨rfl, rfl⟩ rfl rfl rfl hl.1 (rest := []) (As := [.int (nI (p0)), .int (nI (mk))]) rfl (Nat.le_of_ble_eq_true rfl) d_Fi_sumFrom_23 ⟨Nat.zero_le _, Nat.zero_le _⟩ (fun _ => rfl) (fun _ => rfl) rfl ?_
  intro r _ H locs hp4 hw
  subst hp4
  refine mg_bif_ne X 39 29 d_Fi_sumFrom_26 (by decide) rfl (fun hs => ?_) (fun hs => ?_)
  · -- pc 26 t
    refine mg_aload_n X 40 d_Fi_sumFrom_39 (lv_at hl 0 rfl) rfl ?_
    refine mg_get X hK hw 43 0 1 f_Fi_15 rfl rfl d_Fi_sumFrom_40 rfl ?_
    refine mg_iload_n X 44 d_Fi_sumFrom_43 (lv_at hl 1 rfl) rfl ?_
    refine mg_iload_n X 45 d_Fi_sumFrom_44 (lv_at hl 2 rfl) rfl ?_
    refine mg_callVi X hK hw hA 48 [6, 8] 6 (fun _ => [mg_ob hF 3 [.ref (h), .ref (hM), .ref (qtb), .ref (ql)], mg_ai K ql 6 L, mg_ob h 1 [.ref (qf), .ref (qm), .ref (qr), .int (nI (nf)), .int (nI (nc))], mg_ai K qf 6 fa, mg_ai K qm 6 mo, mg_ai K qr 6 rk, mg_ob hM 2 [.ref (qw), .ref (qra), .ref (qo), .ref (qt), .int (nI (nm)), .int (nI (sg))], mg_ai K qw 12 wt, mg_ai K qo 24 ol, mg_ai K qt 24 tl]) rfl rfl (k_Ma_oneLetter l D K hM qw qra qo qt nm sg ol p0 mk (by omega) (by omega)) g_Fi_57 ⟨by dsimp only; omega, by dsimp only; omega⟩ ⟨rfl, rfl⟩ rfl rfl rfl hl.1 (rest := []) (As := [.int (nI (p0)), .int (nI (mk))]) rfl (Nat.le_of_ble_eq_true rfl) d_Fi_sumFrom_45 ⟨Nat.zero_le _, Nat.zero_le _⟩ (fun _ => rfl) (fun _ => rfl) rfl ?_
    intro r _ H locs hp6 hw
    subst hp6
    refine mg_istore X 50 [(4, .int (nI (ol (mk * 6 + p0)))), (0, .ref (hF)), (1, .int (nI (p0))), (2, .int (nI (mk))), (3, .int (nI (w)))] d_Fi_sumFrom_48 hl (by decide) rfl rfl (fun ls hl => ?_)
    refine mg_aload_n X 51 d_Fi_sumFrom_50 (lv_at hl 1 rfl) rfl ?_
    refine mg_get X hK hw 54 0 1 f_Fi_15 rfl rfl d_Fi_sumFrom_51 rfl ?_
    refine mg_iload_n X 55 d_Fi_sumFrom_54 (lv_at hl 2 rfl) rfl ?_
    refine mg_iload_n X 56 d_Fi_sumFrom_55 (lv_at hl 3 rfl) rfl ?_
    refine mg_callVi X hK hw hA 59 [6, 9] 6 (fun _ => [mg_ob hF 3 [.ref (h), .ref (hM), .ref (qtb), .ref (ql)], mg_ai K ql 6 L, mg_ob h 1 [.ref (qf), .ref (qm), .ref (qr), .int (nI (nf)), .int (nI (nc))], mg_ai K qf 6 fa, mg_ai K qm 6 mo, mg_ai K qr 6 rk, mg_ob hM 2 [.ref (qw), .ref (qra), .ref (qo), .ref (qt), .int (nI (nm)), .int (nI (sg))], mg_ai K qw 12 wt, mg_ai K qo 24 ol, mg_ai K qt 24 tl]) rfl rfl (k_Ma_otherLetter l D K hM qw qra qo qt nm sg tl p0 mk (by omega) (by omega)) g_Fi_61 ⟨by dsimp only; omega, by dsimp only; omega⟩ ⟨rfl, rfl⟩ rfl rfl rfl hl.1 (rest := []) (As := [.int (nI (p0)), .int (nI (mk))]) rfl (Nat.le_of_ble_eq_true rfl) d_Fi_sumFrom_56 ⟨Nat.zero_le _, Nat.zero_le _⟩ (fun _ => rfl) (fun _ => rfl) rfl ?_
    intro r _ H locs hp8 hw
    subst hp8
    refine mg_istore X 61 [(5, .int (nI (tl (mk * 6 + p0)))), (4, .int (nI (ol (mk * 6 + p0)))), (0, .ref (hF)), (1, .int (nI (p0))), (2, .int (nI (mk))), (3, .int (nI (w)))] d_Fi_sumFrom_59 hl (by decide) rfl rfl (fun ls hl => ?_)
    refine mg_aload_n X 62 d_Fi_sumFrom_61 (lv_at hl 2 rfl) rfl ?_
    refine mg_iload_n X 63 d_Fi_sumFrom_62 (lv_at hl 3 rfl) rfl ?_
    refine mg_iload_n X 64 d_Fi_sumFrom_63 (lv_at hl 4 rfl) rfl ?_
    refine mg_iload_n X 65 d_Fi_sumFrom_64 (lv_at hl 5 rfl) rfl ?_
    refine mg_iload X 67 d_Fi_sumFrom_65 (lv_at hl 1 rfl) rfl ?_
    refine mg_iload X 69 d_Fi_sumFrom_67 (lv_at hl 0 rfl) rfl ?_
    refine mg_callVi X hK hw hA 72 [0, 1, 2, 3, 4, 5, 6, 7, 8, 9] 0 (fun _ => [mg_ob hF 3 [.ref (h), .ref (hM), .ref (qtb), .ref (ql)], mg_ai K ql 6 L, mg_ob h 1 [.ref (qf), .ref (qm), .ref (qr), .int (nI (nf)), .int (nI (nc))], mg_ai K qf 6 fa, mg_ai K qm 6 mo, mg_ai K qr 6 rk, mg_ob hM 2 [.ref (qw), .ref (qra), .ref (qo), .ref (qt), .int (nI (nm)), .int (nI (sg))], mg_ai K qw 12 wt, mg_ai K qo 24 ol, mg_ai K qt 24 tl]) rfl rfl (k_Fi_sumWith l D K hF qtb ql h qf qm qr nf nc hM qw qra qo qt nm sg fa mo rk wt ol tl L mk w j p0 fr lo (ol (mk * 6 + p0)) (tl (mk * 6 + p0)) (hF0) (hm) (hw1) (hol) (htl) (hL) (by omega) (⟨by omega, by omega⟩) (⟨by omega, by omega⟩) (hrec)) g_Fi_64 ⟨by dsimp only; omega, by dsimp only; omega⟩ ⟨rfl, rfl⟩ rfl rfl rfl hl.1 (rest := []) (As := [.int (nI (p0)), .int (nI (mk)), .int (nI (w)), .int (nI (ol (mk * 6 + p0))), .int (nI (tl (mk * 6 + p0)))]) rfl (Nat.le_of_ble_eq_true rfl) d_Fi_sumFrom_69 ⟨Nat.zero_le _, Nat.zero_le _⟩ (fun _ => rfl) (fun _ => rfl) rfl ?_
    intro r _ H locs hp10 hw
    subst hp10
    refine mg_istore X 74 [(6, .int (nI (ft_with (fun q => fm_src fa mo rk w 3 q 0) (fun q => fm_src fa mo rk w 3 q 1) (ft_from (ma_wt wt mk) (2 * nf) (fun q => ol (mk * 6 + q)) (fun q => tl (mk * 6 + q)) (fun q => fm_src fa mo rk w 3 q 0) (fun q => fm_src fa mo rk w 3 q 1) j (p0 + 1)) p0 L (ol (mk * 6 + p0)) (tl (mk * 6 + p0))))), (5, .int (nI (tl (mk * 6 + p0)))), (4, .int (nI (ol (mk * 6 + p0)))), (0, .ref (hF)), (1, .int (nI (p0))), (2, .int (nI (mk))), (3, .int (nI (w)))] d_Fi_sumFrom_72 hl (by decide) rfl rfl (fun ls hl => ?_)
    refine mg_iload X 76 d_Fi_sumFrom_74 (lv_at hl 2 rfl) rfl ?_
    refine mg_iload X 78 d_Fi_sumFrom_76 (lv_at hl 1 rfl) rfl ?_
    refine mg_icmp_eq X 97 81 (by omega) (by omega) d_Fi_sumFrom_78 (by decide) rfl (fun he => ?_) (fun he => ?_)
    · -- pc 78 t
      refine mg_iload X 99 d_Fi_sumFrom_97 (lv_at hl 0 rfl) rfl ?_
      exact mg_iret X hr hlk (rfl) (()) (by show nI _ = nI (if ol (mk * 6 + p0) = 0 then _ else _); rw [if_neg hs, if_pos he]; rfl) hw d_Fi_sumFrom_99
    · -- pc 78 f
      refine mg_iload X 83 d_Fi_sumFrom_81 (lv_at hl 0 rfl) rfl ?_
      refine mg_aload_n X 84 d_Fi_sumFrom_83 (lv_at hl 3 rfl) rfl ?_
      refine mg_iload_n X 85 d_Fi_sumFrom_84 (lv_at hl 4 rfl) rfl ?_
      refine mg_iload_n X 86 d_Fi_sumFrom_85 (lv_at hl 5 rfl) rfl ?_
      refine mg_iload_n X 87 d_Fi_sumFrom_86 (lv_at hl 6 rfl) rfl ?_
      refine mg_iload X 89 d_Fi_sumFrom_87 (lv_at hl 1 rfl) rfl ?_
      refine mg_iload X 91 d_Fi_sumFrom_89 (lv_at hl 2 rfl) rfl ?_
      refine mg_callVi X hK hw hA 94 [0, 1, 2, 3, 4, 5, 6, 7, 8, 9] 0 (fun _ => [mg_ob hF 3 [.ref (h), .ref (hM), .ref (qtb), .ref (ql)], mg_ai K ql 6 L, mg_ob h 1 [.ref (qf), .ref (qm), .ref (qr), .int (nI (nf)), .int (nI (nc))], mg_ai K qf 6 fa, mg_ai K qm 6 mo, mg_ai K qr 6 rk, mg_ob hM 2 [.ref (qw), .ref (qra), .ref (qo), .ref (qt), .int (nI (nm)), .int (nI (sg))], mg_ai K qw 12 wt, mg_ai K qo 24 ol, mg_ai K qt 24 tl]) rfl rfl (k_Fi_sumWith l D K hF qtb ql h qf qm qr nf nc hM qw qra qo qt nm sg fa mo rk wt ol tl L mk w j p0 fr lo (tl (mk * 6 + p0)) (ol (mk * 6 + p0)) (hF0) (hm) (hw1) (hol) (htl) (hL) (by omega) (⟨by omega, by omega⟩) (⟨by omega, by omega⟩) (hrec)) g_Fi_64 ⟨by dsimp only; omega, by dsimp only; omega⟩ ⟨rfl, rfl⟩ rfl rfl rfl hl.1 (rest := [.int (nI (ft_with (fun q => fm_src fa mo rk w 3 q 0) (fun q => fm_src fa mo rk w 3 q 1) (ft_from (ma_wt wt mk) (2 * nf) (fun q => ol (mk * 6 + q)) (fun q => tl (mk * 6 + q)) (fun q => fm_src fa mo rk w 3 q 0) (fun q => fm_src fa mo rk w 3 q 1) j (p0 + 1)) p0 L (ol (mk * 6 + p0)) (tl (mk * 6 + p0))))]) (As := [.int (nI (p0)), .int (nI (mk)), .int (nI (w)), .int (nI (tl (mk * 6 + p0))), .int (nI (ol (mk * 6 + p0)))]) rfl (Nat.le_of_ble_eq_true rfl) d_Fi_sumFrom_91 ⟨Nat.zero_le _, Nat.zero_le _⟩ (fun _ => rfl) (fun _ => rfl) rfl ?_
      intro r _ H locs hp12 hw
      subst hp12
      refine mg_iadd X 95 (nI ((ft_with (fun q => fm_src fa mo rk w 3 q 0) (fun q => fm_src fa mo rk w 3 q 1) (ft_from (ma_wt wt mk) (2 * nf) (fun q => ol (mk * 6 + q)) (fun q => tl (mk * 6 + q)) (fun q => fm_src fa mo rk w 3 q 0) (fun q => fm_src fa mo rk w 3 q 1) j (p0 + 1)) p0 L (ol (mk * 6 + p0)) (tl (mk * 6 + p0))) + (ft_with (fun q => fm_src fa mo rk w 3 q 0) (fun q => fm_src fa mo rk w 3 q 1) (ft_from (ma_wt wt mk) (2 * nf) (fun q => ol (mk * 6 + q)) (fun q => tl (mk * 6 + q)) (fun q => fm_src fa mo rk w 3 q 0) (fun q => fm_src fa mo rk w 3 q 1) j (p0 + 1)) p0 L (tl (mk * 6 + p0)) (ol (mk * 6 + p0))))) d_Fi_sumFrom_94 (nI_add _ _) rfl ?_
      refine mg_istore X 97 [(6, .int (nI ((ft_with (fun q => fm_src fa mo rk w 3 q 0) (fun q => fm_src fa mo rk w 3 q 1) (ft_from (ma_wt wt mk) (2 * nf) (fun q => ol (mk * 6 + q)) (fun q => tl (mk * 6 + q)) (fun q => fm_src fa mo rk w 3 q 0) (fun q => fm_src fa mo rk w 3 q 1) j (p0 + 1)) p0 L (ol (mk * 6 + p0)) (tl (mk * 6 + p0))) + (ft_with (fun q => fm_src fa mo rk w 3 q 0) (fun q => fm_src fa mo rk w 3 q 1) (ft_from (ma_wt wt mk) (2 * nf) (fun q => ol (mk * 6 + q)) (fun q => tl (mk * 6 + q)) (fun q => fm_src fa mo rk w 3 q 0) (fun q => fm_src fa mo rk w 3 q 1) j (p0 + 1)) p0 L (tl (mk * 6 + p0)) (ol (mk * 6 + p0)))))), (5, .int (nI (tl (mk * 6 + p0)))), (4, .int (nI (ol (mk * 6 + p0)))), (0, .ref (hF)), (1, .int (nI (p0))), (2, .int (nI (mk))), (3, .int (nI (w)))] d_Fi_sumFrom_95 hl (by decide) rfl rfl (fun ls hl => ?_)
      refine mg_iload X 99 d_Fi_sumFrom_97 (lv_at hl 0 rfl) rfl ?_
      exact mg_iret X hr hlk (rfl) (()) (by show nI _ = nI (if ol (mk * 6 + p0) = 0 then _ else _); rw [if_neg hs, if_neg he]) hw d_Fi_sumFrom_99
  · -- pc 26 f
    refine mg_aload_n X 30 d_Fi_sumFrom_29 (lv_at hl 0 rfl) rfl ?_
    refine mg_iload_n X 31 d_Fi_sumFrom_30 (lv_at hl 1 rfl) rfl ?_
    refine mg_iconst X 32 1 d_Fi_sumFrom_31 mg_ci_1 rfl ?_
    refine mg_iadd X 33 (nI (p0 + 1)) d_Fi_sumFrom_32 (nI_add _ _) rfl ?_
    refine mg_iload_n X 34 d_Fi_sumFrom_33 (lv_at hl 2 rfl) rfl ?_
    refine mg_iload_n X 35 d_Fi_sumFrom_34 (lv_at hl 3 rfl) rfl ?_
    refine mg_callVi X hK hw hA 38 [0, 1, 2, 3, 4, 5, 6, 7, 8, 9] 0 (fun _ => [mg_ob hF 3 [.ref (h), .ref (hM), .ref (qtb), .ref (ql)], mg_ai K ql 6 L, mg_ob h 1 [.ref (qf), .ref (qm), .ref (qr), .int (nI (nf)), .int (nI (nc))], mg_ai K qf 6 fa, mg_ai K qm 6 mo, mg_ai K qr 6 rk, mg_ob hM 2 [.ref (qw), .ref (qra), .ref (qo), .ref (qt), .int (nI (nm)), .int (nI (sg))], mg_ai K qw 12 wt, mg_ai K qo 24 ol, mg_ai K qt 24 tl]) rfl rfl (hrec L (hL)) g_Fi_42 ⟨by dsimp only; omega, by dsimp only; omega⟩ ⟨rfl, rfl⟩ rfl rfl rfl hl.1 (rest := []) (As := [.int (nI (p0 + 1)), .int (nI (mk)), .int (nI (w))]) rfl (Nat.le_of_ble_eq_true rfl) d_Fi_sumFrom_35 ⟨Nat.zero_le _, Nat.zero_le _⟩ (fun _ => rfl) (fun _ => rfl) rfl ?_
    intro r _ H locs hp14 hw
    subst hp14
    exact mg_iret X hr hlk (rfl) (()) (by show nI _ = nI (if ol (mk * 6 + p0) = 0 then _ else _); rw [if_pos (Classical.not_not.mp hs)]) hw d_Fi_sumFrom_38

set_option maxRecDepth 100000 in
set_option maxHeartbeats 4000000 in
theorem k_Fi_sumFrom0 (l : Launch) (D : va_G) (K : Nat → ClassId) (hF : Nat) (qtb : Nat) (ql : Nat) (h : Nat) (qf : Nat) (qm : Nat) (qr : Nat) (nf : Nat) (nc : Nat) (hM : Nat) (qw : Nat) (qra : Nat) (qo : Nat) (qt : Nat) (nm : Nat) (sg : Nat) (fa : Nat → Nat) (mo : Nat → Nat) (rk : Nat → Nat) (wt : Nat → Nat) (ol : Nat → Nat) (tl : Nat → Nat) (L : Nat → Nat) (mk : Nat) (w : Nat) (p0 : Nat) (hF0 : fm_ok nf nc fa mo rk) (hm : mk < 4) (hW : ∀ l, 1 ≤ l → l ≤ 3 → ma_wt wt mk l ≤ 8) (hL : ∀ k, k < 6 → L k ≤ 3) (hp : p0 = nf + nc) : mg_Mi l D K y_Fi_sumFrom b_Fi_sumFrom 7 (.int) ({ frames := 2, cells := 0, slots := 0, locals := 50 }) [.ref (hF), .int (nI (p0)), .int (nI (mk)), .int (nI (w))] [mg_ob hF 3 [.ref (h), .ref (hM), .ref (qtb), .ref (ql)], mg_ai K ql 6 L, mg_ob h 1 [.ref (qf), .ref (qm), .ref (qr), .int (nI (nf)), .int (nI (nc))], mg_ai K qf 6 fa, mg_ai K qm 6 mo, mg_ai K qr 6 rk, mg_ob hM 2 [.ref (qw), .ref (qra), .ref (qo), .ref (qt), .int (nI (nm)), .int (nI (sg))], mg_ai K qw 12 wt, mg_ai K qo 24 ol, mg_ai K qt 24 tl] (fun (r : Int32) (_ : Unit) => r = nI (ft_from (ma_wt wt mk) (2 * nf) (fun q => ol (mk * 6 + q)) (fun q => tl (mk * 6 + q)) (fun q => fm_src fa mo rk w 3 q 0) (fun q => fm_src fa mo rk w 3 q 1) 0 p0 L)) (fun (_ : Unit) => [mg_ob hF 3 [.ref (h), .ref (hM), .ref (qtb), .ref (ql)], mg_ai K ql 6 L, mg_ob h 1 [.ref (qf), .ref (qm), .ref (qr), .int (nI (nf)), .int (nI (nc))], mg_ai K qf 6 fa, mg_ai K qm 6 mo, mg_ai K qr 6 rk, mg_ob hM 2 [.ref (qw), .ref (qra), .ref (qo), .ref (qt), .int (nI (nm)), .int (nI (sg))], mg_ai K qw 12 wt, mg_ai K qo 24 ol, mg_ai K qt 24 tl]) := by
  intro sz
  refine mg_entry (Qc := fun A => va_Qi (fun (r : Int32) (_ : Unit) => r = nI (ft_from (ma_wt wt mk) (2 * nf) (fun q => ol (mk * 6 + q)) (fun q => tl (mk * 6 + q)) (fun q => fm_src fa mo rk w 3 q 0) (fun q => fm_src fa mo rk w 3 q 1) 0 p0 L)) (mg_B D A (fun (_ : Unit) => [mg_ob hF 3 [.ref (h), .ref (hM), .ref (qtb), .ref (ql)], mg_ai K ql 6 L, mg_ob h 1 [.ref (qf), .ref (qm), .ref (qr), .int (nI (nf)), .int (nI (nc))], mg_ai K qf 6 fa, mg_ai K qm 6 mo, mg_ai K qr 6 rk, mg_ob hM 2 [.ref (qw), .ref (qra), .ref (qo), .ref (qt), .int (nI (nm)), .int (nI (sg))], mg_ai K qw 12 wt, mg_ai K qo 24 ol, mg_ai K qt 24 tl])) A) (by decide) (Nat.le_of_ble_eq_true rfl) ?_
  intro p e s m args below meth c A ls X hr hlk hnm hA hK hw hl
  have hl : lv_has ls 7 [(0, .ref (hF)), (1, .int (nI (p0))), (2, .int (nI (mk))), (3, .int (nI (w)))] := hl
  have hf1 := hF0.1
  have hf2 := hF0.2.1
  refine mg_iload_n X 1 d_Fi_sumFrom_0 (lv_at hl 1 rfl) rfl ?_
  refine mg_aload_n X 2 d_Fi_sumFrom_1 (lv_at hl 0 rfl) rfl ?_
  refine mg_get X hK hw 5 0 0 f_Fi_9 rfl rfl d_Fi_sumFrom_2 rfl ?_
  refine mg_callVi X hK hw hA 8 [2] 2 (fun _ => [mg_ob hF 3 [.ref (h), .ref (hM), .ref (qtb), .ref (ql)], mg_ai K ql 6 L, mg_ob h 1 [.ref (qf), .ref (qm), .ref (qr), .int (nI (nf)), .int (nI (nc))], mg_ai K qf 6 fa, mg_ai K qm 6 mo, mg_ai K qr 6 rk, mg_ob hM 2 [.ref (qw), .ref (qra), .ref (qo), .ref (qt), .int (nI (nm)), .int (nI (sg))], mg_ai K qw 12 wt, mg_ai K qo 24 ol, mg_ai K qt 24 tl]) rfl rfl (k_Fa_persons l D K h qf qm qr nf nc ) g_Fi_46 ⟨by decide, by decide⟩ ⟨rfl, rfl⟩ rfl rfl rfl hl.1 (rest := [.int (nI (p0))]) (As := []) rfl (Nat.le_of_ble_eq_true rfl) d_Fi_sumFrom_5 ⟨Nat.zero_le _, Nat.zero_le _⟩ (fun _ => rfl) (fun _ => rfl) rfl ?_
  intro r _ H locs hp2 hw
  subst hp2
  refine mg_icmp_lt X 17 11 (by omega) (by omega) d_Fi_sumFrom_8 (by decide) rfl (fun hlt => absurd hlt (by omega)) (fun hlt => ?_)
  refine mg_aload_n X 12 d_Fi_sumFrom_11 (lv_at hl 0 rfl) rfl ?_
  refine mg_iload_n X 13 d_Fi_sumFrom_12 (lv_at hl 2 rfl) rfl ?_
  refine mg_callVi X hK hw hA 16 [0, 1, 2, 6, 7] 0 (fun _ => [mg_ob hF 3 [.ref (h), .ref (hM), .ref (qtb), .ref (ql)], mg_ai K ql 6 L, mg_ob h 1 [.ref (qf), .ref (qm), .ref (qr), .int (nI (nf)), .int (nI (nc))], mg_ai K qf 6 fa, mg_ai K qm 6 mo, mg_ai K qr 6 rk, mg_ob hM 2 [.ref (qw), .ref (qra), .ref (qo), .ref (qt), .int (nI (nm)), .int (nI (sg))], mg_ai K qw 12 wt, mg_ai K qo 24 ol, mg_ai K qt 24 tl]) rfl rfl (k_Fi_weightOfLetters l D K hF qtb ql h qf qm qr nf nc hM qw qra qo qt nm sg wt L mk (by omega) (by omega) (hW) (hL)) g_Fi_49 ⟨by decide, by decide⟩ ⟨rfl, rfl⟩ rfl rfl rfl hl.1 (rest := []) (As := [.int (nI (mk))]) rfl (Nat.le_of_ble_eq_true rfl) d_Fi_sumFrom_13 ⟨Nat.zero_le _, Nat.zero_le _⟩ (fun _ => rfl) (fun _ => rfl) rfl ?_
  intro r _ H locs hp4 hw
  subst hp4
  exact mg_iret X hr hlk (rfl) (()) (rfl) hw d_Fi_sumFrom_16

set_option maxRecDepth 100000 in
set_option maxHeartbeats 4000000 in
theorem k_Fi_sumFromJ (l : Launch) (D : va_G) (K : Nat → ClassId) (hF : Nat) (qtb : Nat) (ql : Nat) (h : Nat) (qf : Nat) (qm : Nat) (qr : Nat) (nf : Nat) (nc : Nat) (hM : Nat) (qw : Nat) (qra : Nat) (qo : Nat) (qt : Nat) (nm : Nat) (sg : Nat) (fa : Nat → Nat) (mo : Nat → Nat) (rk : Nat → Nat) (wt : Nat → Nat) (ol : Nat → Nat) (tl : Nat → Nat) (mk : Nat) (w : Nat) (hF0 : fm_ok nf nc fa mo rk) (hm : mk < 4) (hw1 : w < 64) (hol : ∀ k, k < 24 → ol k ≤ 3) (htl : ∀ k, k < 24 → tl k ≤ 3) (hW : ∀ l, 1 ≤ l → l ≤ 3 → ma_wt wt mk l ≤ 8) (hsn : ∀ q, q < 6 → ol (mk * 6 + q) = 0 ∨ 1 ≤ tl (mk * 6 + q)) : ∀ (j : Nat), ∀ (L : Nat → Nat) (p0 : Nat), (∀ k, k < 6 → L k ≤ 3) → (p0 + j = nf + nc) → mg_Mi l D K y_Fi_sumFrom b_Fi_sumFrom 7 (.int) ({ frames := 2 * j + 2, cells := 0, slots := 0, locals := 60 * j + 50 }) [.ref (hF), .int (nI (p0)), .int (nI (mk)), .int (nI (w))] [mg_ob hF 3 [.ref (h), .ref (hM), .ref (qtb), .ref (ql)], mg_ai K ql 6 L, mg_ob h 1 [.ref (qf), .ref (qm), .ref (qr), .int (nI (nf)), .int (nI (nc))], mg_ai K qf 6 fa, mg_ai K qm 6 mo, mg_ai K qr 6 rk, mg_ob hM 2 [.ref (qw), .ref (qra), .ref (qo), .ref (qt), .int (nI (nm)), .int (nI (sg))], mg_ai K qw 12 wt, mg_ai K qo 24 ol, mg_ai K qt 24 tl] (fun (r : Int32) (_ : Unit) => r = nI (ft_from (ma_wt wt mk) (2 * nf) (fun q => ol (mk * 6 + q)) (fun q => tl (mk * 6 + q)) (fun q => fm_src fa mo rk w 3 q 0) (fun q => fm_src fa mo rk w 3 q 1) j p0 L)) (fun (_ : Unit) => [mg_ob hF 3 [.ref (h), .ref (hM), .ref (qtb), .ref (ql)], mg_ai K ql 6 L, mg_ob h 1 [.ref (qf), .ref (qm), .ref (qr), .int (nI (nf)), .int (nI (nc))], mg_ai K qf 6 fa, mg_ai K qm 6 mo, mg_ai K qr 6 rk, mg_ob hM 2 [.ref (qw), .ref (qra), .ref (qo), .ref (qt), .int (nI (nm)), .int (nI (sg))], mg_ai K qw 12 wt, mg_ai K qo 24 ol, mg_ai K qt 24 tl]) := by
  intro j
  induction j with
  | zero =>
    intro L p0 hL hp
    exact k_Fi_sumFrom0 l D K hF qtb ql h qf qm qr nf nc hM qw qra qo qt nm sg fa mo rk wt ol tl L mk w p0 hF0 hm hW hL (by omega)
  | succ j ih =>
    intro L p0 hL hp
    have hrec := fun (L1 : Nat → Nat) (hL1 : ∀ k, k < 6 → L1 k ≤ 3) => ih L1 (p0 + 1) hL1 (by omega)
    have h := k_Fi_sumFrom l D K hF qtb ql h qf qm qr nf nc hM qw qra qo qt nm sg fa mo rk wt ol tl L mk w j p0 (2 * j + 2) (60 * j + 50) hF0 hm hw1 hol htl hW hsn hL hp hrec
    rw [show 2 * (j + 1) + 2 = 2 * j + 2 + 2 by omega, show 60 * (j + 1) + 50 = 60 * j + 50 + 60 by omega]
    exact h

set_option maxRecDepth 100000 in
set_option maxHeartbeats 4000000 in
theorem k_Fi_sum (l : Launch) (D : va_G) (K : Nat → ClassId) (hF : Nat) (qtb : Nat) (ql : Nat) (h : Nat) (qf : Nat) (qm : Nat) (qr : Nat) (nf : Nat) (nc : Nat) (hM : Nat) (qw : Nat) (qra : Nat) (qo : Nat) (qt : Nat) (nm : Nat) (sg : Nat) (fa : Nat → Nat) (mo : Nat → Nat) (rk : Nat → Nat) (wt : Nat → Nat) (ol : Nat → Nat) (tl : Nat → Nat) (mk : Nat) (w : Nat) (hF0 : fm_ok nf nc fa mo rk) (hS : sn_ok ol tl) (hm : mk < 4) (hw1 : w < 64) (hW8 : ma_wt wt mk 1 + ma_wt wt mk 2 + ma_wt wt mk 3 = 8) : mg_Mi l D K y_Fi_sumFrom b_Fi_sumFrom 7 (.int) ({ frames := 2 * (nf + nc) + 2, cells := 0, slots := 0, locals := 60 * (nf + nc) + 50 }) [.ref (hF), .int (nI (0)), .int (nI (mk)), .int (nI (w))] [mg_ob hF 3 [.ref (h), .ref (hM), .ref (qtb), .ref (ql)], mg_ai K ql 6 (fun _ => 0), mg_ob h 1 [.ref (qf), .ref (qm), .ref (qr), .int (nI (nf)), .int (nI (nc))], mg_ai K qf 6 fa, mg_ai K qm 6 mo, mg_ai K qr 6 rk, mg_ob hM 2 [.ref (qw), .ref (qra), .ref (qo), .ref (qt), .int (nI (nm)), .int (nI (sg))], mg_ai K qw 12 wt, mg_ai K qo 24 ol, mg_ai K qt 24 tl] (fun (r : Int32) (_ : Unit) => r = nI (fi_fit wt ol tl fa mo rk nf nc mk w)) (fun (_ : Unit) => [mg_ob hF 3 [.ref (h), .ref (hM), .ref (qtb), .ref (ql)], mg_ai K ql 6 (fun _ => 0), mg_ob h 1 [.ref (qf), .ref (qm), .ref (qr), .int (nI (nf)), .int (nI (nc))], mg_ai K qf 6 fa, mg_ai K qm 6 mo, mg_ai K qr 6 rk, mg_ob hM 2 [.ref (qw), .ref (qra), .ref (qo), .ref (qt), .int (nI (nm)), .int (nI (sg))], mg_ai K qw 12 wt, mg_ai K qo 24 ol, mg_ai K qt 24 tl]) := by
  have h := k_Fi_sumFromJ l D K hF qtb ql h qf qm qr nf nc hM qw qra qo qt nm sg fa mo rk wt ol tl mk w hF0 hm hw1 hS.1 hS.2.1 (ma_w8 hW8) (fun q hq => hS.2.2 (mk * 6 + q) (by omega)) (nf + nc) (fun _ => 0) 0 (fun _ _ => Nat.zero_le _) (by omega)
  rw [fi_fit_eq hF0 hS hm hW8] at h
  exact h

set_option maxRecDepth 100000 in
set_option maxHeartbeats 4000000 in
theorem k_Fi_renew (l : Launch) (D : va_G) (K : Nat → ClassId) (hF : Nat) (qtb : Nat) (ql : Nat) (h : Nat) (qf : Nat) (qm : Nat) (qr : Nat) (nf : Nat) (nc : Nat) (hM : Nat) (qw : Nat) (qra : Nat) (qo : Nat) (qt : Nat) (nm : Nat) (sg : Nat) (fa : Nat → Nat) (mo : Nat → Nat) (rk : Nat → Nat) (wt : Nat → Nat) (ol : Nat → Nat) (tl : Nat → Nat) (tb : Nat → Nat) (mk : Nat) (hF0 : fm_ok nf nc fa mo rk) (hS : sn_ok ol tl) (hm : mk < 4) (hW8 : ma_wt wt mk 1 + ma_wt wt mk 2 + ma_wt wt mk 3 = 8) : mg_Mv l D K y_Fi_renew b_Fi_renew 3 ({ frames := 20, cells := 0, slots := 0, locals := 480 }) [.ref (hF), .int (nI (mk))] [mg_ob hF 3 [.ref (h), .ref (hM), .ref (qtb), .ref (ql)], mg_ai K ql 6 (fun _ => 0), mg_ai K qtb 256 tb, mg_ob h 1 [.ref (qf), .ref (qm), .ref (qr), .int (nI (nf)), .int (nI (nc))], mg_ai K qf 6 fa, mg_ai K qm 6 mo, mg_ai K qr 6 rk, mg_ob hM 2 [.ref (qw), .ref (qra), .ref (qo), .ref (qt), .int (nI (nm)), .int (nI (sg))], mg_ai K qw 12 wt, mg_ai K qo 24 ol, mg_ai K qt 24 tl] (fun (_ : Unit) => True) (fun (_ : Unit) => [mg_ob hF 3 [.ref (h), .ref (hM), .ref (qtb), .ref (ql)], mg_ai K ql 6 (fun _ => 0), mg_ai K qtb 256 (fi_tb tb (fi_fit wt ol tl fa mo rk nf nc mk) mk (2 ^ (2 * nc))), mg_ob h 1 [.ref (qf), .ref (qm), .ref (qr), .int (nI (nf)), .int (nI (nc))], mg_ai K qf 6 fa, mg_ai K qm 6 mo, mg_ai K qr 6 rk, mg_ob hM 2 [.ref (qw), .ref (qra), .ref (qo), .ref (qt), .int (nI (nm)), .int (nI (sg))], mg_ai K qw 12 wt, mg_ai K qo 24 ol, mg_ai K qt 24 tl]) := by
  intro sz
  refine mg_entry (Qc := fun A => va_Qv (fun (_ : Unit) => True) (mg_B D A (fun (_ : Unit) => [mg_ob hF 3 [.ref (h), .ref (hM), .ref (qtb), .ref (ql)], mg_ai K ql 6 (fun _ => 0), mg_ai K qtb 256 (fi_tb tb (fi_fit wt ol tl fa mo rk nf nc mk) mk (2 ^ (2 * nc))), mg_ob h 1 [.ref (qf), .ref (qm), .ref (qr), .int (nI (nf)), .int (nI (nc))], mg_ai K qf 6 fa, mg_ai K qm 6 mo, mg_ai K qr 6 rk, mg_ob hM 2 [.ref (qw), .ref (qra), .ref (qo), .ref (qt), .int (nI (nm)), .int (nI (sg))], mg_ai K qw 12 wt, mg_ai K qo 24 ol, mg_ai K qt 24 tl])) A) (by decide) (Nat.le_of_ble_eq_true rfl) ?_
  intro p e s m args below meth c A ls X hr hlk hnm hA hK hw hl
  have hl : lv_has ls 3 [(0, .ref (hF)), (1, .int (nI (mk)))] := hl
  have hf1 := hF0.1
  have hf2 := hF0.2.1
  have hw6 := mg_ways hf2
  rw [← fi_tb0 tb (fi_fit wt ol tl fa mo rk nf nc mk) mk] at hw
  refine mg_iconst X 1 0 d_Fi_renew_0 mg_ci_0 rfl ?_
  refine mg_istore_n X 2 [(2, .int (nI (0))), (0, .ref (hF)), (1, .int (nI (mk)))] d_Fi_renew_1 hl (by decide) rfl rfl (fun ls hl => ?_)
  have L2 : ∀ (n0 : Nat) (w : Nat), n0 = 2 ^ (2 * nc) - w → (w ≤ 2 ^ (2 * nc)) → ∀ (ls : Array Slot) (H : Heap) (locs : List Loc), lv_has ls 3 [(0, .ref (hF)), (1, .int (nI (mk))), (2, .int (nI (w)))] → mg_H D A s.heap H locs [mg_ob hF 3 [.ref (h), .ref (hM), .ref (qtb), .ref (ql)], mg_ai K ql 6 (fun _ => 0), mg_ai K qtb 256 (fi_tb tb (fi_fit wt ol tl fa mo rk nf nc mk) mk w), mg_ob h 1 [.ref (qf), .ref (qm), .ref (qr), .int (nI (nf)), .int (nI (nc))], mg_ai K qf 6 fa, mg_ai K qm 6 mo, mg_ai K qr 6 rk, mg_ob hM 2 [.ref (qw), .ref (qra), .ref (qo), .ref (qt), .int (nI (nm)), .int (nI (sg))], mg_ai K qw 12 wt, mg_ai K qo 24 ol, mg_ai K qt 24 tl] → W p l e ({ frames := 20, cells := 0, slots := 0, locals := 480 }) s m args below meth c H locs 0 0 (MQ below (va_Qv (fun (_ : Unit) => True) (mg_B D A (fun (_ : Unit) => [mg_ob hF 3 [.ref (h), .ref (hM), .ref (qtb), .ref (ql)], mg_ai K ql 6 (fun _ => 0), mg_ai K qtb 256 (fi_tb tb (fi_fit wt ol tl fa mo rk nf nc mk) mk (2 ^ (2 * nc))), mg_ob h 1 [.ref (qf), .ref (qm), .ref (qr), .int (nI (nf)), .int (nI (nc))], mg_ai K qf 6 fa, mg_ai K qm 6 mo, mg_ai K qr 6 rk, mg_ob hM 2 [.ref (qw), .ref (qra), .ref (qo), .ref (qt), .int (nI (nm)), .int (nI (sg))], mg_ai K qw 12 wt, mg_ai K qo 24 ol, mg_ai K qt 24 tl])) A) args s 0 0 A) (F0 m 2 ls []) := by
    intro n0
    induction n0 using Nat.strongRecOn with
    | ind n0 ih2 =>
    intro w hm2 hk ls H locs hl hw
    refine mg_iload_n X 3 d_Fi_renew_2 (lv_at hl 2 rfl) rfl ?_
    refine mg_aload_n X 4 d_Fi_renew_3 (lv_at hl 0 rfl) rfl ?_
    refine mg_get X hK hw 7 0 0 f_Fi_9 rfl rfl d_Fi_renew_4 rfl ?_
    refine mg_callVi X hK hw hA 10 [3] 3 (fun _ => [mg_ob hF 3 [.ref (h), .ref (hM), .ref (qtb), .ref (ql)], mg_ai K ql 6 (fun _ => 0), mg_ai K qtb 256 (fi_tb tb (fi_fit wt ol tl fa mo rk nf nc mk) mk w), mg_ob h 1 [.ref (qf), .ref (qm), .ref (qr), .int (nI (nf)), .int (nI (nc))], mg_ai K qf 6 fa, mg_ai K qm 6 mo, mg_ai K qr 6 rk, mg_ob hM 2 [.ref (qw), .ref (qra), .ref (qo), .ref (qt), .int (nI (nm)), .int (nI (sg))], mg_ai K qw 12 wt, mg_ai K qo 24 ol, mg_ai K qt 24 tl]) rfl rfl (k_Fa_ways l D K h qf qm qr nf nc (by omega)) g_Fi_36 ⟨by decide, by decide⟩ ⟨rfl, rfl⟩ rfl rfl rfl hl.1 (rest := [.int (nI (w))]) (As := []) rfl (Nat.le_of_ble_eq_true rfl) d_Fi_renew_7 ⟨Nat.zero_le _, Nat.zero_le _⟩ (fun _ => rfl) (fun _ => rfl) rfl ?_
    intro r _ H locs hp2 hw
    subst hp2
    refine mg_icmp_ge X 37 13 (by omega) (by omega) d_Fi_renew_10 (by decide) rfl (fun hb => ?_) (fun hb => ?_)
    · -- pc 10 t
      obtain rfl : w = 2 ^ (2 * nc) := by omega
      exact mg_vret X hr hlk (()) (trivial) hw d_Fi_renew_37
    · -- pc 10 f
      refine mg_aload_n X 14 d_Fi_renew_13 (lv_at hl 0 rfl) rfl ?_
      refine mg_get X hK hw 17 0 2 f_Fi_19 rfl rfl d_Fi_renew_14 rfl ?_
      refine mg_iload_n X 18 d_Fi_renew_17 (lv_at hl 1 rfl) rfl ?_
      refine mg_bipush X 20 64 d_Fi_renew_18 mg_cb_64 rfl ?_
      refine mg_imul X 21 (nI (mk * 64)) d_Fi_renew_20 (pk_mul _ _) rfl ?_
      refine mg_iload_n X 22 d_Fi_renew_21 (lv_at hl 2 rfl) rfl ?_
      refine mg_iadd X 23 (nI ((mk * 64) + w)) d_Fi_renew_22 (nI_add _ _) rfl ?_
      refine mg_aload_n X 24 d_Fi_renew_23 (lv_at hl 0 rfl) rfl ?_
      refine mg_iconst X 25 0 d_Fi_renew_24 mg_ci_0 rfl ?_
      refine mg_iload_n X 26 d_Fi_renew_25 (lv_at hl 1 rfl) rfl ?_
      refine mg_iload_n X 27 d_Fi_renew_26 (lv_at hl 2 rfl) rfl ?_
      refine mg_callVi X hK hw hA 30 [0, 1, 3, 4, 5, 6, 7, 8, 9, 10] 0 (fun _ => [mg_ob hF 3 [.ref (h), .ref (hM), .ref (qtb), .ref (ql)], mg_ai K ql 6 (fun _ => 0), mg_ai K qtb 256 (fi_tb tb (fi_fit wt ol tl fa mo rk nf nc mk) mk w), mg_ob h 1 [.ref (qf), .ref (qm), .ref (qr), .int (nI (nf)), .int (nI (nc))], mg_ai K qf 6 fa, mg_ai K qm 6 mo, mg_ai K qr 6 rk, mg_ob hM 2 [.ref (qw), .ref (qra), .ref (qo), .ref (qt), .int (nI (nm)), .int (nI (sg))], mg_ai K qw 12 wt, mg_ai K qo 24 ol, mg_ai K qt 24 tl]) rfl rfl (k_Fi_sum l D K hF qtb ql h qf qm qr nf nc hM qw qra qo qt nm sg fa mo rk wt ol tl mk w (hF0) (hS) (by omega) (by omega) (hW8)) g_Fi_42 ⟨by dsimp only; omega, by dsimp only; omega⟩ ⟨rfl, rfl⟩ rfl rfl rfl hl.1 (rest := [.int (nI ((mk * 64) + w)), .ref (qtb)]) (As := [.int (nI (0)), .int (nI (mk)), .int (nI (w))]) rfl (Nat.le_of_ble_eq_true rfl) d_Fi_renew_27 ⟨Nat.zero_le _, Nat.zero_le _⟩ (fun _ => rfl) (fun _ => rfl) rfl ?_
      intro r _ H locs hp4 hw
      subst hp4
      refine mg_iast X hK hw 31 2 [mg_ob hF 3 [.ref (h), .ref (hM), .ref (qtb), .ref (ql)], mg_ai K ql 6 (fun _ => 0), mg_ai K qtb 256 (va_up (fi_tb tb (fi_fit wt ol tl fa mo rk nf nc mk) mk w) ((mk * 64) + w) (fi_fit wt ol tl fa mo rk nf nc mk w)), mg_ob h 1 [.ref (qf), .ref (qm), .ref (qr), .int (nI (nf)), .int (nI (nc))], mg_ai K qf 6 fa, mg_ai K qm 6 mo, mg_ai K qr 6 rk, mg_ob hM 2 [.ref (qw), .ref (qra), .ref (qo), .ref (qt), .int (nI (nm)), .int (nI (sg))], mg_ai K qw 12 wt, mg_ai K qo 24 ol, mg_ai K qt 24 tl] rfl (by omega) (by omega) d_Fi_renew_30 rfl rfl (fun H locs hw => ?_)
      refine mg_iinc X 34 [(2, .int (nI (w + 1))), (0, .ref (hF)), (1, .int (nI (mk)))] (w + 1) d_Fi_renew_31 hl (k := 2) rfl (mg_inc1 _) (by decide) rfl rfl (fun ls hl => ?_)
      refine mg_goto X 2 d_Fi_renew_34 (by decide) ?_
      have hl : lv_has ls 3 [(0, .ref (hF)), (1, .int (nI (mk))), (2, .int (nI (w + 1)))] := lv_sub hl [1, 2, 0] rfl
      rw [fi_tbS] at hw
      exact ih2 _ (by omega) (w + 1) rfl (by omega) ls _ _ hl hw
  have hl : lv_has ls 3 [(0, .ref (hF)), (1, .int (nI (mk))), (2, .int (nI (0)))] := lv_sub hl [1, 2, 0] rfl
  exact L2 _ 0 rfl (Nat.zero_le _) ls _ _ hl hw

set_option maxRecDepth 100000 in
set_option maxHeartbeats 4000000 in
theorem k_Fi_renewAll (l : Launch) (D : va_G) (K : Nat → ClassId) (hF : Nat) (qtb : Nat) (ql : Nat) (h : Nat) (qf : Nat) (qm : Nat) (qr : Nat) (nf : Nat) (nc : Nat) (hM : Nat) (qw : Nat) (qra : Nat) (qo : Nat) (qt : Nat) (nm : Nat) (sg : Nat) (fa : Nat → Nat) (mo : Nat → Nat) (rk : Nat → Nat) (wt : Nat → Nat) (ol : Nat → Nat) (tl : Nat → Nat) (tb : Nat → Nat) (hF0 : fm_ok nf nc fa mo rk) (hS : sn_ok ol tl) (hn : nm ≤ 4) (hW8 : ∀ k, k < nm → ma_wt wt k 1 + ma_wt wt k 2 + ma_wt wt k 3 = 8) : mg_Mv l D K y_Fi_renewAll b_Fi_renewAll 2 ({ frames := 21, cells := 0, slots := 0, locals := 502 }) [.ref (hF)] [mg_ob hF 3 [.ref (h), .ref (hM), .ref (qtb), .ref (ql)], mg_ai K ql 6 (fun _ => 0), mg_ai K qtb 256 tb, mg_ob h 1 [.ref (qf), .ref (qm), .ref (qr), .int (nI (nf)), .int (nI (nc))], mg_ai K qf 6 fa, mg_ai K qm 6 mo, mg_ai K qr 6 rk, mg_ob hM 2 [.ref (qw), .ref (qra), .ref (qo), .ref (qt), .int (nI (nm)), .int (nI (sg))], mg_ai K qw 12 wt, mg_ai K qo 24 ol, mg_ai K qt 24 tl] (fun (_ : Unit) => True) (fun (_ : Unit) => [mg_ob hF 3 [.ref (h), .ref (hM), .ref (qtb), .ref (ql)], mg_ai K ql 6 (fun _ => 0), mg_ai K qtb 256 (fi_all tb (fi_fit wt ol tl fa mo rk nf nc) (2 ^ (2 * nc)) nm), mg_ob h 1 [.ref (qf), .ref (qm), .ref (qr), .int (nI (nf)), .int (nI (nc))], mg_ai K qf 6 fa, mg_ai K qm 6 mo, mg_ai K qr 6 rk, mg_ob hM 2 [.ref (qw), .ref (qra), .ref (qo), .ref (qt), .int (nI (nm)), .int (nI (sg))], mg_ai K qw 12 wt, mg_ai K qo 24 ol, mg_ai K qt 24 tl]) := by
  intro sz
  refine mg_entry (Qc := fun A => va_Qv (fun (_ : Unit) => True) (mg_B D A (fun (_ : Unit) => [mg_ob hF 3 [.ref (h), .ref (hM), .ref (qtb), .ref (ql)], mg_ai K ql 6 (fun _ => 0), mg_ai K qtb 256 (fi_all tb (fi_fit wt ol tl fa mo rk nf nc) (2 ^ (2 * nc)) nm), mg_ob h 1 [.ref (qf), .ref (qm), .ref (qr), .int (nI (nf)), .int (nI (nc))], mg_ai K qf 6 fa, mg_ai K qm 6 mo, mg_ai K qr 6 rk, mg_ob hM 2 [.ref (qw), .ref (qra), .ref (qo), .ref (qt), .int (nI (nm)), .int (nI (sg))], mg_ai K qw 12 wt, mg_ai K qo 24 ol, mg_ai K qt 24 tl])) A) (by decide) (Nat.le_of_ble_eq_true rfl) ?_
  intro p e s m args below meth c A ls X hr hlk hnm hA hK hw hl
  have hl : lv_has ls 2 [(0, .ref (hF))] := hl
  have hf1 := hF0.1
  have hf2 := hF0.2.1
  have hw6 := mg_ways hf2
  rw [← fi_all0 tb (fi_fit wt ol tl fa mo rk nf nc) (2 ^ (2 * nc))] at hw
  refine mg_iconst X 1 0 d_Fi_renewAll_0 mg_ci_0 rfl ?_
  refine mg_istore_n X 2 [(1, .int (nI (0))), (0, .ref (hF))] d_Fi_renewAll_1 hl (by decide) rfl rfl (fun ls hl => ?_)
  have L2 : ∀ (n0 : Nat) (k : Nat), n0 = nm - k → (k ≤ nm) → ∀ (ls : Array Slot) (H : Heap) (locs : List Loc), lv_has ls 2 [(0, .ref (hF)), (1, .int (nI (k)))] → mg_H D A s.heap H locs [mg_ob hF 3 [.ref (h), .ref (hM), .ref (qtb), .ref (ql)], mg_ai K ql 6 (fun _ => 0), mg_ai K qtb 256 (fi_all tb (fi_fit wt ol tl fa mo rk nf nc) (2 ^ (2 * nc)) k), mg_ob h 1 [.ref (qf), .ref (qm), .ref (qr), .int (nI (nf)), .int (nI (nc))], mg_ai K qf 6 fa, mg_ai K qm 6 mo, mg_ai K qr 6 rk, mg_ob hM 2 [.ref (qw), .ref (qra), .ref (qo), .ref (qt), .int (nI (nm)), .int (nI (sg))], mg_ai K qw 12 wt, mg_ai K qo 24 ol, mg_ai K qt 24 tl] → W p l e ({ frames := 21, cells := 0, slots := 0, locals := 502 }) s m args below meth c H locs 0 0 (MQ below (va_Qv (fun (_ : Unit) => True) (mg_B D A (fun (_ : Unit) => [mg_ob hF 3 [.ref (h), .ref (hM), .ref (qtb), .ref (ql)], mg_ai K ql 6 (fun _ => 0), mg_ai K qtb 256 (fi_all tb (fi_fit wt ol tl fa mo rk nf nc) (2 ^ (2 * nc)) nm), mg_ob h 1 [.ref (qf), .ref (qm), .ref (qr), .int (nI (nf)), .int (nI (nc))], mg_ai K qf 6 fa, mg_ai K qm 6 mo, mg_ai K qr 6 rk, mg_ob hM 2 [.ref (qw), .ref (qra), .ref (qo), .ref (qt), .int (nI (nm)), .int (nI (sg))], mg_ai K qw 12 wt, mg_ai K qo 24 ol, mg_ai K qt 24 tl])) A) args s 0 0 A) (F0 m 2 ls []) := by
    intro n0
    induction n0 using Nat.strongRecOn with
    | ind n0 ih2 =>
    intro k hm2 hk ls H locs hl hw
    refine mg_iload_n X 3 d_Fi_renewAll_2 (lv_at hl 1 rfl) rfl ?_
    refine mg_aload_n X 4 d_Fi_renewAll_3 (lv_at hl 0 rfl) rfl ?_
    refine mg_get X hK hw 7 0 1 f_Fi_15 rfl rfl d_Fi_renewAll_4 rfl ?_
    refine mg_get X hK hw 10 7 4 f_Fi_26 rfl rfl d_Fi_renewAll_7 rfl ?_
    refine mg_icmp_ge X 24 13 (by omega) (by omega) d_Fi_renewAll_10 (by decide) rfl (fun hb => ?_) (fun hb => ?_)
    · -- pc 10 t
      obtain rfl : k = nm := by omega
      exact mg_vret X hr hlk (()) (trivial) hw d_Fi_renewAll_24
    · -- pc 10 f
      refine mg_aload_n X 14 d_Fi_renewAll_13 (lv_at hl 0 rfl) rfl ?_
      refine mg_iload_n X 15 d_Fi_renewAll_14 (lv_at hl 1 rfl) rfl ?_
      refine mg_callVv X hK hw hA 18 [0, 1, 2, 3, 4, 5, 6, 7, 8, 9, 10] 0 (fun _ => [mg_ob hF 3 [.ref (h), .ref (hM), .ref (qtb), .ref (ql)], mg_ai K ql 6 (fun _ => 0), mg_ai K qtb 256 (fi_tb (fi_all tb (fi_fit wt ol tl fa mo rk nf nc) (2 ^ (2 * nc)) k) (fi_fit wt ol tl fa mo rk nf nc k) k (2 ^ (2 * nc))), mg_ob h 1 [.ref (qf), .ref (qm), .ref (qr), .int (nI (nf)), .int (nI (nc))], mg_ai K qf 6 fa, mg_ai K qm 6 mo, mg_ai K qr 6 rk, mg_ob hM 2 [.ref (qw), .ref (qra), .ref (qo), .ref (qt), .int (nI (nm)), .int (nI (sg))], mg_ai K qw 12 wt, mg_ai K qo 24 ol, mg_ai K qt 24 tl]) rfl rfl (k_Fi_renew l D K hF qtb ql h qf qm qr nf nc hM qw qra qo qt nm sg fa mo rk wt ol tl (fi_all tb (fi_fit wt ol tl fa mo rk nf nc) (2 ^ (2 * nc)) k) k (hF0) (hS) (by omega) (hW8 k hb)) g_Fi_32 ⟨by decide, by decide⟩ ⟨rfl, rfl⟩ rfl rfl rfl hl.1 (rest := []) (As := [.int (nI (k))]) rfl (Nat.le_of_ble_eq_true rfl) d_Fi_renewAll_15 ⟨Nat.zero_le _, Nat.zero_le _⟩ (fun _ => rfl) (fun _ => rfl) rfl ?_
      intro _ H locs hp2 hw
      refine mg_iinc X 21 [(1, .int (nI (k + 1))), (0, .ref (hF))] (k + 1) d_Fi_renewAll_18 hl (k := 1) rfl (mg_inc1 _) (by decide) rfl rfl (fun ls hl => ?_)
      refine mg_goto X 2 d_Fi_renewAll_21 (by decide) ?_
      have hl : lv_has ls 2 [(0, .ref (hF)), (1, .int (nI (k + 1)))] := lv_sub hl [1, 0] rfl
      rw [fi_allS _ _ hw6] at hw
      exact ih2 _ (by omega) (k + 1) rfl (by omega) ls _ _ hl hw
  have hl : lv_has ls 2 [(0, .ref (hF)), (1, .int (nI (0)))] := lv_sub hl [1, 0] rfl
  exact L2 _ 0 rfl (Nat.zero_le _) ls _ _ hl hw
end
section
/-! Sums along the line: rows of numbers and how large they get. -/
theorem su_big : 2 ^ 178 < 1000000000 ^ 6 := by decide +kernel
theorem su_lt {x k : Nat} (h : x ≤ 2 ^ k) (hk : k ≤ 178) : x < 1000000000 ^ 6 := Nat.lt_of_le_of_lt (Nat.le_trans h (Nat.pow_le_pow_right (by decide) hk)) su_big
theorem su_mul {x y a b : Nat} (hx : x ≤ 2 ^ a) (hy : y ≤ 2 ^ b) : x * y ≤ 2 ^ (a + b) := by
  rw [Nat.pow_add]; exact Nat.mul_le_mul hx hy
def su_F (tb : Nat → Nat) (i w : Nat) : Nat := tb (i * 64 + w)
/-- F j up to k, V from there on -/
def su_pt (F V : Nat → Nat) (k : Nat) : Nat → Nat := fun j => if j < k then F j else V j
theorem su_pt0 (F V : Nat → Nat) : su_pt F V 0 = V := by
  funext j; unfold su_pt; rw [if_neg (by omega)]
theorem su_ptS (F V : Nat → Nat) (k : Nat) : va_up (su_pt F V k) k (F k) = su_pt F V (k + 1) := by
  funext j
  by_cases h : j = k
  · subst h; rw [va_up_self]; unfold su_pt; rw [if_pos (by omega)]
  · rw [va_up_ne _ _ h]
    unfold su_pt
    by_cases h1 : j < k
    · rw [if_pos h1, if_pos (by omega)]
    · rw [if_neg h1, if_neg (by omega)]
theorem su_ptk (F V : Nat → Nat) (k : Nat) : su_pt F V k k = V k := by unfold su_pt; rw [if_neg (by omega)]
theorem su_ptl (F V : Nat → Nat) {k j : Nat} (h : j < k) : su_pt F V k j = F j := by unfold su_pt; rw [if_pos h]
theorem su_16 {B : Nat} (hB : B ≤ 6) : 16 ^ B ≤ 2 ^ 24 := by
  have h : 16 ^ B ≤ 16 ^ 6 := Nat.pow_le_pow_right (by decide) hB
  exact Nat.le_trans h (by decide)
theorem su_al_le {B : Nat} {r : Nat → Nat} {F : Nat → Nat → Nat} {N : Nat} (hB : B ≤ 6) (hN : N ≤ 4) (hr : ∀ i, i + 1 < N → r i ≤ 16) (hF : ∀ i w, i < N → w < 2 ^ B → F i w ≤ 2 ^ 18) : ∀ m, m < N → ∀ w, w < 2 ^ B → jn_al B r F m w ≤ 2 ^ (42 * m) := by
  intro m
  induction m with
  | zero => intro _ w _; exact Nat.le_refl _
  | succ m ih =>
    intro hm w hw
    have h1 : jn_cr (r m) B (fun u => jn_al B r F m u * F m u) w ≤ 2 ^ (42 * m + 18) * 16 ^ B := jn_cr_le (hr m hm) hw (fun u hu => su_mul (ih (by omega) u hu) (hF m u (by omega) hu))
    refine Nat.le_trans h1 ?_
    rw [show 42 * (m + 1) = (42 * m + 18) + 24 by omega, Nat.pow_add 2 (42 * m + 18) 24]
    exact Nat.mul_le_mul_left _ (su_16 hB)
theorem su_be_le {B : Nat} {r : Nat → Nat} {F : Nat → Nat → Nat} {N : Nat} (hB : B ≤ 6) (hN : N ≤ 4) (hr : ∀ i, i + 1 < N → r i ≤ 16) (hF : ∀ i w, i < N → w < 2 ^ B → F i w ≤ 2 ^ 18) : ∀ d, d < N → ∀ w, w < 2 ^ B → jn_be B r F (N - 1) d w ≤ 2 ^ (42 * d) := by
  intro d
  induction d with
  | zero => intro _ w _; exact Nat.le_refl _
  | succ d ih =>
    intro hd w hw
    have h1 : jn_cr (r (N - 1 - (d + 1))) B (fun u => jn_be B r F (N - 1) d u * F (N - 1 - d) u) w ≤ 2 ^ (42 * d + 18) * 16 ^ B := jn_cr_le (hr _ (by omega)) hw (fun u hu => su_mul (ih (by omega) u hu) (hF _ u (by omega) hu))
    refine Nat.le_trans h1 ?_
    rw [show 42 * (d + 1) = (42 * d + 18) + 24 by omega, Nat.pow_add 2 (42 * d + 18) 24]
    exact Nat.mul_le_mul_left _ (su_16 hB)
theorem su_sum_le {B : Nat} (hB : B ≤ 6) {f : Nat → Nat} {k : Nat} (h : ∀ w, w < 2 ^ B → f w ≤ 2 ^ k) : ∀ n, n ≤ 2 ^ B → zs_sum n f ≤ 2 ^ (k + 6) := by
  intro n hn
  have h1 : zs_sum n f ≤ zs_sum n (fun _ => 2 ^ k) := zs_le (fun i hi => h i (by omega))
  rw [zs_const] at h1
  have h2 : n ≤ 2 ^ 6 := Nat.le_trans hn (Nat.pow_le_pow_right (by decide) hB)
  refine Nat.le_trans h1 ?_
  rw [Nat.add_comm k 6]
  exact su_mul h2 (Nat.le_refl _)
/-- rates that are tried -/
theorem su_J_le {B : Nat} {r : Nat → Nat} {F : Nat → Nat → Nat} {N : Nat} (hB : B ≤ 6) (hN : N ≤ 4) (h0 : 0 < N) (hr : ∀ i, i + 1 < N → r i ≤ 16) (hF : ∀ i w, i < N → w < 2 ^ B → F i w ≤ 2 ^ 18) : jn_J B r F (N - 1) ≤ 2 ^ 150 := by
  unfold jn_J
  have h1 : ∀ w, w < 2 ^ B → jn_al B r F (N - 1) w * F (N - 1) w ≤ 2 ^ 144 := fun w hw => by
    have a := su_mul (su_al_le hB hN hr hF (N - 1) (by omega) w hw) (hF (N - 1) w (by omega) hw)
    exact Nat.le_trans a (Nat.pow_le_pow_right (by decide) (by omega))
  exact su_sum_le hB h1 _ (Nat.le_refl _)
theorem jn_al_congr {B : Nat} {r r' : Nat → Nat} {F : Nat → Nat → Nat} : ∀ m, (∀ i, i < m → r i = r' i) → ∀ w, jn_al B r F m w = jn_al B r' F m w := by
  intro m
  induction m with
  | zero => intro _ w; rfl
  | succ m ih =>
    intro h w
    show jn_cr (r m) B (fun u => jn_al B r F m u * F m u) w = jn_cr (r' m) B (fun u => jn_al B r' F m u * F m u) w
    rw [h m (by omega), show (fun u => jn_al B r F m u * F m u) = (fun u => jn_al B r' F m u * F m u) from funext (fun u => by rw [ih (fun i hi => h i (by omega)) u])]
/-- blend in range -/
theorem su_bl {r M b B x y : Nat} (hr : r ≤ 16) (hb : b < B) (hx : x ≤ M * 16 ^ b) (hy : y ≤ M * 16 ^ b) (hM : M * 16 ^ B < 1000000000 ^ 6) : (16 - r) * x + r * y < 1000000000 ^ 6 ∧ r * x + (16 - r) * y < 1000000000 ^ 6 := by
  have h1 : M * 16 ^ (b + 1) ≤ M * 16 ^ B := Nat.mul_le_mul_left _ (Nat.pow_le_pow_right (by decide) hb)
  have h2 : M * 16 ^ (b + 1) = 16 * (M * 16 ^ b) := by rw [Nat.pow_succ, Nat.mul_comm 16, Nat.mul_assoc]
  have a1 := Nat.mul_le_mul_left (16 - r) hx
  have a2 := Nat.mul_le_mul_left r hy
  have a3 := Nat.mul_le_mul_left r hx
  have a4 := Nat.mul_le_mul_left (16 - r) hy
  have a5 : (16 - r) * (M * 16 ^ b) + r * (M * 16 ^ b) = 16 * (M * 16 ^ b) := by rw [← Nat.add_mul, Nat.sub_add_cancel hr]
  generalize 1000000000 ^ 6 = Z at hM ⊢
  omega
/-- a part over the whole, by bits from above -/
def su_q (N k q : Nat) : Prop := q ≤ N ∧ N < q + 2 ^ k
theorem su_qy {N k q : Nat} (h : su_q N (k + 1) q) (hy : q + 2 ^ k ≤ N) : su_q N k (q + 2 ^ k) := by
  have := h.2
  rw [Nat.pow_succ] at this
  exact ⟨hy, by omega⟩
theorem su_qn {N k q : Nat} (h : su_q N (k + 1) q) (hn : N < q + 2 ^ k) : su_q N k q := ⟨h.1, hn⟩
theorem su_q0 {N q : Nat} (h : su_q N 0 q) : q = N := by
  have h1 := h.1
  have h2 := h.2
  rw [Nat.pow_zero] at h2
  omega
end
section
/-! Branches on what a comparison answers. -/
section MF
variable {p : Program} {l : Launch} {e : Env} {R : Room} {s : State} {m : MethodId} {args : Array Value} {below : List Frame} {meth : Method} {c : Code} {H : Heap} {locs : List Loc} {cells slots : Nat} {Q : State → Prop}
variable {cc : ByteArray} {nL pc : Nat} {own : String} {ls : Array Slot} {rest : List Value}
theorem mg_cmp_pos {a b : Nat} : 0 < nI (mg_cmp a b) ↔ b < a := by
  unfold mg_cmp
  by_cases h : a < b
  · rw [if_pos h]
    exact ⟨fun q => absurd q (by decide +kernel), fun q => by omega⟩
  · rw [if_neg h]
    by_cases h2 : a = b
    · rw [if_pos h2]
      exact ⟨fun q => absurd q (by decide +kernel), fun q => by omega⟩
    · rw [if_neg h2]
      exact ⟨fun _ => by omega, fun _ => by decide +kernel⟩
theorem mg_cif_gt (X : CallFix p m c cc nL s args mg_T own) (tgt pc' : Nat) {a b : Nat} {off : Int} (hdg : decode cc pc = .ok (.ifCond .gt off, 3)) (ht : (pc : Int) + off = (tgt : Int)) (hq : pc + 3 = pc') (kt : b < a → W p l e R s m args below meth c H locs cells slots Q (F0 m tgt ls rest)) (kf : a ≤ b → W p l e R s m args below meth c H locs cells slots Q (F0 m pc' ls rest)) : W p l e R s m args below meth c H locs cells slots Q (F0 m pc ls (.int (nI (mg_cmp a b)) :: rest)) := by
  subst hq
  exact lv_if_gt X.1 X.2.1 hdg ht (fun h => kt (mg_cmp_pos.mp h)) (fun h => kf (Nat.not_lt.mp (fun q => h (mg_cmp_pos.mpr q))))
theorem mg_cif_le (X : CallFix p m c cc nL s args mg_T own) (tgt pc' : Nat) {a b : Nat} {off : Int} (hdg : decode cc pc = .ok (.ifCond .le off, 3)) (ht : (pc : Int) + off = (tgt : Int)) (hq : pc + 3 = pc') (kt : a ≤ b → W p l e R s m args below meth c H locs cells slots Q (F0 m tgt ls rest)) (kf : b < a → W p l e R s m args below meth c H locs cells slots Q (F0 m pc' ls rest)) : W p l e R s m args below meth c H locs cells slots Q (F0 m pc ls (.int (nI (mg_cmp a b)) :: rest)) := by
  subst hq
  exact lv_if_le X.1 X.2.1 hdg ht (fun h => kt (Nat.not_lt.mp (fun q => absurd (mg_cmp_pos.mpr q) (Int32.not_lt.mpr h)))) (fun h => kf (mg_cmp_pos.mp (Int32.not_le.mp h)))
end MF
/-- the answer of a quotient, NONE where the whole is 0 -/
def su_quot (a n b : Nat) : Nat := if b = 0 then 4294967295 else a * n / b
/-- the first place of the greatest of f 0 .. f (n - 1) -/
def su_am (f : Nat → Nat) : Nat → Nat
  | 0 => 0
  | n + 1 => if f (su_am f n) < f n then n else su_am f n
theorem su_am_lt {f : Nat → Nat} : ∀ {n : Nat}, 0 < n → su_am f n < n := by
  intro n
  induction n with
  | zero => intro h; omega
  | succ n ih =>
    intro _
    show (if f (su_am f n) < f n then n else su_am f n) < n + 1
    by_cases h : f (su_am f n) < f n
    · rw [if_pos h]; omega
    · rw [if_neg h]
      rcases Nat.eq_zero_or_pos n with h2 | h2
      · subst h2; show 0 < 1; omega
      · have := ih h2; omega
theorem su_am1 (f : Nat → Nat) : su_am f 1 = 0 := by
  show (if f 0 < f 0 then 0 else 0) = 0
  rw [if_neg (Nat.lt_irrefl _)]
theorem su_amy {f : Nat → Nat} {n : Nat} (h : f (su_am f n) < f n) : su_am f (n + 1) = n := if_pos h
theorem su_amn {f : Nat → Nat} {n : Nat} (h : f n ≤ f (su_am f n)) : su_am f (n + 1) = su_am f n := if_neg (by omega)
theorem su_am_congr {f g : Nat → Nat} : ∀ n, (∀ i, i < n → f i = g i) → su_am f n = su_am g n := by
  intro n
  induction n with
  | zero => intro _; rfl
  | succ n ih =>
    intro h
    have e := ih (fun i hi => h i (by omega))
    show (if f (su_am f n) < f n then n else su_am f n) = (if g (su_am g n) < g n then n else su_am g n)
    rw [e, h n (by omega)]
    rcases Nat.eq_zero_or_pos n with h2 | h2
    · subst h2
      rw [show su_am g 0 = 0 from rfl, h 0 (by omega)]
    · rw [h (su_am g n) (Nat.lt_trans (su_am_lt h2) (by omega))]
/-- sums over those that are picked -/
noncomputable def su_pick (P : Nat → Prop) (V : Nat → Nat) (n : Nat) : Nat := zs_sum n (fun w => ft_c (P w) * V w)
theorem su_pick_le (P : Nat → Prop) (V : Nat → Nat) (n : Nat) : su_pick P V n ≤ zs_sum n V := zs_le (fun i _ => by
  by_cases h : P i
  · rw [ft_c1 h, Nat.one_mul]; exact Nat.le_refl _
  · rw [ft_c0 h, Nat.zero_mul]; exact Nat.zero_le _)
theorem su_picky {P : Nat → Prop} {V : Nat → Nat} {n : Nat} (h : P n) : su_pick P V (n + 1) = su_pick P V n + V n := by
  show su_pick P V n + ft_c (P n) * V n = _
  rw [ft_c1 h, Nat.one_mul]
theorem su_pickn {P : Nat → Prop} {V : Nat → Nat} {n : Nat} (h : ¬ P n) : su_pick P V (n + 1) = su_pick P V n := by
  show su_pick P V n + ft_c (P n) * V n = _
  rw [ft_c0 h, Nat.zero_mul, Nat.add_zero]
end
section
theorem f_Su_9 : mg_F "LinkedMarkers$Sums" 9 4 0 := ⟨R_Su, T_Su, 8, rfl, by decide, in_Su, rfl, Or.inl (mg_in 148 (by decide +kernel) (by decide +kernel))⟩
theorem g_Su_70 : mg_CV "LinkedMarkers$Sums" 70 y_Fa_ways b_Fa_ways 1 (some .int) 0 := ⟨Or.inl (mg_in 503 (by decide +kernel) (by decide +kernel)), (mg_in 203 (by decide +kernel) (by decide +kernel)), (mg_in 204 (by decide +kernel) (by decide +kernel)), (mg_in 35 (by decide +kernel) (by decide +kernel)), (mg_in 205 (by decide +kernel) (by decide +kernel)), by decide, by decide, by decide +kernel⟩
theorem g_Su_93 : mg_CV "LinkedMarkers$Sums" 93 y_Am_set b_Am_set 5 none 2 := ⟨Or.inl (mg_in 504 (by decide +kernel) (by decide +kernel)), (mg_in 505 (by decide +kernel) (by decide +kernel)), (mg_in 506 (by decide +kernel) (by decide +kernel)), (mg_in 39 (by decide +kernel) (by decide +kernel)), (mg_in 507 (by decide +kernel) (by decide +kernel)), by decide, by decide, by decide +kernel⟩
theorem f_Su_19 : mg_F "LinkedMarkers$Sums" 19 4 2 := ⟨R_Su, T_Su, 8, rfl, by decide, in_Su, rfl, Or.inl (mg_in 150 (by decide +kernel) (by decide +kernel))⟩
theorem g_Su_122 : mg_CV "LinkedMarkers$Sums" 122 y_Fi_at b_Fi_at 3 (some .int) 2 := ⟨Or.inl (mg_in 512 (by decide +kernel) (by decide +kernel)), (mg_in 476 (by decide +kernel) (by decide +kernel)), (mg_in 477 (by decide +kernel) (by decide +kernel)), (mg_in 37 (by decide +kernel) (by decide +kernel)), (mg_in 478 (by decide +kernel) (by decide +kernel)), by decide, by decide, by decide +kernel⟩
theorem g_Su_112 : mg_CV "LinkedMarkers$Sums" 112 y_Am_multiply b_Am_multiply 9 none 2 := ⟨Or.inl (mg_in 513 (by decide +kernel) (by decide +kernel)), (mg_in 514 (by decide +kernel) (by decide +kernel)), (mg_in 515 (by decide +kernel) (by decide +kernel)), (mg_in 39 (by decide +kernel) (by decide +kernel)), (mg_in 516 (by decide +kernel) (by decide +kernel)), by decide, by decide, by decide +kernel⟩
theorem g_Su_127 : mg_CV "LinkedMarkers$Sums" 127 y_Fa_bits b_Fa_bits 1 (some .int) 0 := ⟨Or.inl (mg_in 522 (by decide +kernel) (by decide +kernel)), (mg_in 207 (by decide +kernel) (by decide +kernel)), (mg_in 208 (by decide +kernel) (by decide +kernel)), (mg_in 35 (by decide +kernel) (by decide +kernel)), (mg_in 209 (by decide +kernel) (by decide +kernel)), by decide, by decide, by decide +kernel⟩
theorem f_Su_23 : mg_F "LinkedMarkers$Sums" 23 4 3 := ⟨R_Su, T_Su, 8, rfl, by decide, in_Su, rfl, Or.inl (mg_in 151 (by decide +kernel) (by decide +kernel))⟩
theorem g_Su_130 : mg_CV "LinkedMarkers$Sums" 130 y_Am_blend b_Am_blend 18 none 3 := ⟨Or.inl (mg_in 523 (by decide +kernel) (by decide +kernel)), (mg_in 524 (by decide +kernel) (by decide +kernel)), (mg_in 525 (by decide +kernel) (by decide +kernel)), (mg_in 39 (by decide +kernel) (by decide +kernel)), (mg_in 526 (by decide +kernel) (by decide +kernel)), by decide, by decide, by decide +kernel⟩
theorem f_Su_42 : mg_F "LinkedMarkers$Sums" 42 4 7 := ⟨R_Su, T_Su, 8, rfl, by decide, in_Su, rfl, Or.inl (mg_in 155 (by decide +kernel) (by decide +kernel))⟩
theorem g_Su_96 : mg_CV "LinkedMarkers$Sums" 96 y_Am_add b_Am_add 9 none 3 := ⟨Or.inl (mg_in 531 (by decide +kernel) (by decide +kernel)), (mg_in 532 (by decide +kernel) (by decide +kernel)), (mg_in 533 (by decide +kernel) (by decide +kernel)), (mg_in 39 (by decide +kernel) (by decide +kernel)), (mg_in 534 (by decide +kernel) (by decide +kernel)), by decide, by decide, by decide +kernel⟩
end
section
theorem d_Su_fillWithOnes_0 : decode b_Su_fillWithOnes 0 = .ok (.iconst 0, 1) := by decide +kernel
theorem d_Su_fillWithOnes_1 : decode b_Su_fillWithOnes 1 = .ok (.istore_n 2, 1) := by decide +kernel
theorem d_Su_fillWithOnes_2 : decode b_Su_fillWithOnes 2 = .ok (.iload_n 2, 1) := by decide +kernel
theorem d_Su_fillWithOnes_3 : decode b_Su_fillWithOnes 3 = .ok (.aload_n 0, 1) := by decide +kernel
theorem d_Su_fillWithOnes_4 : decode b_Su_fillWithOnes 4 = .ok (.getfield 9, 3) := by decide +kernel
theorem d_Su_fillWithOnes_7 : decode b_Su_fillWithOnes 7 = .ok (.invokevirtual 70, 3) := by decide +kernel
theorem d_Su_fillWithOnes_10 : decode b_Su_fillWithOnes 10 = .ok (.if_icmp .ge 15, 3) := by decide +kernel
theorem d_Su_fillWithOnes_13 : decode b_Su_fillWithOnes 13 = .ok (.aload_n 1, 1) := by decide +kernel
theorem d_Su_fillWithOnes_14 : decode b_Su_fillWithOnes 14 = .ok (.iload_n 2, 1) := by decide +kernel
theorem d_Su_fillWithOnes_15 : decode b_Su_fillWithOnes 15 = .ok (.iconst 1, 1) := by decide +kernel
theorem d_Su_fillWithOnes_16 : decode b_Su_fillWithOnes 16 = .ok (.invokevirtual 93, 3) := by decide +kernel
theorem d_Su_fillWithOnes_19 : decode b_Su_fillWithOnes 19 = .ok (.iinc 2 1, 3) := by decide +kernel
theorem d_Su_fillWithOnes_22 : decode b_Su_fillWithOnes 22 = .ok (.goto (-20), 3) := by decide +kernel
theorem d_Su_fillWithOnes_25 : decode b_Su_fillWithOnes 25 = .ok (.return_, 1) := by decide +kernel
theorem d_Su_multiplyByFits_0 : decode b_Su_multiplyByFits 0 = .ok (.iconst 0, 1) := by decide +kernel
theorem d_Su_multiplyByFits_1 : decode b_Su_multiplyByFits 1 = .ok (.istore_n 3, 1) := by decide +kernel
theorem d_Su_multiplyByFits_2 : decode b_Su_multiplyByFits 2 = .ok (.iload_n 3, 1) := by decide +kernel
theorem d_Su_multiplyByFits_3 : decode b_Su_multiplyByFits 3 = .ok (.aload_n 0, 1) := by decide +kernel
theorem d_Su_multiplyByFits_4 : decode b_Su_multiplyByFits 4 = .ok (.getfield 9, 3) := by decide +kernel
theorem d_Su_multiplyByFits_7 : decode b_Su_multiplyByFits 7 = .ok (.invokevirtual 70, 3) := by decide +kernel
theorem d_Su_multiplyByFits_10 : decode b_Su_multiplyByFits 10 = .ok (.if_icmp .ge 23, 3) := by decide +kernel
theorem d_Su_multiplyByFits_13 : decode b_Su_multiplyByFits 13 = .ok (.aload_n 1, 1) := by decide +kernel
theorem d_Su_multiplyByFits_14 : decode b_Su_multiplyByFits 14 = .ok (.iload_n 3, 1) := by decide +kernel
theorem d_Su_multiplyByFits_15 : decode b_Su_multiplyByFits 15 = .ok (.aload_n 0, 1) := by decide +kernel
theorem d_Su_multiplyByFits_16 : decode b_Su_multiplyByFits 16 = .ok (.getfield 19, 3) := by decide +kernel
theorem d_Su_multiplyByFits_19 : decode b_Su_multiplyByFits 19 = .ok (.iload_n 2, 1) := by decide +kernel
theorem d_Su_multiplyByFits_20 : decode b_Su_multiplyByFits 20 = .ok (.iload_n 3, 1) := by decide +kernel
theorem d_Su_multiplyByFits_21 : decode b_Su_multiplyByFits 21 = .ok (.invokevirtual 122, 3) := by decide +kernel
theorem d_Su_multiplyByFits_24 : decode b_Su_multiplyByFits 24 = .ok (.invokevirtual 112, 3) := by decide +kernel
theorem d_Su_multiplyByFits_27 : decode b_Su_multiplyByFits 27 = .ok (.iinc 3 1, 3) := by decide +kernel
theorem d_Su_multiplyByFits_30 : decode b_Su_multiplyByFits 30 = .ok (.goto (-28), 3) := by decide +kernel
theorem d_Su_multiplyByFits_33 : decode b_Su_multiplyByFits 33 = .ok (.return_, 1) := by decide +kernel
theorem d_Su_crossGap_0 : decode b_Su_crossGap 0 = .ok (.iconst 0, 1) := by decide +kernel
theorem d_Su_crossGap_1 : decode b_Su_crossGap 1 = .ok (.istore_n 3, 1) := by decide +kernel
theorem d_Su_crossGap_2 : decode b_Su_crossGap 2 = .ok (.iload_n 3, 1) := by decide +kernel
theorem d_Su_crossGap_3 : decode b_Su_crossGap 3 = .ok (.aload_n 0, 1) := by decide +kernel
theorem d_Su_crossGap_4 : decode b_Su_crossGap 4 = .ok (.getfield 9, 3) := by decide +kernel
theorem d_Su_crossGap_7 : decode b_Su_crossGap 7 = .ok (.invokevirtual 127, 3) := by decide +kernel
theorem d_Su_crossGap_10 : decode b_Su_crossGap 10 = .ok (.if_icmp .ge 60, 3) := by decide +kernel
theorem d_Su_crossGap_13 : decode b_Su_crossGap 13 = .ok (.iconst 1, 1) := by decide +kernel
theorem d_Su_crossGap_14 : decode b_Su_crossGap 14 = .ok (.iload_n 3, 1) := by decide +kernel
theorem d_Su_crossGap_15 : decode b_Su_crossGap 15 = .ok (.ishl, 1) := by decide +kernel
theorem d_Su_crossGap_16 : decode b_Su_crossGap 16 = .ok (.istore 4, 2) := by decide +kernel
theorem d_Su_crossGap_18 : decode b_Su_crossGap 18 = .ok (.iconst 0, 1) := by decide +kernel
theorem d_Su_crossGap_19 : decode b_Su_crossGap 19 = .ok (.istore 5, 2) := by decide +kernel
theorem d_Su_crossGap_21 : decode b_Su_crossGap 21 = .ok (.iload 5, 2) := by decide +kernel
theorem d_Su_crossGap_23 : decode b_Su_crossGap 23 = .ok (.aload_n 0, 1) := by decide +kernel
theorem d_Su_crossGap_24 : decode b_Su_crossGap 24 = .ok (.getfield 9, 3) := by decide +kernel
theorem d_Su_crossGap_27 : decode b_Su_crossGap 27 = .ok (.invokevirtual 70, 3) := by decide +kernel
theorem d_Su_crossGap_30 : decode b_Su_crossGap 30 = .ok (.if_icmp .ge 34, 3) := by decide +kernel
theorem d_Su_crossGap_33 : decode b_Su_crossGap 33 = .ok (.iload 5, 2) := by decide +kernel
theorem d_Su_crossGap_35 : decode b_Su_crossGap 35 = .ok (.iload 4, 2) := by decide +kernel
theorem d_Su_crossGap_37 : decode b_Su_crossGap 37 = .ok (.iand, 1) := by decide +kernel
theorem d_Su_crossGap_38 : decode b_Su_crossGap 38 = .ok (.ifCond .ne 20, 3) := by decide +kernel
theorem d_Su_crossGap_41 : decode b_Su_crossGap 41 = .ok (.aload_n 1, 1) := by decide +kernel
theorem d_Su_crossGap_42 : decode b_Su_crossGap 42 = .ok (.iload 5, 2) := by decide +kernel
theorem d_Su_crossGap_44 : decode b_Su_crossGap 44 = .ok (.iload 5, 2) := by decide +kernel
theorem d_Su_crossGap_46 : decode b_Su_crossGap 46 = .ok (.iload 4, 2) := by decide +kernel
theorem d_Su_crossGap_48 : decode b_Su_crossGap 48 = .ok (.ior, 1) := by decide +kernel
theorem d_Su_crossGap_49 : decode b_Su_crossGap 49 = .ok (.aload_n 0, 1) := by decide +kernel
theorem d_Su_crossGap_50 : decode b_Su_crossGap 50 = .ok (.getfield 23, 3) := by decide +kernel
theorem d_Su_crossGap_53 : decode b_Su_crossGap 53 = .ok (.iload_n 2, 1) := by decide +kernel
theorem d_Su_crossGap_54 : decode b_Su_crossGap 54 = .ok (.iaload, 1) := by decide +kernel
theorem d_Su_crossGap_55 : decode b_Su_crossGap 55 = .ok (.invokevirtual 130, 3) := by decide +kernel
theorem d_Su_crossGap_58 : decode b_Su_crossGap 58 = .ok (.iinc 5 1, 3) := by decide +kernel
theorem d_Su_crossGap_61 : decode b_Su_crossGap 61 = .ok (.goto (-40), 3) := by decide +kernel
theorem d_Su_crossGap_64 : decode b_Su_crossGap 64 = .ok (.iinc 3 1, 3) := by decide +kernel
theorem d_Su_crossGap_67 : decode b_Su_crossGap 67 = .ok (.goto (-65), 3) := by decide +kernel
theorem d_Su_crossGap_70 : decode b_Su_crossGap 70 = .ok (.return_, 1) := by decide +kernel
theorem d_Su_addUp_0 : decode b_Su_addUp 0 = .ok (.aload_n 0, 1) := by decide +kernel
theorem d_Su_addUp_1 : decode b_Su_addUp 1 = .ok (.getfield 42, 3) := by decide +kernel
theorem d_Su_addUp_4 : decode b_Su_addUp 4 = .ok (.iload_n 1, 1) := by decide +kernel
theorem d_Su_addUp_5 : decode b_Su_addUp 5 = .ok (.iconst 0, 1) := by decide +kernel
theorem d_Su_addUp_6 : decode b_Su_addUp 6 = .ok (.invokevirtual 93, 3) := by decide +kernel
theorem d_Su_addUp_9 : decode b_Su_addUp 9 = .ok (.iconst 0, 1) := by decide +kernel
theorem d_Su_addUp_10 : decode b_Su_addUp 10 = .ok (.istore_n 3, 1) := by decide +kernel
theorem d_Su_addUp_11 : decode b_Su_addUp 11 = .ok (.iload_n 3, 1) := by decide +kernel
theorem d_Su_addUp_12 : decode b_Su_addUp 12 = .ok (.aload_n 0, 1) := by decide +kernel
theorem d_Su_addUp_13 : decode b_Su_addUp 13 = .ok (.getfield 9, 3) := by decide +kernel
theorem d_Su_addUp_16 : decode b_Su_addUp 16 = .ok (.invokevirtual 70, 3) := by decide +kernel
theorem d_Su_addUp_19 : decode b_Su_addUp 19 = .ok (.if_icmp .ge 19, 3) := by decide +kernel
theorem d_Su_addUp_22 : decode b_Su_addUp 22 = .ok (.aload_n 0, 1) := by decide +kernel
theorem d_Su_addUp_23 : decode b_Su_addUp 23 = .ok (.getfield 42, 3) := by decide +kernel
theorem d_Su_addUp_26 : decode b_Su_addUp 26 = .ok (.iload_n 1, 1) := by decide +kernel
theorem d_Su_addUp_27 : decode b_Su_addUp 27 = .ok (.aload_n 2, 1) := by decide +kernel
theorem d_Su_addUp_28 : decode b_Su_addUp 28 = .ok (.iload_n 3, 1) := by decide +kernel
theorem d_Su_addUp_29 : decode b_Su_addUp 29 = .ok (.invokevirtual 96, 3) := by decide +kernel
theorem d_Su_addUp_32 : decode b_Su_addUp 32 = .ok (.iinc 3 1, 3) := by decide +kernel
theorem d_Su_addUp_35 : decode b_Su_addUp 35 = .ok (.goto (-24), 3) := by decide +kernel
theorem d_Su_addUp_38 : decode b_Su_addUp 38 = .ok (.return_, 1) := by decide +kernel
end
section
set_option maxRecDepth 100000 in
set_option maxHeartbeats 4000000 in
theorem k_Su_fill (l : Launch) (D : va_G) (K : Nat → ClassId) (aS : Nat) (h : Nat) (hM : Nat) (hF : Nat) (qsr : Nat) (aB : Nat) (aE : Nat) (aQ : Nat) (aT : Nat) (qf : Nat) (qm : Nat) (qr : Nat) (nf : Nat) (nc : Nat) (aX : Nat) (qX : Nat) (dX : Nat → Nat) (VX : Nat → Nat) (hnc : nc ≤ 3) (hRX : am_R 64 dX VX) : mg_Mv l D K y_Su_fillWithOnes b_Su_fillWithOnes 3 ({ frames := 3, cells := 0, slots := 0, locals := 60 }) [.ref (aS), .ref (aX)] [mg_ob aS 4 [.ref (h), .ref (hM), .ref (hF), .ref (qsr), .ref (aB), .ref (aE), .ref (aQ), .ref (aT)], mg_ob h 1 [.ref (qf), .ref (qm), .ref (qr), .int (nI (nf)), .int (nI (nc))], mg_ob aX 0 [.ref (qX)], mg_al K qX (64 * 6) dX] (fun (u : (Nat → Nat)) => am_R 64 u (su_pt (fun _ => 1) VX (2 ^ (2 * nc)))) (fun (u : (Nat → Nat)) => [mg_ob aS 4 [.ref (h), .ref (hM), .ref (hF), .ref (qsr), .ref (aB), .ref (aE), .ref (aQ), .ref (aT)], mg_ob h 1 [.ref (qf), .ref (qm), .ref (qr), .int (nI (nf)), .int (nI (nc))], mg_ob aX 0 [.ref (qX)], mg_al K qX (64 * 6) u]) := by
  intro sz
  refine mg_entry (Qc := fun A => va_Qv (fun (u : (Nat → Nat)) => am_R 64 u (su_pt (fun _ => 1) VX (2 ^ (2 * nc)))) (mg_B D A (fun (u : (Nat → Nat)) => [mg_ob aS 4 [.ref (h), .ref (hM), .ref (hF), .ref (qsr), .ref (aB), .ref (aE), .ref (aQ), .ref (aT)], mg_ob h 1 [.ref (qf), .ref (qm), .ref (qr), .int (nI (nf)), .int (nI (nc))], mg_ob aX 0 [.ref (qX)], mg_al K qX (64 * 6) u])) A) (by decide) (Nat.le_of_ble_eq_true rfl) ?_
  intro p e s m args below meth c A ls X hr hlk hnm hA hK hw hl
  have hl : lv_has ls 3 [(0, .ref (aS)), (1, .ref (aX))] := hl
  have hw6 := mg_ways hnc
  rw [← su_pt0 (fun _ => 1) VX] at hRX
  refine mg_iconst X 1 0 d_Su_fillWithOnes_0 mg_ci_0 rfl ?_
  refine mg_istore_n X 2 [(2, .int (nI (0))), (0, .ref (aS)), (1, .ref (aX))] d_Su_fillWithOnes_1 hl (by decide) rfl rfl (fun ls hl => ?_)
  have L2 : ∀ (n0 : Nat) (k : Nat) (u : Nat → Nat), n0 = 2 ^ (2 * nc) - k → (am_R 64 u (su_pt (fun _ => 1) VX k)) → (k ≤ 2 ^ (2 * nc)) → ∀ (ls : Array Slot) (H : Heap) (locs : List Loc), lv_has ls 3 [(0, .ref (aS)), (1, .ref (aX)), (2, .int (nI (k)))] → mg_H D A s.heap H locs [mg_ob aS 4 [.ref (h), .ref (hM), .ref (hF), .ref (qsr), .ref (aB), .ref (aE), .ref (aQ), .ref (aT)], mg_ob h 1 [.ref (qf), .ref (qm), .ref (qr), .int (nI (nf)), .int (nI (nc))], mg_ob aX 0 [.ref (qX)], mg_al K qX (64 * 6) u] → W p l e ({ frames := 3, cells := 0, slots := 0, locals := 60 }) s m args below meth c H locs 0 0 (MQ below (va_Qv (fun (u : (Nat → Nat)) => am_R 64 u (su_pt (fun _ => 1) VX (2 ^ (2 * nc)))) (mg_B D A (fun (u : (Nat → Nat)) => [mg_ob aS 4 [.ref (h), .ref (hM), .ref (hF), .ref (qsr), .ref (aB), .ref (aE), .ref (aQ), .ref (aT)], mg_ob h 1 [.ref (qf), .ref (qm), .ref (qr), .int (nI (nf)), .int (nI (nc))], mg_ob aX 0 [.ref (qX)], mg_al K qX (64 * 6) u])) A) args s 0 0 A) (F0 m 2 ls []) := by
    intro n0
    induction n0 using Nat.strongRecOn with
    | ind n0 ih2 =>
    intro k u hm2 hI hk ls H locs hl hw
    refine mg_iload_n X 3 d_Su_fillWithOnes_2 (lv_at hl 2 rfl) rfl ?_
    refine mg_aload_n X 4 d_Su_fillWithOnes_3 (lv_at hl 0 rfl) rfl ?_
    refine mg_get X hK hw 7 0 0 f_Su_9 rfl rfl d_Su_fillWithOnes_4 rfl ?_
    refine mg_callVi X hK hw hA 10 [1] 1 (fun _ => [mg_ob aS 4 [.ref (h), .ref (hM), .ref (hF), .ref (qsr), .ref (aB), .ref (aE), .ref (aQ), .ref (aT)], mg_ob h 1 [.ref (qf), .ref (qm), .ref (qr), .int (nI (nf)), .int (nI (nc))], mg_ob aX 0 [.ref (qX)], mg_al K qX (64 * 6) u]) rfl rfl (k_Fa_ways l D K h qf qm qr nf nc (by omega)) g_Su_70 ⟨by decide, by decide⟩ ⟨rfl, rfl⟩ rfl rfl rfl hl.1 (rest := [.int (nI (k))]) (As := []) rfl (Nat.le_of_ble_eq_true rfl) d_Su_fillWithOnes_7 ⟨Nat.zero_le _, Nat.zero_le _⟩ (fun _ => rfl) (fun _ => rfl) rfl ?_
    intro r _ H locs hp2 hw
    subst hp2
    refine mg_icmp_ge X 25 13 (by omega) (by omega) d_Su_fillWithOnes_10 (by decide) rfl (fun hb => ?_) (fun hb => ?_)
    · -- pc 10 t
      exact mg_vret X hr hlk (u) (by obtain rfl : k = 2 ^ (2 * nc) := (by omega); exact hI) hw d_Su_fillWithOnes_25
    · -- pc 10 f
      refine mg_aload_n X 14 d_Su_fillWithOnes_13 (lv_at hl 1 rfl) rfl ?_
      refine mg_iload_n X 15 d_Su_fillWithOnes_14 (lv_at hl 2 rfl) rfl ?_
      refine mg_iconst X 16 1 d_Su_fillWithOnes_15 mg_ci_1 rfl ?_
      refine mg_callVv X hK hw hA 19 [2, 3] 2 (fun u3 => [mg_ob aS 4 [.ref (h), .ref (hM), .ref (hF), .ref (qsr), .ref (aB), .ref (aE), .ref (aQ), .ref (aT)], mg_ob h 1 [.ref (qf), .ref (qm), .ref (qr), .int (nI (nf)), .int (nI (nc))], mg_ob aX 0 [.ref (qX)], mg_al K qX (64 * 6) u3]) rfl rfl (k_Am_set l D K aX qX 64 k 1 u (su_pt (fun _ => 1) VX k) (by omega) (hI) (by omega) (by omega)) g_Su_93 ⟨by decide, by decide⟩ ⟨rfl, rfl⟩ rfl rfl rfl hl.1 (rest := []) (As := [.int (nI (k)), .int (nI (1))]) rfl (Nat.le_of_ble_eq_true rfl) d_Su_fillWithOnes_16 ⟨Nat.zero_le _, Nat.zero_le _⟩ (fun _ => rfl) (fun _ => rfl) rfl ?_
      intro u3 H locs hp4 hw
      refine mg_iinc X 22 [(2, .int (nI (k + 1))), (0, .ref (aS)), (1, .ref (aX))] (k + 1) d_Su_fillWithOnes_19 hl (k := 2) rfl (mg_inc1 _) (by decide) rfl rfl (fun ls hl => ?_)
      refine mg_goto X 2 d_Su_fillWithOnes_22 (by decide) ?_
      have hl : lv_has ls 3 [(0, .ref (aS)), (1, .ref (aX)), (2, .int (nI (k + 1)))] := lv_sub hl [1, 2, 0] rfl
      exact ih2 _ (by omega) (k + 1) u3 rfl (by rw [← su_ptS]; exact hp4) (by omega) ls _ _ hl hw
  have hl : lv_has ls 3 [(0, .ref (aS)), (1, .ref (aX)), (2, .int (nI (0)))] := lv_sub hl [1, 2, 0] rfl
  exact L2 _ 0 dX rfl (hRX) (Nat.zero_le _) ls _ _ hl hw

set_option maxRecDepth 100000 in
set_option maxHeartbeats 4000000 in
theorem k_Su_multiplyByFits (l : Launch) (D : va_G) (K : Nat → ClassId) (aS : Nat) (h : Nat) (hM : Nat) (hF : Nat) (qsr : Nat) (aB : Nat) (aE : Nat) (aQ : Nat) (aT : Nat) (qf : Nat) (qm : Nat) (qr : Nat) (nf : Nat) (nc : Nat) (qtb : Nat) (ql : Nat) (aX : Nat) (qX : Nat) (mk : Nat) (dX : Nat → Nat) (VX : Nat → Nat) (tb : Nat → Nat) (hnc : nc ≤ 3) (hRX : am_R 64 dX VX) (hm : mk < 4) (hTb : ∀ j, j < 2 ^ (2 * nc) → tb (mk * 64 + j) ≤ 2 ^ 18) (hV : ∀ j, j < 2 ^ (2 * nc) → VX j * tb (mk * 64 + j) < 1000000000 ^ 6) : mg_Mv l D K y_Su_multiplyByFits b_Su_multiplyByFits 4 ({ frames := 3, cells := 0, slots := 0, locals := 60 }) [.ref (aS), .ref (aX), .int (nI (mk))] [mg_ob aS 4 [.ref (h), .ref (hM), .ref (hF), .ref (qsr), .ref (aB), .ref (aE), .ref (aQ), .ref (aT)], mg_ob h 1 [.ref (qf), .ref (qm), .ref (qr), .int (nI (nf)), .int (nI (nc))], mg_ob hF 3 [.ref (h), .ref (hM), .ref (qtb), .ref (ql)], mg_ai K qtb 256 tb, mg_ob aX 0 [.ref (qX)], mg_al K qX (64 * 6) dX] (fun (u : (Nat → Nat)) => am_R 64 u (su_pt (fun j => VX j * tb (mk * 64 + j)) VX (2 ^ (2 * nc)))) (fun (u : (Nat → Nat)) => [mg_ob aS 4 [.ref (h), .ref (hM), .ref (hF), .ref (qsr), .ref (aB), .ref (aE), .ref (aQ), .ref (aT)], mg_ob h 1 [.ref (qf), .ref (qm), .ref (qr), .int (nI (nf)), .int (nI (nc))], mg_ob hF 3 [.ref (h), .ref (hM), .ref (qtb), .ref (ql)], mg_ai K qtb 256 tb, mg_ob aX 0 [.ref (qX)], mg_al K qX (64 * 6) u]) := by
  intro sz
  refine mg_entry (Qc := fun A => va_Qv (fun (u : (Nat → Nat)) => am_R 64 u (su_pt (fun j => VX j * tb (mk * 64 + j)) VX (2 ^ (2 * nc)))) (mg_B D A (fun (u : (Nat → Nat)) => [mg_ob aS 4 [.ref (h), .ref (hM), .ref (hF), .ref (qsr), .ref (aB), .ref (aE), .ref (aQ), .ref (aT)], mg_ob h 1 [.ref (qf), .ref (qm), .ref (qr), .int (nI (nf)), .int (nI (nc))], mg_ob hF 3 [.ref (h), .ref (hM), .ref (qtb), .ref (ql)], mg_ai K qtb 256 tb, mg_ob aX 0 [.ref (qX)], mg_al K qX (64 * 6) u])) A) (by decide) (Nat.le_of_ble_eq_true rfl) ?_
  intro p e s m args below meth c A ls X hr hlk hnm hA hK hw hl
  have hl : lv_has ls 4 [(0, .ref (aS)), (1, .ref (aX)), (2, .int (nI (mk)))] := hl
  have hw6 := mg_ways hnc
  rw [← su_pt0 (fun j => VX j * tb (mk * 64 + j)) VX] at hRX
  refine mg_iconst X 1 0 d_Su_multiplyByFits_0 mg_ci_0 rfl ?_
  refine mg_istore_n X 2 [(3, .int (nI (0))), (0, .ref (aS)), (1, .ref (aX)), (2, .int (nI (mk)))] d_Su_multiplyByFits_1 hl (by decide) rfl rfl (fun ls hl => ?_)
  have L2 : ∀ (n0 : Nat) (k : Nat) (u : Nat → Nat), n0 = 2 ^ (2 * nc) - k → (am_R 64 u (su_pt (fun j => VX j * tb (mk * 64 + j)) VX k)) → (k ≤ 2 ^ (2 * nc)) → ∀ (ls : Array Slot) (H : Heap) (locs : List Loc), lv_has ls 4 [(0, .ref (aS)), (1, .ref (aX)), (2, .int (nI (mk))), (3, .int (nI (k)))] → mg_H D A s.heap H locs [mg_ob aS 4 [.ref (h), .ref (hM), .ref (hF), .ref (qsr), .ref (aB), .ref (aE), .ref (aQ), .ref (aT)], mg_ob h 1 [.ref (qf), .ref (qm), .ref (qr), .int (nI (nf)), .int (nI (nc))], mg_ob hF 3 [.ref (h), .ref (hM), .ref (qtb), .ref (ql)], mg_ai K qtb 256 tb, mg_ob aX 0 [.ref (qX)], mg_al K qX (64 * 6) u] → W p l e ({ frames := 3, cells := 0, slots := 0, locals := 60 }) s m args below meth c H locs 0 0 (MQ below (va_Qv (fun (u : (Nat → Nat)) => am_R 64 u (su_pt (fun j => VX j * tb (mk * 64 + j)) VX (2 ^ (2 * nc)))) (mg_B D A (fun (u : (Nat → Nat)) => [mg_ob aS 4 [.ref (h), .ref (hM), .ref (hF), .ref (qsr), .ref (aB), .ref (aE), .ref (aQ), .ref (aT)], mg_ob h 1 [.ref (qf), .ref (qm), .ref (qr), .int (nI (nf)), .int (nI (nc))], mg_ob hF 3 [.ref (h), .ref (hM), .ref (qtb), .ref (ql)], mg_ai K qtb 256 tb, mg_ob aX 0 [.ref (qX)], mg_al K qX (64 * 6) u])) A) args s 0 0 A) (F0 m 2 ls []) := by
    intro n0
    induction n0 using Nat.strongRecOn with
    | ind n0 ih2 =>
    intro k u hm2 hI hk ls H locs hl hw
    refine mg_iload_n X 3 d_Su_multiplyByFits_2 (lv_at hl 3 rfl) rfl ?_
    refine mg_aload_n X 4 d_Su_multiplyByFits_3 (lv_at hl 0 rfl) rfl ?_
    refine mg_get X hK hw 7 0 0 f_Su_9 rfl rfl d_Su_multiplyByFits_4 rfl ?_
    refine mg_callVi X hK hw hA 10 [1] 1 (fun _ => [mg_ob aS 4 [.ref (h), .ref (hM), .ref (hF), .ref (qsr), .ref (aB), .ref (aE), .ref (aQ), .ref (aT)], mg_ob h 1 [.ref (qf), .ref (qm), .ref (qr), .int (nI (nf)), .int (nI (nc))], mg_ob hF 3 [.ref (h), .ref (hM), .ref (qtb), .ref (ql)], mg_ai K qtb 256 tb, mg_ob aX 0 [.ref (qX)], mg_al K qX (64 * 6) u]) rfl rfl (k_Fa_ways l D K h qf qm qr nf nc (by omega)) g_Su_70 ⟨by decide, by decide⟩ ⟨rfl, rfl⟩ rfl rfl rfl hl.1 (rest := [.int (nI (k))]) (As := []) rfl (Nat.le_of_ble_eq_true rfl) d_Su_multiplyByFits_7 ⟨Nat.zero_le _, Nat.zero_le _⟩ (fun _ => rfl) (fun _ => rfl) rfl ?_
    intro r _ H locs hp2 hw
    subst hp2
    refine mg_icmp_ge X 33 13 (by omega) (by omega) d_Su_multiplyByFits_10 (by decide) rfl (fun hb => ?_) (fun hb => ?_)
    · -- pc 10 t
      exact mg_vret X hr hlk (u) (by obtain rfl : k = 2 ^ (2 * nc) := (by omega); exact hI) hw d_Su_multiplyByFits_33
    · -- pc 10 f
      refine mg_aload_n X 14 d_Su_multiplyByFits_13 (lv_at hl 1 rfl) rfl ?_
      refine mg_iload_n X 15 d_Su_multiplyByFits_14 (lv_at hl 3 rfl) rfl ?_
      refine mg_aload_n X 16 d_Su_multiplyByFits_15 (lv_at hl 0 rfl) rfl ?_
      refine mg_get X hK hw 19 0 2 f_Su_19 rfl rfl d_Su_multiplyByFits_16 rfl ?_
      refine mg_iload_n X 20 d_Su_multiplyByFits_19 (lv_at hl 2 rfl) rfl ?_
      refine mg_iload_n X 21 d_Su_multiplyByFits_20 (lv_at hl 3 rfl) rfl ?_
      refine mg_callVi X hK hw hA 24 [2, 3] 2 (fun _ => [mg_ob aS 4 [.ref (h), .ref (hM), .ref (hF), .ref (qsr), .ref (aB), .ref (aE), .ref (aQ), .ref (aT)], mg_ob h 1 [.ref (qf), .ref (qm), .ref (qr), .int (nI (nf)), .int (nI (nc))], mg_ob hF 3 [.ref (h), .ref (hM), .ref (qtb), .ref (ql)], mg_ai K qtb 256 tb, mg_ob aX 0 [.ref (qX)], mg_al K qX (64 * 6) u]) rfl rfl (k_Fi_at l D K hF qtb ql h hM mk k tb (by omega) (by omega)) g_Su_122 ⟨by decide, by decide⟩ ⟨rfl, rfl⟩ rfl rfl rfl hl.1 (rest := [.int (nI (k)), .ref (aX)]) (As := [.int (nI (mk)), .int (nI (k))]) rfl (Nat.le_of_ble_eq_true rfl) d_Su_multiplyByFits_21 ⟨Nat.zero_le _, Nat.zero_le _⟩ (fun _ => rfl) (fun _ => rfl) rfl ?_
      intro r _ H locs hp4 hw
      subst hp4
      refine mg_callVv X hK hw hA 27 [4, 5] 4 (fun u5 => [mg_ob aS 4 [.ref (h), .ref (hM), .ref (hF), .ref (qsr), .ref (aB), .ref (aE), .ref (aQ), .ref (aT)], mg_ob h 1 [.ref (qf), .ref (qm), .ref (qr), .int (nI (nf)), .int (nI (nc))], mg_ob hF 3 [.ref (h), .ref (hM), .ref (qtb), .ref (ql)], mg_ai K qtb 256 tb, mg_ob aX 0 [.ref (qX)], mg_al K qX (64 * 6) u5]) rfl rfl (k_Am_multiply l D K aX qX 64 k (tb (mk * 64 + k)) u (su_pt (fun j => VX j * tb (mk * 64 + j)) VX k) (by omega) (hI) (by omega) (Nat.lt_of_le_of_lt (hTb k hb) (by decide)) (by rw [su_ptk]; exact hV k hb)) g_Su_112 ⟨by decide, by decide⟩ ⟨rfl, rfl⟩ rfl rfl rfl hl.1 (rest := []) (As := [.int (nI (k)), .int (nI (tb (mk * 64 + k)))]) rfl (Nat.le_of_ble_eq_true rfl) d_Su_multiplyByFits_24 ⟨Nat.zero_le _, Nat.zero_le _⟩ (fun _ => rfl) (fun _ => rfl) rfl ?_
      intro u5 H locs hp6 hw
      refine mg_iinc X 30 [(3, .int (nI (k + 1))), (0, .ref (aS)), (1, .ref (aX)), (2, .int (nI (mk)))] (k + 1) d_Su_multiplyByFits_27 hl (k := 3) rfl (mg_inc1 _) (by decide) rfl rfl (fun ls hl => ?_)
      refine mg_goto X 2 d_Su_multiplyByFits_30 (by decide) ?_
      have hl : lv_has ls 4 [(0, .ref (aS)), (1, .ref (aX)), (2, .int (nI (mk))), (3, .int (nI (k + 1)))] := lv_sub hl [1, 2, 3, 0] rfl
      exact ih2 _ (by omega) (k + 1) u5 rfl (by rw [← su_ptS]; have h9 := hp6; rw [su_ptk] at h9; exact h9) (by omega) ls _ _ hl hw
  have hl : lv_has ls 4 [(0, .ref (aS)), (1, .ref (aX)), (2, .int (nI (mk))), (3, .int (nI (0)))] := lv_sub hl [1, 2, 3, 0] rfl
  exact L2 _ 0 dX rfl (hRX) (Nat.zero_le _) ls _ _ hl hw

set_option maxRecDepth 100000 in
set_option maxHeartbeats 4000000 in
theorem k_Su_crossGap (l : Launch) (D : va_G) (K : Nat → ClassId) (aS : Nat) (h : Nat) (hM : Nat) (hF : Nat) (qsr : Nat) (aB : Nat) (aE : Nat) (aQ : Nat) (aT : Nat) (qf : Nat) (qm : Nat) (qr : Nat) (nf : Nat) (nc : Nat) (aX : Nat) (qX : Nat) (g : Nat) (Mx : Nat) (dX : Nat → Nat) (VX : Nat → Nat) (sr : Nat → Nat) (f : Nat → Nat) (hnc : nc ≤ 3) (hRX : am_R 64 dX VX) (hg : g < 3) (hsr : sr g ≤ 16) (hf : ∀ j, j < 2 ^ (2 * nc) → VX j = f j) (hMx : ∀ j, j < 2 ^ (2 * nc) → f j ≤ Mx) (hM2 : Mx * 16 ^ (2 * nc) < 1000000000 ^ 6) : mg_Mv l D K y_Su_crossGap b_Su_crossGap 6 ({ frames := 3, cells := 0, slots := 0, locals := 60 }) [.ref (aS), .ref (aX), .int (nI (g))] [mg_ob aS 4 [.ref (h), .ref (hM), .ref (hF), .ref (qsr), .ref (aB), .ref (aE), .ref (aQ), .ref (aT)], mg_ob h 1 [.ref (qf), .ref (qm), .ref (qr), .int (nI (nf)), .int (nI (nc))], mg_ai K qsr 3 sr, mg_ob aX 0 [.ref (qX)], mg_al K qX (64 * 6) dX] (fun (uu : (Nat → Nat) × (Nat → Nat)) => am_R 64 uu.1 uu.2 ∧ ∀ j, j < 2 ^ (2 * nc) → uu.2 j = jn_cr (sr g) (2 * nc) f j) (fun (uu : (Nat → Nat) × (Nat → Nat)) => [mg_ob aS 4 [.ref (h), .ref (hM), .ref (hF), .ref (qsr), .ref (aB), .ref (aE), .ref (aQ), .ref (aT)], mg_ob h 1 [.ref (qf), .ref (qm), .ref (qr), .int (nI (nf)), .int (nI (nc))], mg_ai K qsr 3 sr, mg_ob aX 0 [.ref (qX)], mg_al K qX (64 * 6) uu.1]) := by
  intro sz
  refine mg_entry (Qc := fun A => va_Qv (fun (uu : (Nat → Nat) × (Nat → Nat)) => am_R 64 uu.1 uu.2 ∧ ∀ j, j < 2 ^ (2 * nc) → uu.2 j = jn_cr (sr g) (2 * nc) f j) (mg_B D A (fun (uu : (Nat → Nat) × (Nat → Nat)) => [mg_ob aS 4 [.ref (h), .ref (hM), .ref (hF), .ref (qsr), .ref (aB), .ref (aE), .ref (aQ), .ref (aT)], mg_ob h 1 [.ref (qf), .ref (qm), .ref (qr), .int (nI (nf)), .int (nI (nc))], mg_ai K qsr 3 sr, mg_ob aX 0 [.ref (qX)], mg_al K qX (64 * 6) uu.1])) A) (by decide) (Nat.le_of_ble_eq_true rfl) ?_
  intro p e s m args below meth c A ls X hr hlk hnm hA hK hw hl
  have hl : lv_has ls 6 [(0, .ref (aS)), (1, .ref (aX)), (2, .int (nI (g)))] := hl
  have hw6 := mg_ways hnc
  refine mg_iconst X 1 0 d_Su_crossGap_0 mg_ci_0 rfl ?_
  refine mg_istore_n X 2 [(3, .int (nI (0))), (0, .ref (aS)), (1, .ref (aX)), (2, .int (nI (g)))] d_Su_crossGap_1 hl (by decide) rfl rfl (fun ls hl => ?_)
  have L2 : ∀ (n0 : Nat) (b : Nat) (u : Nat → Nat) (V : Nat → Nat), n0 = 2 * nc - b → (am_R 64 u V) → (b ≤ 2 * nc) → (∀ j, j < 2 ^ (2 * nc) → V j = jn_ps (sr g) b f j) → ∀ (ls : Array Slot) (H : Heap) (locs : List Loc), lv_has ls 6 [(0, .ref (aS)), (1, .ref (aX)), (2, .int (nI (g))), (3, .int (nI (b)))] → mg_H D A s.heap H locs [mg_ob aS 4 [.ref (h), .ref (hM), .ref (hF), .ref (qsr), .ref (aB), .ref (aE), .ref (aQ), .ref (aT)], mg_ob h 1 [.ref (qf), .ref (qm), .ref (qr), .int (nI (nf)), .int (nI (nc))], mg_ai K qsr 3 sr, mg_ob aX 0 [.ref (qX)], mg_al K qX (64 * 6) u] → W p l e ({ frames := 3, cells := 0, slots := 0, locals := 60 }) s m args below meth c H locs 0 0 (MQ below (va_Qv (fun (uu : (Nat → Nat) × (Nat → Nat)) => am_R 64 uu.1 uu.2 ∧ ∀ j, j < 2 ^ (2 * nc) → uu.2 j = jn_cr (sr g) (2 * nc) f j) (mg_B D A (fun (uu : (Nat → Nat) × (Nat → Nat)) => [mg_ob aS 4 [.ref (h), .ref (hM), .ref (hF), .ref (qsr), .ref (aB), .ref (aE), .ref (aQ), .ref (aT)], mg_ob h 1 [.ref (qf), .ref (qm), .ref (qr), .int (nI (nf)), .int (nI (nc))], mg_ai K qsr 3 sr, mg_ob aX 0 [.ref (qX)], mg_al K qX (64 * 6) uu.1])) A) args s 0 0 A) (F0 m 2 ls []) := by
    intro n0
    induction n0 using Nat.strongRecOn with
    | ind n0 ih2 =>
    intro b u V hm2 hI hb0 hJ ls H locs hl hw
    refine mg_iload_n X 3 d_Su_crossGap_2 (lv_at hl 3 rfl) rfl ?_
    refine mg_aload_n X 4 d_Su_crossGap_3 (lv_at hl 0 rfl) rfl ?_
    refine mg_get X hK hw 7 0 0 f_Su_9 rfl rfl d_Su_crossGap_4 rfl ?_
    refine mg_callVi X hK hw hA 10 [1] 1 (fun _ => [mg_ob aS 4 [.ref (h), .ref (hM), .ref (hF), .ref (qsr), .ref (aB), .ref (aE), .ref (aQ), .ref (aT)], mg_ob h 1 [.ref (qf), .ref (qm), .ref (qr), .int (nI (nf)), .int (nI (nc))], mg_ai K qsr 3 sr, mg_ob aX 0 [.ref (qX)], mg_al K qX (64 * 6) u]) rfl rfl (k_Fa_bits l D K h qf qm qr nf nc ) g_Su_127 ⟨by decide, by decide⟩ ⟨rfl, rfl⟩ rfl rfl rfl hl.1 (rest := [.int (nI (b))]) (As := []) rfl (Nat.le_of_ble_eq_true rfl) d_Su_crossGap_7 ⟨Nat.zero_le _, Nat.zero_le _⟩ (fun _ => rfl) (fun _ => rfl) rfl ?_
    intro r _ H locs hp2 hw
    subst hp2
    refine mg_icmp_ge X 70 13 (by omega) (by omega) d_Su_crossGap_10 (by decide) rfl (fun hb => ?_) (fun hb => ?_)
    · -- pc 10 t
      exact mg_vret X hr hlk ((u, V)) (⟨hI, fun j hj => by show V j = _; rw [hJ j hj, show b = 2 * nc by omega]; exact jn_ps_eq _ _ _ _⟩) hw d_Su_crossGap_70
    · -- pc 10 f
      refine mg_iconst X 14 1 d_Su_crossGap_13 mg_ci_1 rfl ?_
      refine mg_iload_n X 15 d_Su_crossGap_14 (lv_at hl 3 rfl) rfl ?_
      refine mg_ishl X 16 ((nI (2 ^ b))) d_Su_crossGap_15 (mg_shl (by omega)) rfl ?_
      refine mg_istore X 18 [(4, .int (nI (2 ^ b))), (0, .ref (aS)), (1, .ref (aX)), (2, .int (nI (g))), (3, .int (nI (b)))] d_Su_crossGap_16 hl (by decide) rfl rfl (fun ls hl => ?_)
      refine mg_iconst X 19 0 d_Su_crossGap_18 mg_ci_0 rfl ?_
      refine mg_istore X 21 [(5, .int (nI (0))), (4, .int (nI (2 ^ b))), (0, .ref (aS)), (1, .ref (aX)), (2, .int (nI (g))), (3, .int (nI (b)))] d_Su_crossGap_19 hl (by decide) rfl rfl (fun ls hl => ?_)
      have L21 : ∀ (n0 : Nat) (w : Nat) (u2 : Nat → Nat) (V2 : Nat → Nat), n0 = 2 ^ (2 * nc) - w → (am_R 64 u2 V2) → (w ≤ 2 ^ (2 * nc)) → (cg_I (sr g) b (2 * nc) w V V2) → ∀ (ls : Array Slot) (H : Heap) (locs : List Loc), lv_has ls 6 [(0, .ref (aS)), (1, .ref (aX)), (2, .int (nI (g))), (3, .int (nI (b))), (4, .int (nI (2 ^ b))), (5, .int (nI (w)))] → mg_H D A s.heap H locs [mg_ob aS 4 [.ref (h), .ref (hM), .ref (hF), .ref (qsr), .ref (aB), .ref (aE), .ref (aQ), .ref (aT)], mg_ob h 1 [.ref (qf), .ref (qm), .ref (qr), .int (nI (nf)), .int (nI (nc))], mg_ai K qsr 3 sr, mg_ob aX 0 [.ref (qX)], mg_al K qX (64 * 6) u2] → W p l e ({ frames := 3, cells := 0, slots := 0, locals := 60 }) s m args below meth c H locs 0 0 (MQ below (va_Qv (fun (uu : (Nat → Nat) × (Nat → Nat)) => am_R 64 uu.1 uu.2 ∧ ∀ j, j < 2 ^ (2 * nc) → uu.2 j = jn_cr (sr g) (2 * nc) f j) (mg_B D A (fun (uu : (Nat → Nat) × (Nat → Nat)) => [mg_ob aS 4 [.ref (h), .ref (hM), .ref (hF), .ref (qsr), .ref (aB), .ref (aE), .ref (aQ), .ref (aT)], mg_ob h 1 [.ref (qf), .ref (qm), .ref (qr), .int (nI (nf)), .int (nI (nc))], mg_ai K qsr 3 sr, mg_ob aX 0 [.ref (qX)], mg_al K qX (64 * 6) uu.1])) A) args s 0 0 A) (F0 m 21 ls []) := by
        intro n0
        induction n0 using Nat.strongRecOn with
        | ind n0 ih21 =>
        intro w u2 V2 hm21 hI2 hw0 hG ls H locs hl hw
        refine mg_iload X 23 d_Su_crossGap_21 (lv_at hl 5 rfl) rfl ?_
        refine mg_aload_n X 24 d_Su_crossGap_23 (lv_at hl 0 rfl) rfl ?_
        refine mg_get X hK hw 27 0 0 f_Su_9 rfl rfl d_Su_crossGap_24 rfl ?_
        refine mg_callVi X hK hw hA 30 [1] 1 (fun _ => [mg_ob aS 4 [.ref (h), .ref (hM), .ref (hF), .ref (qsr), .ref (aB), .ref (aE), .ref (aQ), .ref (aT)], mg_ob h 1 [.ref (qf), .ref (qm), .ref (qr), .int (nI (nf)), .int (nI (nc))], mg_ai K qsr 3 sr, mg_ob aX 0 [.ref (qX)], mg_al K qX (64 * 6) u2]) rfl rfl (k_Fa_ways l D K h qf qm qr nf nc (by omega)) g_Su_70 ⟨by decide, by decide⟩ ⟨rfl, rfl⟩ rfl rfl rfl hl.1 (rest := [.int (nI (w))]) (As := []) rfl (Nat.le_of_ble_eq_true rfl) d_Su_crossGap_27 ⟨Nat.zero_le _, Nat.zero_le _⟩ (fun _ => rfl) (fun _ => rfl) rfl ?_
        intro r _ H locs hp4 hw
        subst hp4
        refine mg_icmp_ge X 64 33 (by omega) (by omega) d_Su_crossGap_30 (by decide) rfl (fun hc => ?_) (fun hc => ?_)
        · -- pc 30 t
          refine mg_iinc X 67 [(3, .int (nI (b + 1))), (0, .ref (aS)), (1, .ref (aX)), (2, .int (nI (g))), (4, .int (nI (2 ^ b))), (5, .int (nI (w)))] (b + 1) d_Su_crossGap_64 hl (k := 3) rfl (mg_inc1 _) (by decide) rfl rfl (fun ls hl => ?_)
          refine mg_goto X 2 d_Su_crossGap_67 (by decide) ?_
          have hl : lv_has ls 6 [(0, .ref (aS)), (1, .ref (aX)), (2, .int (nI (g))), (3, .int (nI (b + 1)))] := lv_sub hl [1, 2, 3, 0] rfl
          exact ih2 _ (by omega) (b + 1) u2 V2 rfl (hI2) (by omega) (cg_bits hb hJ (cg_end (by rw [← show w = 2 ^ (2 * nc) by omega]; exact hG) hb)) ls _ _ hl hw
        · -- pc 30 f
          refine mg_iload X 35 d_Su_crossGap_33 (lv_at hl 5 rfl) rfl ?_
          refine mg_iload X 37 d_Su_crossGap_35 (lv_at hl 4 rfl) rfl ?_
          refine mg_iand X 38 ((nI (w &&& (2 ^ b)))) d_Su_crossGap_37 (mg_and _ _) rfl ?_
          refine mg_if_ne X 58 41 (Nat.lt_of_le_of_lt Nat.and_le_left (by omega)) d_Su_crossGap_38 (by decide) rfl (fun ha => ?_) (fun ha => ?_)
          · -- pc 38 t
            have hbit : w.testBit b = true := by cases hx9 : w.testBit b with | true => rfl | false => exact absurd (mg_andp.mpr hx9) ha
            refine mg_iinc X 61 [(5, .int (nI (w + 1))), (0, .ref (aS)), (1, .ref (aX)), (2, .int (nI (g))), (3, .int (nI (b))), (4, .int (nI (2 ^ b)))] (w + 1) d_Su_crossGap_58 hl (k := 5) rfl (mg_inc1 _) (by decide) rfl rfl (fun ls hl => ?_)
            refine mg_goto X 21 d_Su_crossGap_61 (by decide) ?_
            have hl : lv_has ls 6 [(0, .ref (aS)), (1, .ref (aX)), (2, .int (nI (g))), (3, .int (nI (b))), (4, .int (nI (2 ^ b))), (5, .int (nI (w + 1)))] := lv_sub hl [1, 2, 3, 4, 5, 0] rfl
            exact ih21 _ (by omega) (w + 1) u2 V2 rfl (hI2) (by omega) (cg_skip hG hbit) ls _ _ hl hw
          · -- pc 38 f
            have hbit : w.testBit b = false := mg_andp.mp ha
            have hup : w ^^^ 2 ^ b < 2 ^ (2 * nc) := Nat.xor_lt_two_pow hc (Nat.pow_lt_pow_right (by decide) hb)
            have hx1 : V2 w ≤ Mx * 16 ^ b := by rw [hG w hc, if_neg (by rw [cg_lo_self hbit]; omega), hJ w hc]; exact cg_ps_le hsr hMx b (by omega) w hc
            have hx2 : V2 (w ^^^ 2 ^ b) ≤ Mx * 16 ^ b := by rw [hG _ hup, if_neg (by rw [cg_lo_up hbit]; omega), hJ _ hup]; exact cg_ps_le hsr hMx b (by omega) _ hup
            have hx3 := su_bl hsr hb hx1 hx2 hM2
            rw [← mg_orx hbit] at hup hx3
            refine mg_aload_n X 42 d_Su_crossGap_41 (lv_at hl 1 rfl) rfl ?_
            refine mg_iload X 44 d_Su_crossGap_42 (lv_at hl 5 rfl) rfl ?_
            refine mg_iload X 46 d_Su_crossGap_44 (lv_at hl 5 rfl) rfl ?_
            refine mg_iload X 48 d_Su_crossGap_46 (lv_at hl 4 rfl) rfl ?_
            refine mg_ior X 49 ((nI (w ||| (2 ^ b)))) d_Su_crossGap_48 (mg_or _ _) rfl ?_
            refine mg_aload_n X 50 d_Su_crossGap_49 (lv_at hl 0 rfl) rfl ?_
            refine mg_get X hK hw 53 0 3 f_Su_23 rfl rfl d_Su_crossGap_50 rfl ?_
            refine mg_iload_n X 54 d_Su_crossGap_53 (lv_at hl 2 rfl) rfl ?_
            refine mg_iald X hK hw 55 2 rfl (by omega) (by omega) d_Su_crossGap_54 rfl ?_
            refine mg_callVv X hK hw hA 58 [3, 4] 3 (fun u5 => [mg_ob aS 4 [.ref (h), .ref (hM), .ref (hF), .ref (qsr), .ref (aB), .ref (aE), .ref (aQ), .ref (aT)], mg_ob h 1 [.ref (qf), .ref (qm), .ref (qr), .int (nI (nf)), .int (nI (nc))], mg_ai K qsr 3 sr, mg_ob aX 0 [.ref (qX)], mg_al K qX (64 * 6) u5]) rfl rfl (k_Am_blend l D K aX qX 64 w (w ||| (2 ^ b)) (sr g) u2 V2 (by omega) (hI2) (by omega) (by omega) (by rw [mg_orx hbit]; exact cg_up_ne) (hsr) (hx3.1) (hx3.2)) g_Su_130 ⟨by decide, by decide⟩ ⟨rfl, rfl⟩ rfl rfl rfl hl.1 (rest := []) (As := [.int (nI (w)), .int (nI (w ||| (2 ^ b))), .int (nI (sr g))]) rfl (Nat.le_of_ble_eq_true rfl) d_Su_crossGap_55 ⟨Nat.zero_le _, Nat.zero_le _⟩ (fun _ => rfl) (fun _ => rfl) rfl ?_
            intro u5 H locs hp6 hw
            refine mg_iinc X 61 [(5, .int (nI (w + 1))), (0, .ref (aS)), (1, .ref (aX)), (2, .int (nI (g))), (3, .int (nI (b))), (4, .int (nI (2 ^ b)))] (w + 1) d_Su_crossGap_58 hl (k := 5) rfl (mg_inc1 _) (by decide) rfl rfl (fun ls hl => ?_)
            refine mg_goto X 21 d_Su_crossGap_61 (by decide) ?_
            have hl : lv_has ls 6 [(0, .ref (aS)), (1, .ref (aX)), (2, .int (nI (g))), (3, .int (nI (b))), (4, .int (nI (2 ^ b))), (5, .int (nI (w + 1)))] := lv_sub hl [1, 2, 3, 4, 5, 0] rfl
            exact ih21 _ (by omega) (w + 1) u5 (va_up (va_up V2 w ((16 - sr g) * V2 w + sr g * V2 (w ^^^ 2 ^ b))) (w ^^^ 2 ^ b) (sr g * V2 w + (16 - sr g) * V2 (w ^^^ 2 ^ b))) rfl (by rw [← mg_orx hbit]; exact hp6) (by omega) (cg_step hG hb hc hbit) ls _ _ hl hw
      have hl : lv_has ls 6 [(0, .ref (aS)), (1, .ref (aX)), (2, .int (nI (g))), (3, .int (nI (b))), (4, .int (nI (2 ^ b))), (5, .int (nI (0)))] := lv_sub hl [2, 3, 4, 5, 1, 0] rfl
      exact L21 _ 0 u V rfl (hI) (Nat.zero_le _) (cg_0 _ _ _ _) ls _ _ hl hw
  have hl : lv_has ls 6 [(0, .ref (aS)), (1, .ref (aX)), (2, .int (nI (g))), (3, .int (nI (0)))] := lv_sub hl [1, 2, 3, 0] rfl
  exact L2 _ 0 dX VX rfl (hRX) (Nat.zero_le _) (hf) ls _ _ hl hw

set_option maxRecDepth 100000 in
set_option maxHeartbeats 4000000 in
theorem k_Su_addUp (l : Launch) (D : va_G) (K : Nat → ClassId) (aS : Nat) (h : Nat) (hM : Nat) (hF : Nat) (qsr : Nat) (aB : Nat) (aE : Nat) (aQ : Nat) (aT : Nat) (qf : Nat) (qm : Nat) (qr : Nat) (nf : Nat) (nc : Nat) (qT : Nat) (aX : Nat) (qX : Nat) (t : Nat) (dT : Nat → Nat) (VT : Nat → Nat) (dX : Nat → Nat) (VX : Nat → Nat) (hnc : nc ≤ 3) (hRT : am_R 4 dT VT) (hRX : am_R 64 dX VX) (ht : t < 4) (hl0 : zs_sum (2 ^ (2 * nc)) VX < 1000000000 ^ 6) : mg_Mv l D K y_Su_addUp b_Su_addUp 4 ({ frames := 3, cells := 0, slots := 0, locals := 60 }) [.ref (aS), .int (nI (t)), .ref (aX)] [mg_ob aS 4 [.ref (h), .ref (hM), .ref (hF), .ref (qsr), .ref (aB), .ref (aE), .ref (aQ), .ref (aT)], mg_ob h 1 [.ref (qf), .ref (qm), .ref (qr), .int (nI (nf)), .int (nI (nc))], mg_ob aT 0 [.ref (qT)], mg_al K qT (4 * 6) dT, mg_ob aX 0 [.ref (qX)], mg_al K qX (64 * 6) dX] (fun (u : (Nat → Nat)) => am_R 4 u (va_up VT t (zs_sum (2 ^ (2 * nc)) VX))) (fun (u : (Nat → Nat)) => [mg_ob aS 4 [.ref (h), .ref (hM), .ref (hF), .ref (qsr), .ref (aB), .ref (aE), .ref (aQ), .ref (aT)], mg_ob h 1 [.ref (qf), .ref (qm), .ref (qr), .int (nI (nf)), .int (nI (nc))], mg_ob aT 0 [.ref (qT)], mg_al K qT (4 * 6) u, mg_ob aX 0 [.ref (qX)], mg_al K qX (64 * 6) dX]) := by
  intro sz
  refine mg_entry (Qc := fun A => va_Qv (fun (u : (Nat → Nat)) => am_R 4 u (va_up VT t (zs_sum (2 ^ (2 * nc)) VX))) (mg_B D A (fun (u : (Nat → Nat)) => [mg_ob aS 4 [.ref (h), .ref (hM), .ref (hF), .ref (qsr), .ref (aB), .ref (aE), .ref (aQ), .ref (aT)], mg_ob h 1 [.ref (qf), .ref (qm), .ref (qr), .int (nI (nf)), .int (nI (nc))], mg_ob aT 0 [.ref (qT)], mg_al K qT (4 * 6) u, mg_ob aX 0 [.ref (qX)], mg_al K qX (64 * 6) dX])) A) (by decide) (Nat.le_of_ble_eq_true rfl) ?_
  intro p e s m args below meth c A ls X hr hlk hnm hA hK hw hl
  have hl : lv_has ls 4 [(0, .ref (aS)), (1, .int (nI (t))), (2, .ref (aX))] := hl
  have hw6 := mg_ways hnc
  refine mg_aload_n X 1 d_Su_addUp_0 (lv_at hl 0 rfl) rfl ?_
  refine mg_get X hK hw 4 0 7 f_Su_42 rfl rfl d_Su_addUp_1 rfl ?_
  refine mg_iload_n X 5 d_Su_addUp_4 (lv_at hl 1 rfl) rfl ?_
  refine mg_iconst X 6 0 d_Su_addUp_5 mg_ci_0 rfl ?_
  refine mg_callVv X hK hw hA 9 [2, 3] 2 (fun u1 => [mg_ob aS 4 [.ref (h), .ref (hM), .ref (hF), .ref (qsr), .ref (aB), .ref (aE), .ref (aQ), .ref (aT)], mg_ob h 1 [.ref (qf), .ref (qm), .ref (qr), .int (nI (nf)), .int (nI (nc))], mg_ob aT 0 [.ref (qT)], mg_al K qT (4 * 6) u1, mg_ob aX 0 [.ref (qX)], mg_al K qX (64 * 6) dX]) rfl rfl (k_Am_set l D K aT qT 4 t 0 dT VT (by omega) (hRT) (by omega) (by omega)) g_Su_93 ⟨by decide, by decide⟩ ⟨rfl, rfl⟩ rfl rfl rfl hl.1 (rest := []) (As := [.int (nI (t)), .int (nI (0))]) rfl (Nat.le_of_ble_eq_true rfl) d_Su_addUp_6 ⟨Nat.zero_le _, Nat.zero_le _⟩ (fun _ => rfl) (fun _ => rfl) rfl ?_
  intro u1 H locs hp2 hw
  refine mg_iconst X 10 0 d_Su_addUp_9 mg_ci_0 rfl ?_
  refine mg_istore_n X 11 [(3, .int (nI (0))), (0, .ref (aS)), (1, .int (nI (t))), (2, .ref (aX))] d_Su_addUp_10 hl (by decide) rfl rfl (fun ls hl => ?_)
  have L11 : ∀ (n0 : Nat) (k : Nat) (u : Nat → Nat), n0 = 2 ^ (2 * nc) - k → (am_R 4 u (va_up VT t (zs_sum k VX))) → (k ≤ 2 ^ (2 * nc)) → ∀ (ls : Array Slot) (H : Heap) (locs : List Loc), lv_has ls 4 [(0, .ref (aS)), (1, .int (nI (t))), (2, .ref (aX)), (3, .int (nI (k)))] → mg_H D A s.heap H locs [mg_ob aS 4 [.ref (h), .ref (hM), .ref (hF), .ref (qsr), .ref (aB), .ref (aE), .ref (aQ), .ref (aT)], mg_ob h 1 [.ref (qf), .ref (qm), .ref (qr), .int (nI (nf)), .int (nI (nc))], mg_ob aT 0 [.ref (qT)], mg_al K qT (4 * 6) u, mg_ob aX 0 [.ref (qX)], mg_al K qX (64 * 6) dX] → W p l e ({ frames := 3, cells := 0, slots := 0, locals := 60 }) s m args below meth c H locs 0 0 (MQ below (va_Qv (fun (u : (Nat → Nat)) => am_R 4 u (va_up VT t (zs_sum (2 ^ (2 * nc)) VX))) (mg_B D A (fun (u : (Nat → Nat)) => [mg_ob aS 4 [.ref (h), .ref (hM), .ref (hF), .ref (qsr), .ref (aB), .ref (aE), .ref (aQ), .ref (aT)], mg_ob h 1 [.ref (qf), .ref (qm), .ref (qr), .int (nI (nf)), .int (nI (nc))], mg_ob aT 0 [.ref (qT)], mg_al K qT (4 * 6) u, mg_ob aX 0 [.ref (qX)], mg_al K qX (64 * 6) dX])) A) args s 0 0 A) (F0 m 11 ls []) := by
    intro n0
    induction n0 using Nat.strongRecOn with
    | ind n0 ih11 =>
    intro k u hm11 hI hk ls H locs hl hw
    refine mg_iload_n X 12 d_Su_addUp_11 (lv_at hl 3 rfl) rfl ?_
    refine mg_aload_n X 13 d_Su_addUp_12 (lv_at hl 0 rfl) rfl ?_
    refine mg_get X hK hw 16 0 0 f_Su_9 rfl rfl d_Su_addUp_13 rfl ?_
    refine mg_callVi X hK hw hA 19 [1] 1 (fun _ => [mg_ob aS 4 [.ref (h), .ref (hM), .ref (hF), .ref (qsr), .ref (aB), .ref (aE), .ref (aQ), .ref (aT)], mg_ob h 1 [.ref (qf), .ref (qm), .ref (qr), .int (nI (nf)), .int (nI (nc))], mg_ob aT 0 [.ref (qT)], mg_al K qT (4 * 6) u, mg_ob aX 0 [.ref (qX)], mg_al K qX (64 * 6) dX]) rfl rfl (k_Fa_ways l D K h qf qm qr nf nc (by omega)) g_Su_70 ⟨by decide, by decide⟩ ⟨rfl, rfl⟩ rfl rfl rfl hl.1 (rest := [.int (nI (k))]) (As := []) rfl (Nat.le_of_ble_eq_true rfl) d_Su_addUp_16 ⟨Nat.zero_le _, Nat.zero_le _⟩ (fun _ => rfl) (fun _ => rfl) rfl ?_
    intro r _ H locs hp4 hw
    subst hp4
    refine mg_icmp_ge X 38 22 (by omega) (by omega) d_Su_addUp_19 (by decide) rfl (fun hb => ?_) (fun hb => ?_)
    · -- pc 19 t
      exact mg_vret X hr hlk (u) (by obtain rfl : k = 2 ^ (2 * nc) := (by omega); exact hI) hw d_Su_addUp_38
    · -- pc 19 f
      refine mg_aload_n X 23 d_Su_addUp_22 (lv_at hl 0 rfl) rfl ?_
      refine mg_get X hK hw 26 0 7 f_Su_42 rfl rfl d_Su_addUp_23 rfl ?_
      refine mg_iload_n X 27 d_Su_addUp_26 (lv_at hl 1 rfl) rfl ?_
      refine mg_aload_n X 28 d_Su_addUp_27 (lv_at hl 2 rfl) rfl ?_
      refine mg_iload_n X 29 d_Su_addUp_28 (lv_at hl 3 rfl) rfl ?_
      refine mg_callVv X hK hw hA 32 [2, 3, 4, 5] 2 (fun u5 => [mg_ob aS 4 [.ref (h), .ref (hM), .ref (hF), .ref (qsr), .ref (aB), .ref (aE), .ref (aQ), .ref (aT)], mg_ob h 1 [.ref (qf), .ref (qm), .ref (qr), .int (nI (nf)), .int (nI (nc))], mg_ob aT 0 [.ref (qT)], mg_al K qT (4 * 6) u5, mg_ob aX 0 [.ref (qX)], mg_al K qX (64 * 6) dX]) rfl rfl (k_Am_add l D K aT qT 4 aX qX 64 t k u (va_up VT t (zs_sum k VX)) dX VX (by omega) (hI) (by omega) (hRX) (by omega) (by omega) (by rw [va_up_self]; exact Nat.lt_of_le_of_lt (zs_mono (n := k + 1) (f := VX) (show k + 1 ≤ 2 ^ (2 * nc) by omega)) hl0)) g_Su_96 ⟨by decide, by decide⟩ ⟨rfl, rfl⟩ rfl rfl rfl hl.1 (rest := []) (As := [.int (nI (t)), .ref (aX), .int (nI (k))]) rfl (Nat.le_of_ble_eq_true rfl) d_Su_addUp_29 ⟨Nat.zero_le _, Nat.zero_le _⟩ (fun _ => rfl) (fun _ => rfl) rfl ?_
      intro u5 H locs hp6 hw
      refine mg_iinc X 35 [(3, .int (nI (k + 1))), (0, .ref (aS)), (1, .int (nI (t))), (2, .ref (aX))] (k + 1) d_Su_addUp_32 hl (k := 3) rfl (mg_inc1 _) (by decide) rfl rfl (fun ls hl => ?_)
      refine mg_goto X 11 d_Su_addUp_35 (by decide) ?_
      have hl : lv_has ls 4 [(0, .ref (aS)), (1, .int (nI (t))), (2, .ref (aX)), (3, .int (nI (k + 1)))] := lv_sub hl [1, 2, 3, 0] rfl
      exact ih11 _ (by omega) (k + 1) u5 rfl (by have h9 := hp6; rw [va_up_self, bx_uu] at h9; exact h9) (by omega) ls _ _ hl hw
  have hl : lv_has ls 4 [(0, .ref (aS)), (1, .int (nI (t))), (2, .ref (aX)), (3, .int (nI (0)))] := lv_sub hl [1, 2, 3, 0] rfl
  exact L11 _ 0 u1 rfl (hp2) (Nat.zero_le _) ls _ _ hl hw
end
section
theorem f_Su_15 : mg_F "LinkedMarkers$Sums" 15 4 1 := ⟨R_Su, T_Su, 8, rfl, by decide, in_Su, rfl, Or.inl (mg_in 149 (by decide +kernel) (by decide +kernel))⟩
theorem g_Su_45 : mg_CV "LinkedMarkers$Sums" 45 y_Ma_gaps b_Ma_gaps 1 (some .int) 0 := ⟨Or.inl (mg_in 490 (by decide +kernel) (by decide +kernel)), (mg_in 215 (by decide +kernel) (by decide +kernel)), (mg_in 216 (by decide +kernel) (by decide +kernel)), (mg_in 36 (by decide +kernel) (by decide +kernel)), (mg_in 217 (by decide +kernel) (by decide +kernel)), by decide, by decide, by decide +kernel⟩
theorem f_Su_51 : mg_F "LinkedMarkers$Sums" 51 2 1 := ⟨R_Ma, T_Ma, 6, rfl, by decide, in_Ma, rfl, Or.inr ⟨"LinkedMarkers", (mg_inN 89 (by decide +kernel) (by decide +kernel))⟩⟩
theorem f_Su_32 : mg_F "LinkedMarkers$Sums" 32 4 4 := ⟨R_Su, T_Su, 8, rfl, by decide, in_Su, rfl, Or.inl (mg_in 152 (by decide +kernel) (by decide +kernel))⟩
theorem g_Su_115 : mg_CV "LinkedMarkers$Sums" 115 y_Su_fillWithOnes b_Su_fillWithOnes 3 none 1 := ⟨Or.inl (mg_in 499 (by decide +kernel) (by decide +kernel)), (mg_in 501 (by decide +kernel) (by decide +kernel)), (mg_in 6 (by decide +kernel) (by decide +kernel)), (mg_in 38 (by decide +kernel) (by decide +kernel)), (mg_in 502 (by decide +kernel) (by decide +kernel)), by decide, by decide, by decide +kernel⟩
theorem g_Su_59 : mg_CV "LinkedMarkers$Sums" 59 y_Su_multiplyByFits b_Su_multiplyByFits 4 none 2 := ⟨Or.inl (mg_in 508 (by decide +kernel) (by decide +kernel)), (mg_in 510 (by decide +kernel) (by decide +kernel)), (mg_in 7 (by decide +kernel) (by decide +kernel)), (mg_in 38 (by decide +kernel) (by decide +kernel)), (mg_in 511 (by decide +kernel) (by decide +kernel)), by decide, by decide, by decide +kernel⟩
theorem g_Su_119 : mg_CV "LinkedMarkers$Sums" 119 y_Su_crossGap b_Su_crossGap 6 none 2 := ⟨Or.inl (mg_in 518 (by decide +kernel) (by decide +kernel)), (mg_in 520 (by decide +kernel) (by decide +kernel)), (mg_in 8 (by decide +kernel) (by decide +kernel)), (mg_in 38 (by decide +kernel) (by decide +kernel)), (mg_in 521 (by decide +kernel) (by decide +kernel)), by decide, by decide, by decide +kernel⟩
theorem f_Su_36 : mg_F "LinkedMarkers$Sums" 36 4 5 := ⟨R_Su, T_Su, 8, rfl, by decide, in_Su, rfl, Or.inl (mg_in 153 (by decide +kernel) (by decide +kernel))⟩
theorem f_Su_52 : mg_F "LinkedMarkers$Sums" 52 2 4 := ⟨R_Ma, T_Ma, 6, rfl, by decide, in_Ma, rfl, Or.inr ⟨"LinkedMarkers", (mg_inN 96 (by decide +kernel) (by decide +kernel))⟩⟩
theorem g_Su_56 : mg_CV "LinkedMarkers$Sums" 56 y_Su_comeFromBefore b_Su_comeFromBefore 3 none 1 := ⟨Or.inl (mg_in 495 (by decide +kernel) (by decide +kernel)), (mg_in 497 (by decide +kernel) (by decide +kernel)), (mg_in 5 (by decide +kernel) (by decide +kernel)), (mg_in 38 (by decide +kernel) (by decide +kernel)), (mg_in 498 (by decide +kernel) (by decide +kernel)), by decide, by decide, by decide +kernel⟩
theorem g_Su_63 : mg_CV "LinkedMarkers$Sums" 63 y_Su_addUp b_Su_addUp 4 none 2 := ⟨Or.inl (mg_in 527 (by decide +kernel) (by decide +kernel)), (mg_in 529 (by decide +kernel) (by decide +kernel)), (mg_in 9 (by decide +kernel) (by decide +kernel)), (mg_in 38 (by decide +kernel) (by decide +kernel)), (mg_in 530 (by decide +kernel) (by decide +kernel)), by decide, by decide, by decide +kernel⟩
theorem g_Su_67 : mg_CV "LinkedMarkers$Sums" 67 y_Su_comeFromBehind b_Su_comeFromBehind 3 none 1 := ⟨Or.inl (mg_in 606 (by decide +kernel) (by decide +kernel)), (mg_in 608 (by decide +kernel) (by decide +kernel)), (mg_in 10 (by decide +kernel) (by decide +kernel)), (mg_in 38 (by decide +kernel) (by decide +kernel)), (mg_in 609 (by decide +kernel) (by decide +kernel)), by decide, by decide, by decide +kernel⟩
theorem f_Su_39 : mg_F "LinkedMarkers$Sums" 39 4 6 := ⟨R_Su, T_Su, 8, rfl, by decide, in_Su, rfl, Or.inl (mg_in 154 (by decide +kernel) (by decide +kernel))⟩
theorem g_Su_75 : mg_CV "LinkedMarkers$Sums" 75 y_Am_setProduct b_Am_setProduct 9 none 3 := ⟨Or.inl (mg_in 610 (by decide +kernel) (by decide +kernel)), (mg_in 611 (by decide +kernel) (by decide +kernel)), (mg_in 612 (by decide +kernel) (by decide +kernel)), (mg_in 39 (by decide +kernel) (by decide +kernel)), (mg_in 613 (by decide +kernel) (by decide +kernel)), by decide, by decide, by decide +kernel⟩
end
section
theorem d_Su_takeRates_0 : decode b_Su_takeRates 0 = .ok (.iconst 0, 1) := by decide +kernel
theorem d_Su_takeRates_1 : decode b_Su_takeRates 1 = .ok (.istore_n 1, 1) := by decide +kernel
theorem d_Su_takeRates_2 : decode b_Su_takeRates 2 = .ok (.iload_n 1, 1) := by decide +kernel
theorem d_Su_takeRates_3 : decode b_Su_takeRates 3 = .ok (.aload_n 0, 1) := by decide +kernel
theorem d_Su_takeRates_4 : decode b_Su_takeRates 4 = .ok (.getfield 15, 3) := by decide +kernel
theorem d_Su_takeRates_7 : decode b_Su_takeRates 7 = .ok (.invokevirtual 45, 3) := by decide +kernel
theorem d_Su_takeRates_10 : decode b_Su_takeRates 10 = .ok (.if_icmp .ge 24, 3) := by decide +kernel
theorem d_Su_takeRates_13 : decode b_Su_takeRates 13 = .ok (.aload_n 0, 1) := by decide +kernel
theorem d_Su_takeRates_14 : decode b_Su_takeRates 14 = .ok (.getfield 23, 3) := by decide +kernel
theorem d_Su_takeRates_17 : decode b_Su_takeRates 17 = .ok (.iload_n 1, 1) := by decide +kernel
theorem d_Su_takeRates_18 : decode b_Su_takeRates 18 = .ok (.aload_n 0, 1) := by decide +kernel
theorem d_Su_takeRates_19 : decode b_Su_takeRates 19 = .ok (.getfield 15, 3) := by decide +kernel
theorem d_Su_takeRates_22 : decode b_Su_takeRates 22 = .ok (.getfield 51, 3) := by decide +kernel
theorem d_Su_takeRates_25 : decode b_Su_takeRates 25 = .ok (.iload_n 1, 1) := by decide +kernel
theorem d_Su_takeRates_26 : decode b_Su_takeRates 26 = .ok (.iaload, 1) := by decide +kernel
theorem d_Su_takeRates_27 : decode b_Su_takeRates 27 = .ok (.iastore, 1) := by decide +kernel
theorem d_Su_takeRates_28 : decode b_Su_takeRates 28 = .ok (.iinc 1 1, 3) := by decide +kernel
theorem d_Su_takeRates_31 : decode b_Su_takeRates 31 = .ok (.goto (-29), 3) := by decide +kernel
theorem d_Su_takeRates_34 : decode b_Su_takeRates 34 = .ok (.return_, 1) := by decide +kernel
theorem d_Su_freeRates_0 : decode b_Su_freeRates 0 = .ok (.iconst 0, 1) := by decide +kernel
theorem d_Su_freeRates_1 : decode b_Su_freeRates 1 = .ok (.istore_n 1, 1) := by decide +kernel
theorem d_Su_freeRates_2 : decode b_Su_freeRates 2 = .ok (.iload_n 1, 1) := by decide +kernel
theorem d_Su_freeRates_3 : decode b_Su_freeRates 3 = .ok (.aload_n 0, 1) := by decide +kernel
theorem d_Su_freeRates_4 : decode b_Su_freeRates 4 = .ok (.getfield 15, 3) := by decide +kernel
theorem d_Su_freeRates_7 : decode b_Su_freeRates 7 = .ok (.invokevirtual 45, 3) := by decide +kernel
theorem d_Su_freeRates_10 : decode b_Su_freeRates 10 = .ok (.if_icmp .ge 17, 3) := by decide +kernel
theorem d_Su_freeRates_13 : decode b_Su_freeRates 13 = .ok (.aload_n 0, 1) := by decide +kernel
theorem d_Su_freeRates_14 : decode b_Su_freeRates 14 = .ok (.getfield 23, 3) := by decide +kernel
theorem d_Su_freeRates_17 : decode b_Su_freeRates 17 = .ok (.iload_n 1, 1) := by decide +kernel
theorem d_Su_freeRates_18 : decode b_Su_freeRates 18 = .ok (.bipush 8, 2) := by decide +kernel
theorem d_Su_freeRates_20 : decode b_Su_freeRates 20 = .ok (.iastore, 1) := by decide +kernel
theorem d_Su_freeRates_21 : decode b_Su_freeRates 21 = .ok (.iinc 1 1, 3) := by decide +kernel
theorem d_Su_freeRates_24 : decode b_Su_freeRates 24 = .ok (.goto (-22), 3) := by decide +kernel
theorem d_Su_freeRates_27 : decode b_Su_freeRates 27 = .ok (.return_, 1) := by decide +kernel
theorem d_Su_changeRate_0 : decode b_Su_changeRate 0 = .ok (.aload_n 0, 1) := by decide +kernel
theorem d_Su_changeRate_1 : decode b_Su_changeRate 1 = .ok (.getfield 23, 3) := by decide +kernel
theorem d_Su_changeRate_4 : decode b_Su_changeRate 4 = .ok (.iload_n 1, 1) := by decide +kernel
theorem d_Su_changeRate_5 : decode b_Su_changeRate 5 = .ok (.iload_n 2, 1) := by decide +kernel
theorem d_Su_changeRate_6 : decode b_Su_changeRate 6 = .ok (.iastore, 1) := by decide +kernel
theorem d_Su_changeRate_7 : decode b_Su_changeRate 7 = .ok (.return_, 1) := by decide +kernel
theorem d_Su_comeFromBefore_0 : decode b_Su_comeFromBefore 0 = .ok (.aload_n 0, 1) := by decide +kernel
theorem d_Su_comeFromBefore_1 : decode b_Su_comeFromBefore 1 = .ok (.aload_n 0, 1) := by decide +kernel
theorem d_Su_comeFromBefore_2 : decode b_Su_comeFromBefore 2 = .ok (.getfield 32, 3) := by decide +kernel
theorem d_Su_comeFromBefore_5 : decode b_Su_comeFromBefore 5 = .ok (.invokevirtual 115, 3) := by decide +kernel
theorem d_Su_comeFromBefore_8 : decode b_Su_comeFromBefore 8 = .ok (.iconst 0, 1) := by decide +kernel
theorem d_Su_comeFromBefore_9 : decode b_Su_comeFromBefore 9 = .ok (.istore_n 2, 1) := by decide +kernel
theorem d_Su_comeFromBefore_10 : decode b_Su_comeFromBefore 10 = .ok (.iload_n 2, 1) := by decide +kernel
theorem d_Su_comeFromBefore_11 : decode b_Su_comeFromBefore 11 = .ok (.iload_n 1, 1) := by decide +kernel
theorem d_Su_comeFromBefore_12 : decode b_Su_comeFromBefore 12 = .ok (.if_icmp .ge 27, 3) := by decide +kernel
theorem d_Su_comeFromBefore_15 : decode b_Su_comeFromBefore 15 = .ok (.aload_n 0, 1) := by decide +kernel
theorem d_Su_comeFromBefore_16 : decode b_Su_comeFromBefore 16 = .ok (.aload_n 0, 1) := by decide +kernel
theorem d_Su_comeFromBefore_17 : decode b_Su_comeFromBefore 17 = .ok (.getfield 32, 3) := by decide +kernel
theorem d_Su_comeFromBefore_20 : decode b_Su_comeFromBefore 20 = .ok (.iload_n 2, 1) := by decide +kernel
theorem d_Su_comeFromBefore_21 : decode b_Su_comeFromBefore 21 = .ok (.invokevirtual 59, 3) := by decide +kernel
theorem d_Su_comeFromBefore_24 : decode b_Su_comeFromBefore 24 = .ok (.aload_n 0, 1) := by decide +kernel
theorem d_Su_comeFromBefore_25 : decode b_Su_comeFromBefore 25 = .ok (.aload_n 0, 1) := by decide +kernel
theorem d_Su_comeFromBefore_26 : decode b_Su_comeFromBefore 26 = .ok (.getfield 32, 3) := by decide +kernel
theorem d_Su_comeFromBefore_29 : decode b_Su_comeFromBefore 29 = .ok (.iload_n 2, 1) := by decide +kernel
theorem d_Su_comeFromBefore_30 : decode b_Su_comeFromBefore 30 = .ok (.invokevirtual 119, 3) := by decide +kernel
theorem d_Su_comeFromBefore_33 : decode b_Su_comeFromBefore 33 = .ok (.iinc 2 1, 3) := by decide +kernel
theorem d_Su_comeFromBefore_36 : decode b_Su_comeFromBefore 36 = .ok (.goto (-26), 3) := by decide +kernel
theorem d_Su_comeFromBefore_39 : decode b_Su_comeFromBefore 39 = .ok (.return_, 1) := by decide +kernel
theorem d_Su_comeFromBehind_0 : decode b_Su_comeFromBehind 0 = .ok (.aload_n 0, 1) := by decide +kernel
theorem d_Su_comeFromBehind_1 : decode b_Su_comeFromBehind 1 = .ok (.aload_n 0, 1) := by decide +kernel
theorem d_Su_comeFromBehind_2 : decode b_Su_comeFromBehind 2 = .ok (.getfield 36, 3) := by decide +kernel
theorem d_Su_comeFromBehind_5 : decode b_Su_comeFromBehind 5 = .ok (.invokevirtual 115, 3) := by decide +kernel
theorem d_Su_comeFromBehind_8 : decode b_Su_comeFromBehind 8 = .ok (.aload_n 0, 1) := by decide +kernel
theorem d_Su_comeFromBehind_9 : decode b_Su_comeFromBehind 9 = .ok (.getfield 15, 3) := by decide +kernel
theorem d_Su_comeFromBehind_12 : decode b_Su_comeFromBehind 12 = .ok (.getfield 52, 3) := by decide +kernel
theorem d_Su_comeFromBehind_15 : decode b_Su_comeFromBehind 15 = .ok (.iconst 1, 1) := by decide +kernel
theorem d_Su_comeFromBehind_16 : decode b_Su_comeFromBehind 16 = .ok (.isub, 1) := by decide +kernel
theorem d_Su_comeFromBehind_17 : decode b_Su_comeFromBehind 17 = .ok (.istore_n 2, 1) := by decide +kernel
theorem d_Su_comeFromBehind_18 : decode b_Su_comeFromBehind 18 = .ok (.iload_n 2, 1) := by decide +kernel
theorem d_Su_comeFromBehind_19 : decode b_Su_comeFromBehind 19 = .ok (.iload_n 1, 1) := by decide +kernel
theorem d_Su_comeFromBehind_20 : decode b_Su_comeFromBehind 20 = .ok (.if_icmp .le 29, 3) := by decide +kernel
theorem d_Su_comeFromBehind_23 : decode b_Su_comeFromBehind 23 = .ok (.aload_n 0, 1) := by decide +kernel
theorem d_Su_comeFromBehind_24 : decode b_Su_comeFromBehind 24 = .ok (.aload_n 0, 1) := by decide +kernel
theorem d_Su_comeFromBehind_25 : decode b_Su_comeFromBehind 25 = .ok (.getfield 36, 3) := by decide +kernel
theorem d_Su_comeFromBehind_28 : decode b_Su_comeFromBehind 28 = .ok (.iload_n 2, 1) := by decide +kernel
theorem d_Su_comeFromBehind_29 : decode b_Su_comeFromBehind 29 = .ok (.invokevirtual 59, 3) := by decide +kernel
theorem d_Su_comeFromBehind_32 : decode b_Su_comeFromBehind 32 = .ok (.aload_n 0, 1) := by decide +kernel
theorem d_Su_comeFromBehind_33 : decode b_Su_comeFromBehind 33 = .ok (.aload_n 0, 1) := by decide +kernel
theorem d_Su_comeFromBehind_34 : decode b_Su_comeFromBehind 34 = .ok (.getfield 36, 3) := by decide +kernel
theorem d_Su_comeFromBehind_37 : decode b_Su_comeFromBehind 37 = .ok (.iload_n 2, 1) := by decide +kernel
theorem d_Su_comeFromBehind_38 : decode b_Su_comeFromBehind 38 = .ok (.iconst 1, 1) := by decide +kernel
theorem d_Su_comeFromBehind_39 : decode b_Su_comeFromBehind 39 = .ok (.isub, 1) := by decide +kernel
theorem d_Su_comeFromBehind_40 : decode b_Su_comeFromBehind 40 = .ok (.invokevirtual 119, 3) := by decide +kernel
theorem d_Su_comeFromBehind_43 : decode b_Su_comeFromBehind 43 = .ok (.iinc 2 (-1), 3) := by decide +kernel
theorem d_Su_comeFromBehind_46 : decode b_Su_comeFromBehind 46 = .ok (.goto (-28), 3) := by decide +kernel
theorem d_Su_comeFromBehind_49 : decode b_Su_comeFromBehind 49 = .ok (.return_, 1) := by decide +kernel
theorem d_Su_sumTo_0 : decode b_Su_sumTo 0 = .ok (.aload_n 0, 1) := by decide +kernel
theorem d_Su_sumTo_1 : decode b_Su_sumTo 1 = .ok (.getfield 15, 3) := by decide +kernel
theorem d_Su_sumTo_4 : decode b_Su_sumTo 4 = .ok (.getfield 52, 3) := by decide +kernel
theorem d_Su_sumTo_7 : decode b_Su_sumTo 7 = .ok (.iconst 1, 1) := by decide +kernel
theorem d_Su_sumTo_8 : decode b_Su_sumTo 8 = .ok (.isub, 1) := by decide +kernel
theorem d_Su_sumTo_9 : decode b_Su_sumTo 9 = .ok (.istore_n 2, 1) := by decide +kernel
theorem d_Su_sumTo_10 : decode b_Su_sumTo 10 = .ok (.aload_n 0, 1) := by decide +kernel
theorem d_Su_sumTo_11 : decode b_Su_sumTo 11 = .ok (.iload_n 2, 1) := by decide +kernel
theorem d_Su_sumTo_12 : decode b_Su_sumTo 12 = .ok (.invokevirtual 56, 3) := by decide +kernel
theorem d_Su_sumTo_15 : decode b_Su_sumTo 15 = .ok (.aload_n 0, 1) := by decide +kernel
theorem d_Su_sumTo_16 : decode b_Su_sumTo 16 = .ok (.aload_n 0, 1) := by decide +kernel
theorem d_Su_sumTo_17 : decode b_Su_sumTo 17 = .ok (.getfield 32, 3) := by decide +kernel
theorem d_Su_sumTo_20 : decode b_Su_sumTo 20 = .ok (.iload_n 2, 1) := by decide +kernel
theorem d_Su_sumTo_21 : decode b_Su_sumTo 21 = .ok (.invokevirtual 59, 3) := by decide +kernel
theorem d_Su_sumTo_24 : decode b_Su_sumTo 24 = .ok (.aload_n 0, 1) := by decide +kernel
theorem d_Su_sumTo_25 : decode b_Su_sumTo 25 = .ok (.iload_n 1, 1) := by decide +kernel
theorem d_Su_sumTo_26 : decode b_Su_sumTo 26 = .ok (.aload_n 0, 1) := by decide +kernel
theorem d_Su_sumTo_27 : decode b_Su_sumTo 27 = .ok (.getfield 32, 3) := by decide +kernel
theorem d_Su_sumTo_30 : decode b_Su_sumTo 30 = .ok (.invokevirtual 63, 3) := by decide +kernel
theorem d_Su_sumTo_33 : decode b_Su_sumTo 33 = .ok (.return_, 1) := by decide +kernel
theorem d_Su_split_0 : decode b_Su_split 0 = .ok (.aload_n 0, 1) := by decide +kernel
theorem d_Su_split_1 : decode b_Su_split 1 = .ok (.iload_n 1, 1) := by decide +kernel
theorem d_Su_split_2 : decode b_Su_split 2 = .ok (.invokevirtual 56, 3) := by decide +kernel
theorem d_Su_split_5 : decode b_Su_split 5 = .ok (.aload_n 0, 1) := by decide +kernel
theorem d_Su_split_6 : decode b_Su_split 6 = .ok (.iload_n 1, 1) := by decide +kernel
theorem d_Su_split_7 : decode b_Su_split 7 = .ok (.invokevirtual 67, 3) := by decide +kernel
theorem d_Su_split_10 : decode b_Su_split 10 = .ok (.iconst 0, 1) := by decide +kernel
theorem d_Su_split_11 : decode b_Su_split 11 = .ok (.istore_n 2, 1) := by decide +kernel
theorem d_Su_split_12 : decode b_Su_split 12 = .ok (.iload_n 2, 1) := by decide +kernel
theorem d_Su_split_13 : decode b_Su_split 13 = .ok (.aload_n 0, 1) := by decide +kernel
theorem d_Su_split_14 : decode b_Su_split 14 = .ok (.getfield 9, 3) := by decide +kernel
theorem d_Su_split_17 : decode b_Su_split 17 = .ok (.invokevirtual 70, 3) := by decide +kernel
theorem d_Su_split_20 : decode b_Su_split 20 = .ok (.if_icmp .ge 25, 3) := by decide +kernel
theorem d_Su_split_23 : decode b_Su_split 23 = .ok (.aload_n 0, 1) := by decide +kernel
theorem d_Su_split_24 : decode b_Su_split 24 = .ok (.getfield 39, 3) := by decide +kernel
theorem d_Su_split_27 : decode b_Su_split 27 = .ok (.iload_n 2, 1) := by decide +kernel
theorem d_Su_split_28 : decode b_Su_split 28 = .ok (.aload_n 0, 1) := by decide +kernel
theorem d_Su_split_29 : decode b_Su_split 29 = .ok (.getfield 32, 3) := by decide +kernel
theorem d_Su_split_32 : decode b_Su_split 32 = .ok (.aload_n 0, 1) := by decide +kernel
theorem d_Su_split_33 : decode b_Su_split 33 = .ok (.getfield 36, 3) := by decide +kernel
theorem d_Su_split_36 : decode b_Su_split 36 = .ok (.invokevirtual 75, 3) := by decide +kernel
theorem d_Su_split_39 : decode b_Su_split 39 = .ok (.iinc 2 1, 3) := by decide +kernel
theorem d_Su_split_42 : decode b_Su_split 42 = .ok (.goto (-30), 3) := by decide +kernel
theorem d_Su_split_45 : decode b_Su_split 45 = .ok (.aload_n 0, 1) := by decide +kernel
theorem d_Su_split_46 : decode b_Su_split 46 = .ok (.aload_n 0, 1) := by decide +kernel
theorem d_Su_split_47 : decode b_Su_split 47 = .ok (.getfield 39, 3) := by decide +kernel
theorem d_Su_split_50 : decode b_Su_split 50 = .ok (.iload_n 1, 1) := by decide +kernel
theorem d_Su_split_51 : decode b_Su_split 51 = .ok (.invokevirtual 59, 3) := by decide +kernel
theorem d_Su_split_54 : decode b_Su_split 54 = .ok (.aload_n 0, 1) := by decide +kernel
theorem d_Su_split_55 : decode b_Su_split 55 = .ok (.iconst 0, 1) := by decide +kernel
theorem d_Su_split_56 : decode b_Su_split 56 = .ok (.aload_n 0, 1) := by decide +kernel
theorem d_Su_split_57 : decode b_Su_split 57 = .ok (.getfield 39, 3) := by decide +kernel
theorem d_Su_split_60 : decode b_Su_split 60 = .ok (.invokevirtual 63, 3) := by decide +kernel
theorem d_Su_split_63 : decode b_Su_split 63 = .ok (.return_, 1) := by decide +kernel
end
section
set_option maxRecDepth 100000 in
set_option maxHeartbeats 4000000 in
theorem k_Su_takeRates (l : Launch) (D : va_G) (K : Nat → ClassId) (aS : Nat) (h : Nat) (hM : Nat) (hF : Nat) (qsr : Nat) (aB : Nat) (aE : Nat) (aQ : Nat) (aT : Nat) (qw : Nat) (qra : Nat) (qo : Nat) (qt : Nat) (nm : Nat) (sg : Nat) (sr : Nat → Nat) (rt : Nat → Nat) (hm4 : nm ≤ 4) : mg_Mv l D K y_Su_takeRates b_Su_takeRates 2 ({ frames := 1, cells := 0, slots := 0, locals := 20 }) [.ref (aS)] [mg_ob aS 4 [.ref (h), .ref (hM), .ref (hF), .ref (qsr), .ref (aB), .ref (aE), .ref (aQ), .ref (aT)], mg_ai K qsr 3 sr, mg_ob hM 2 [.ref (qw), .ref (qra), .ref (qo), .ref (qt), .int (nI (nm)), .int (nI (sg))], mg_ai K qra 3 rt] (fun (_ : Unit) => True) (fun (_ : Unit) => [mg_ob aS 4 [.ref (h), .ref (hM), .ref (hF), .ref (qsr), .ref (aB), .ref (aE), .ref (aQ), .ref (aT)], mg_ai K qsr 3 (su_pt rt sr (nm - 1)), mg_ob hM 2 [.ref (qw), .ref (qra), .ref (qo), .ref (qt), .int (nI (nm)), .int (nI (sg))], mg_ai K qra 3 rt]) := by
  intro sz
  refine mg_entry (Qc := fun A => va_Qv (fun (_ : Unit) => True) (mg_B D A (fun (_ : Unit) => [mg_ob aS 4 [.ref (h), .ref (hM), .ref (hF), .ref (qsr), .ref (aB), .ref (aE), .ref (aQ), .ref (aT)], mg_ai K qsr 3 (su_pt rt sr (nm - 1)), mg_ob hM 2 [.ref (qw), .ref (qra), .ref (qo), .ref (qt), .int (nI (nm)), .int (nI (sg))], mg_ai K qra 3 rt])) A) (by decide) (Nat.le_of_ble_eq_true rfl) ?_
  intro p e s m args below meth c A ls X hr hlk hnm hA hK hw hl
  have hl : lv_has ls 2 [(0, .ref (aS))] := hl
  rw [← su_pt0 rt sr] at hw
  refine mg_iconst X 1 0 d_Su_takeRates_0 mg_ci_0 rfl ?_
  refine mg_istore_n X 2 [(1, .int (nI (0))), (0, .ref (aS))] d_Su_takeRates_1 hl (by decide) rfl rfl (fun ls hl => ?_)
  have L2 : ∀ (n0 : Nat) (k : Nat), n0 = nm - 1 - k → (k ≤ nm - 1) → ∀ (ls : Array Slot) (H : Heap) (locs : List Loc), lv_has ls 2 [(0, .ref (aS)), (1, .int (nI (k)))] → mg_H D A s.heap H locs [mg_ob aS 4 [.ref (h), .ref (hM), .ref (hF), .ref (qsr), .ref (aB), .ref (aE), .ref (aQ), .ref (aT)], mg_ai K qsr 3 (su_pt rt sr k), mg_ob hM 2 [.ref (qw), .ref (qra), .ref (qo), .ref (qt), .int (nI (nm)), .int (nI (sg))], mg_ai K qra 3 rt] → W p l e ({ frames := 1, cells := 0, slots := 0, locals := 20 }) s m args below meth c H locs 0 0 (MQ below (va_Qv (fun (_ : Unit) => True) (mg_B D A (fun (_ : Unit) => [mg_ob aS 4 [.ref (h), .ref (hM), .ref (hF), .ref (qsr), .ref (aB), .ref (aE), .ref (aQ), .ref (aT)], mg_ai K qsr 3 (su_pt rt sr (nm - 1)), mg_ob hM 2 [.ref (qw), .ref (qra), .ref (qo), .ref (qt), .int (nI (nm)), .int (nI (sg))], mg_ai K qra 3 rt])) A) args s 0 0 A) (F0 m 2 ls []) := by
    intro n0
    induction n0 using Nat.strongRecOn with
    | ind n0 ih2 =>
    intro k hm2 hk ls H locs hl hw
    refine mg_iload_n X 3 d_Su_takeRates_2 (lv_at hl 1 rfl) rfl ?_
    refine mg_aload_n X 4 d_Su_takeRates_3 (lv_at hl 0 rfl) rfl ?_
    refine mg_get X hK hw 7 0 1 f_Su_15 rfl rfl d_Su_takeRates_4 rfl ?_
    refine mg_callVi X hK hw hA 10 [2] 2 (fun _ => [mg_ob aS 4 [.ref (h), .ref (hM), .ref (hF), .ref (qsr), .ref (aB), .ref (aE), .ref (aQ), .ref (aT)], mg_ai K qsr 3 (su_pt rt sr k), mg_ob hM 2 [.ref (qw), .ref (qra), .ref (qo), .ref (qt), .int (nI (nm)), .int (nI (sg))], mg_ai K qra 3 rt]) rfl rfl (k_Ma_gaps l D K hM qw qra qo qt nm sg (by omega)) g_Su_45 ⟨by decide, by decide⟩ ⟨rfl, rfl⟩ rfl rfl rfl hl.1 (rest := [.int (nI (k))]) (As := []) rfl (Nat.le_of_ble_eq_true rfl) d_Su_takeRates_7 ⟨Nat.zero_le _, Nat.zero_le _⟩ (fun _ => rfl) (fun _ => rfl) rfl ?_
    intro r _ H locs hp2 hw
    subst hp2
    refine mg_icmp_ge X 34 13 (by omega) (by omega) d_Su_takeRates_10 (by decide) rfl (fun hb => ?_) (fun hb => ?_)
    · -- pc 10 t
      obtain rfl : k = nm - 1 := by omega
      exact mg_vret X hr hlk (()) (trivial) hw d_Su_takeRates_34
    · -- pc 10 f
      refine mg_aload_n X 14 d_Su_takeRates_13 (lv_at hl 0 rfl) rfl ?_
      refine mg_get X hK hw 17 0 3 f_Su_23 rfl rfl d_Su_takeRates_14 rfl ?_
      refine mg_iload_n X 18 d_Su_takeRates_17 (lv_at hl 1 rfl) rfl ?_
      refine mg_aload_n X 19 d_Su_takeRates_18 (lv_at hl 0 rfl) rfl ?_
      refine mg_get X hK hw 22 0 1 f_Su_15 rfl rfl d_Su_takeRates_19 rfl ?_
      refine mg_get X hK hw 25 2 1 f_Su_51 rfl rfl d_Su_takeRates_22 rfl ?_
      refine mg_iload_n X 26 d_Su_takeRates_25 (lv_at hl 1 rfl) rfl ?_
      refine mg_iald X hK hw 27 3 rfl (by omega) (by omega) d_Su_takeRates_26 rfl ?_
      refine mg_iast X hK hw 28 1 [mg_ob aS 4 [.ref (h), .ref (hM), .ref (hF), .ref (qsr), .ref (aB), .ref (aE), .ref (aQ), .ref (aT)], mg_ai K qsr 3 (va_up (su_pt rt sr k) k (rt k)), mg_ob hM 2 [.ref (qw), .ref (qra), .ref (qo), .ref (qt), .int (nI (nm)), .int (nI (sg))], mg_ai K qra 3 rt] rfl (by omega) (by omega) d_Su_takeRates_27 rfl rfl (fun H locs hw => ?_)
      refine mg_iinc X 31 [(1, .int (nI (k + 1))), (0, .ref (aS))] (k + 1) d_Su_takeRates_28 hl (k := 1) rfl (mg_inc1 _) (by decide) rfl rfl (fun ls hl => ?_)
      refine mg_goto X 2 d_Su_takeRates_31 (by decide) ?_
      have hl : lv_has ls 2 [(0, .ref (aS)), (1, .int (nI (k + 1)))] := lv_sub hl [1, 0] rfl
      rw [su_ptS] at hw
      exact ih2 _ (by omega) (k + 1) rfl (by omega) ls _ _ hl hw
  have hl : lv_has ls 2 [(0, .ref (aS)), (1, .int (nI (0)))] := lv_sub hl [1, 0] rfl
  exact L2 _ 0 rfl (Nat.zero_le _) ls _ _ hl hw

set_option maxRecDepth 100000 in
set_option maxHeartbeats 4000000 in
theorem k_Su_freeRates (l : Launch) (D : va_G) (K : Nat → ClassId) (aS : Nat) (h : Nat) (hM : Nat) (hF : Nat) (qsr : Nat) (aB : Nat) (aE : Nat) (aQ : Nat) (aT : Nat) (qw : Nat) (qra : Nat) (qo : Nat) (qt : Nat) (nm : Nat) (sg : Nat) (sr : Nat → Nat) (hm4 : nm ≤ 4) : mg_Mv l D K y_Su_freeRates b_Su_freeRates 2 ({ frames := 1, cells := 0, slots := 0, locals := 20 }) [.ref (aS)] [mg_ob aS 4 [.ref (h), .ref (hM), .ref (hF), .ref (qsr), .ref (aB), .ref (aE), .ref (aQ), .ref (aT)], mg_ai K qsr 3 sr, mg_ob hM 2 [.ref (qw), .ref (qra), .ref (qo), .ref (qt), .int (nI (nm)), .int (nI (sg))]] (fun (_ : Unit) => True) (fun (_ : Unit) => [mg_ob aS 4 [.ref (h), .ref (hM), .ref (hF), .ref (qsr), .ref (aB), .ref (aE), .ref (aQ), .ref (aT)], mg_ai K qsr 3 (su_pt (fun _ => 8) sr (nm - 1)), mg_ob hM 2 [.ref (qw), .ref (qra), .ref (qo), .ref (qt), .int (nI (nm)), .int (nI (sg))]]) := by
  intro sz
  refine mg_entry (Qc := fun A => va_Qv (fun (_ : Unit) => True) (mg_B D A (fun (_ : Unit) => [mg_ob aS 4 [.ref (h), .ref (hM), .ref (hF), .ref (qsr), .ref (aB), .ref (aE), .ref (aQ), .ref (aT)], mg_ai K qsr 3 (su_pt (fun _ => 8) sr (nm - 1)), mg_ob hM 2 [.ref (qw), .ref (qra), .ref (qo), .ref (qt), .int (nI (nm)), .int (nI (sg))]])) A) (by decide) (Nat.le_of_ble_eq_true rfl) ?_
  intro p e s m args below meth c A ls X hr hlk hnm hA hK hw hl
  have hl : lv_has ls 2 [(0, .ref (aS))] := hl
  rw [← su_pt0 (fun _ => 8) sr] at hw
  refine mg_iconst X 1 0 d_Su_freeRates_0 mg_ci_0 rfl ?_
  refine mg_istore_n X 2 [(1, .int (nI (0))), (0, .ref (aS))] d_Su_freeRates_1 hl (by decide) rfl rfl (fun ls hl => ?_)
  have L2 : ∀ (n0 : Nat) (k : Nat), n0 = nm - 1 - k → (k ≤ nm - 1) → ∀ (ls : Array Slot) (H : Heap) (locs : List Loc), lv_has ls 2 [(0, .ref (aS)), (1, .int (nI (k)))] → mg_H D A s.heap H locs [mg_ob aS 4 [.ref (h), .ref (hM), .ref (hF), .ref (qsr), .ref (aB), .ref (aE), .ref (aQ), .ref (aT)], mg_ai K qsr 3 (su_pt (fun _ => 8) sr k), mg_ob hM 2 [.ref (qw), .ref (qra), .ref (qo), .ref (qt), .int (nI (nm)), .int (nI (sg))]] → W p l e ({ frames := 1, cells := 0, slots := 0, locals := 20 }) s m args below meth c H locs 0 0 (MQ below (va_Qv (fun (_ : Unit) => True) (mg_B D A (fun (_ : Unit) => [mg_ob aS 4 [.ref (h), .ref (hM), .ref (hF), .ref (qsr), .ref (aB), .ref (aE), .ref (aQ), .ref (aT)], mg_ai K qsr 3 (su_pt (fun _ => 8) sr (nm - 1)), mg_ob hM 2 [.ref (qw), .ref (qra), .ref (qo), .ref (qt), .int (nI (nm)), .int (nI (sg))]])) A) args s 0 0 A) (F0 m 2 ls []) := by
    intro n0
    induction n0 using Nat.strongRecOn with
    | ind n0 ih2 =>
    intro k hm2 hk ls H locs hl hw
    refine mg_iload_n X 3 d_Su_freeRates_2 (lv_at hl 1 rfl) rfl ?_
    refine mg_aload_n X 4 d_Su_freeRates_3 (lv_at hl 0 rfl) rfl ?_
    refine mg_get X hK hw 7 0 1 f_Su_15 rfl rfl d_Su_freeRates_4 rfl ?_
    refine mg_callVi X hK hw hA 10 [2] 2 (fun _ => [mg_ob aS 4 [.ref (h), .ref (hM), .ref (hF), .ref (qsr), .ref (aB), .ref (aE), .ref (aQ), .ref (aT)], mg_ai K qsr 3 (su_pt (fun _ => 8) sr k), mg_ob hM 2 [.ref (qw), .ref (qra), .ref (qo), .ref (qt), .int (nI (nm)), .int (nI (sg))]]) rfl rfl (k_Ma_gaps l D K hM qw qra qo qt nm sg (by omega)) g_Su_45 ⟨by decide, by decide⟩ ⟨rfl, rfl⟩ rfl rfl rfl hl.1 (rest := [.int (nI (k))]) (As := []) rfl (Nat.le_of_ble_eq_true rfl) d_Su_freeRates_7 ⟨Nat.zero_le _, Nat.zero_le _⟩ (fun _ => rfl) (fun _ => rfl) rfl ?_
    intro r _ H locs hp2 hw
    subst hp2
    refine mg_icmp_ge X 27 13 (by omega) (by omega) d_Su_freeRates_10 (by decide) rfl (fun hb => ?_) (fun hb => ?_)
    · -- pc 10 t
      obtain rfl : k = nm - 1 := by omega
      exact mg_vret X hr hlk (()) (trivial) hw d_Su_freeRates_27
    · -- pc 10 f
      refine mg_aload_n X 14 d_Su_freeRates_13 (lv_at hl 0 rfl) rfl ?_
      refine mg_get X hK hw 17 0 3 f_Su_23 rfl rfl d_Su_freeRates_14 rfl ?_
      refine mg_iload_n X 18 d_Su_freeRates_17 (lv_at hl 1 rfl) rfl ?_
      refine mg_bipush X 20 8 d_Su_freeRates_18 mg_cb_8 rfl ?_
      refine mg_iast X hK hw 21 1 [mg_ob aS 4 [.ref (h), .ref (hM), .ref (hF), .ref (qsr), .ref (aB), .ref (aE), .ref (aQ), .ref (aT)], mg_ai K qsr 3 (va_up (su_pt (fun _ => 8) sr k) k 8), mg_ob hM 2 [.ref (qw), .ref (qra), .ref (qo), .ref (qt), .int (nI (nm)), .int (nI (sg))]] rfl (by omega) (by omega) d_Su_freeRates_20 rfl rfl (fun H locs hw => ?_)
      refine mg_iinc X 24 [(1, .int (nI (k + 1))), (0, .ref (aS))] (k + 1) d_Su_freeRates_21 hl (k := 1) rfl (mg_inc1 _) (by decide) rfl rfl (fun ls hl => ?_)
      refine mg_goto X 2 d_Su_freeRates_24 (by decide) ?_
      have hl : lv_has ls 2 [(0, .ref (aS)), (1, .int (nI (k + 1)))] := lv_sub hl [1, 0] rfl
      rw [su_ptS (fun _ => 8)] at hw
      exact ih2 _ (by omega) (k + 1) rfl (by omega) ls _ _ hl hw
  have hl : lv_has ls 2 [(0, .ref (aS)), (1, .int (nI (0)))] := lv_sub hl [1, 0] rfl
  exact L2 _ 0 rfl (Nat.zero_le _) ls _ _ hl hw

set_option maxRecDepth 100000 in
set_option maxHeartbeats 4000000 in
theorem k_Su_changeRate (l : Launch) (D : va_G) (K : Nat → ClassId) (aS : Nat) (h : Nat) (hM : Nat) (hF : Nat) (qsr : Nat) (aB : Nat) (aE : Nat) (aQ : Nat) (aT : Nat) (g : Nat) (x : Nat) (sr : Nat → Nat) (hg : g < 3) : mg_Mv l D K y_Su_changeRate b_Su_changeRate 3 ({ frames := 0, cells := 0, slots := 0, locals := 0 }) [.ref (aS), .int (nI (g)), .int (nI (x))] [mg_ob aS 4 [.ref (h), .ref (hM), .ref (hF), .ref (qsr), .ref (aB), .ref (aE), .ref (aQ), .ref (aT)], mg_ai K qsr 3 sr] (fun (_ : Unit) => True) (fun (_ : Unit) => [mg_ob aS 4 [.ref (h), .ref (hM), .ref (hF), .ref (qsr), .ref (aB), .ref (aE), .ref (aQ), .ref (aT)], mg_ai K qsr 3 (va_up sr g x)]) := by
  intro sz
  refine mg_entry (Qc := fun A => va_Qv (fun (_ : Unit) => True) (mg_B D A (fun (_ : Unit) => [mg_ob aS 4 [.ref (h), .ref (hM), .ref (hF), .ref (qsr), .ref (aB), .ref (aE), .ref (aQ), .ref (aT)], mg_ai K qsr 3 (va_up sr g x)])) A) (by decide) (Nat.le_of_ble_eq_true rfl) ?_
  intro p e s m args below meth c A ls X hr hlk hnm hA hK hw hl
  have hl : lv_has ls 3 [(0, .ref (aS)), (1, .int (nI (g))), (2, .int (nI (x)))] := hl
  refine mg_aload_n X 1 d_Su_changeRate_0 (lv_at hl 0 rfl) rfl ?_
  refine mg_get X hK hw 4 0 3 f_Su_23 rfl rfl d_Su_changeRate_1 rfl ?_
  refine mg_iload_n X 5 d_Su_changeRate_4 (lv_at hl 1 rfl) rfl ?_
  refine mg_iload_n X 6 d_Su_changeRate_5 (lv_at hl 2 rfl) rfl ?_
  refine mg_iast X hK hw 7 1 [mg_ob aS 4 [.ref (h), .ref (hM), .ref (hF), .ref (qsr), .ref (aB), .ref (aE), .ref (aQ), .ref (aT)], mg_ai K qsr 3 (va_up sr g x)] rfl (by omega) (by omega) d_Su_changeRate_6 rfl rfl (fun H locs hw => ?_)
  exact mg_vret X hr hlk (()) (trivial) hw d_Su_changeRate_7

set_option maxRecDepth 100000 in
set_option maxHeartbeats 4000000 in
theorem k_Su_comeFromBefore (l : Launch) (D : va_G) (K : Nat → ClassId) (aS : Nat) (h : Nat) (hM : Nat) (hF : Nat) (qsr : Nat) (aB : Nat) (aE : Nat) (aQ : Nat) (aT : Nat) (qf : Nat) (qm : Nat) (qr : Nat) (nf : Nat) (nc : Nat) (qtb : Nat) (ql : Nat) (qB : Nat) (nm : Nat) (mk : Nat) (tb : Nat → Nat) (sr : Nat → Nat) (dB : Nat → Nat) (VB : Nat → Nat) (hnc : nc ≤ 3) (hm4 : nm ≤ 4) (hsr : ∀ i, i + 1 < nm → sr i ≤ 16) (hTb : ∀ i w, i < nm → w < 2 ^ (2 * nc) → su_F tb i w ≤ 2 ^ 18) (hRB : am_R 64 dB VB) (hm : mk < nm) : mg_Mv l D K y_Su_comeFromBefore b_Su_comeFromBefore 3 ({ frames := 4, cells := 0, slots := 0, locals := 90 }) [.ref (aS), .int (nI (mk))] [mg_ob aS 4 [.ref (h), .ref (hM), .ref (hF), .ref (qsr), .ref (aB), .ref (aE), .ref (aQ), .ref (aT)], mg_ob h 1 [.ref (qf), .ref (qm), .ref (qr), .int (nI (nf)), .int (nI (nc))], mg_ob hF 3 [.ref (h), .ref (hM), .ref (qtb), .ref (ql)], mg_ai K qtb 256 tb, mg_ai K qsr 3 sr, mg_ob aB 0 [.ref (qB)], mg_al K qB (64 * 6) dB] (fun (uu : (Nat → Nat) × (Nat → Nat)) => am_R 64 uu.1 uu.2 ∧ ∀ j, j < 2 ^ (2 * nc) → uu.2 j = jn_al (2 * nc) sr (su_F tb) mk j) (fun (uu : (Nat → Nat) × (Nat → Nat)) => [mg_ob aS 4 [.ref (h), .ref (hM), .ref (hF), .ref (qsr), .ref (aB), .ref (aE), .ref (aQ), .ref (aT)], mg_ob h 1 [.ref (qf), .ref (qm), .ref (qr), .int (nI (nf)), .int (nI (nc))], mg_ob hF 3 [.ref (h), .ref (hM), .ref (qtb), .ref (ql)], mg_ai K qtb 256 tb, mg_ai K qsr 3 sr, mg_ob aB 0 [.ref (qB)], mg_al K qB (64 * 6) uu.1]) := by
  intro sz
  refine mg_entry (Qc := fun A => va_Qv (fun (uu : (Nat → Nat) × (Nat → Nat)) => am_R 64 uu.1 uu.2 ∧ ∀ j, j < 2 ^ (2 * nc) → uu.2 j = jn_al (2 * nc) sr (su_F tb) mk j) (mg_B D A (fun (uu : (Nat → Nat) × (Nat → Nat)) => [mg_ob aS 4 [.ref (h), .ref (hM), .ref (hF), .ref (qsr), .ref (aB), .ref (aE), .ref (aQ), .ref (aT)], mg_ob h 1 [.ref (qf), .ref (qm), .ref (qr), .int (nI (nf)), .int (nI (nc))], mg_ob hF 3 [.ref (h), .ref (hM), .ref (qtb), .ref (ql)], mg_ai K qtb 256 tb, mg_ai K qsr 3 sr, mg_ob aB 0 [.ref (qB)], mg_al K qB (64 * 6) uu.1])) A) (by decide) (Nat.le_of_ble_eq_true rfl) ?_
  intro p e s m args below meth c A ls X hr hlk hnm hA hK hw hl
  have hl : lv_has ls 3 [(0, .ref (aS)), (1, .int (nI (mk)))] := hl
  have hw6 := mg_ways hnc
  refine mg_aload_n X 1 d_Su_comeFromBefore_0 (lv_at hl 0 rfl) rfl ?_
  refine mg_aload_n X 2 d_Su_comeFromBefore_1 (lv_at hl 0 rfl) rfl ?_
  refine mg_get X hK hw 5 0 4 f_Su_32 rfl rfl d_Su_comeFromBefore_2 rfl ?_
  refine mg_callVv X hK hw hA 8 [0, 1, 5, 6] 0 (fun u1 => [mg_ob aS 4 [.ref (h), .ref (hM), .ref (hF), .ref (qsr), .ref (aB), .ref (aE), .ref (aQ), .ref (aT)], mg_ob h 1 [.ref (qf), .ref (qm), .ref (qr), .int (nI (nf)), .int (nI (nc))], mg_ob hF 3 [.ref (h), .ref (hM), .ref (qtb), .ref (ql)], mg_ai K qtb 256 tb, mg_ai K qsr 3 sr, mg_ob aB 0 [.ref (qB)], mg_al K qB (64 * 6) u1]) rfl rfl (k_Su_fill l D K aS h hM hF qsr aB aE aQ aT qf qm qr nf nc aB qB dB VB (by omega) (hRB)) g_Su_115 ⟨by decide, by decide⟩ ⟨rfl, rfl⟩ rfl rfl rfl hl.1 (rest := []) (As := [.ref (aB)]) rfl (Nat.le_of_ble_eq_true rfl) d_Su_comeFromBefore_5 ⟨Nat.zero_le _, Nat.zero_le _⟩ (fun _ => rfl) (fun _ => rfl) rfl ?_
  intro u1 H locs hp2 hw
  refine mg_iconst X 9 0 d_Su_comeFromBefore_8 mg_ci_0 rfl ?_
  refine mg_istore_n X 10 [(2, .int (nI (0))), (0, .ref (aS)), (1, .int (nI (mk)))] d_Su_comeFromBefore_9 hl (by decide) rfl rfl (fun ls hl => ?_)
  have L10 : ∀ (n0 : Nat) (k : Nat) (u : Nat → Nat) (V : Nat → Nat), n0 = mk - k → (am_R 64 u V) → (k ≤ mk) → (∀ j, j < 2 ^ (2 * nc) → V j = jn_al (2 * nc) sr (su_F tb) k j) → ∀ (ls : Array Slot) (H : Heap) (locs : List Loc), lv_has ls 3 [(0, .ref (aS)), (1, .int (nI (mk))), (2, .int (nI (k)))] → mg_H D A s.heap H locs [mg_ob aS 4 [.ref (h), .ref (hM), .ref (hF), .ref (qsr), .ref (aB), .ref (aE), .ref (aQ), .ref (aT)], mg_ob h 1 [.ref (qf), .ref (qm), .ref (qr), .int (nI (nf)), .int (nI (nc))], mg_ob hF 3 [.ref (h), .ref (hM), .ref (qtb), .ref (ql)], mg_ai K qtb 256 tb, mg_ai K qsr 3 sr, mg_ob aB 0 [.ref (qB)], mg_al K qB (64 * 6) u] → W p l e ({ frames := 4, cells := 0, slots := 0, locals := 90 }) s m args below meth c H locs 0 0 (MQ below (va_Qv (fun (uu : (Nat → Nat) × (Nat → Nat)) => am_R 64 uu.1 uu.2 ∧ ∀ j, j < 2 ^ (2 * nc) → uu.2 j = jn_al (2 * nc) sr (su_F tb) mk j) (mg_B D A (fun (uu : (Nat → Nat) × (Nat → Nat)) => [mg_ob aS 4 [.ref (h), .ref (hM), .ref (hF), .ref (qsr), .ref (aB), .ref (aE), .ref (aQ), .ref (aT)], mg_ob h 1 [.ref (qf), .ref (qm), .ref (qr), .int (nI (nf)), .int (nI (nc))], mg_ob hF 3 [.ref (h), .ref (hM), .ref (qtb), .ref (ql)], mg_ai K qtb 256 tb, mg_ai K qsr 3 sr, mg_ob aB 0 [.ref (qB)], mg_al K qB (64 * 6) uu.1])) A) args s 0 0 A) (F0 m 10 ls []) := by
    intro n0
    induction n0 using Nat.strongRecOn with
    | ind n0 ih10 =>
    intro k u V hm10 hI hk hJ ls H locs hl hw
    refine mg_iload_n X 11 d_Su_comeFromBefore_10 (lv_at hl 2 rfl) rfl ?_
    refine mg_iload_n X 12 d_Su_comeFromBefore_11 (lv_at hl 1 rfl) rfl ?_
    refine mg_icmp_ge X 39 15 (by omega) (by omega) d_Su_comeFromBefore_12 (by decide) rfl (fun hb => ?_) (fun hb => ?_)
    · -- pc 12 t
      exact mg_vret X hr hlk ((u, V)) (⟨hI, by obtain rfl : k = mk := (by omega); exact hJ⟩) hw d_Su_comeFromBefore_39
    · -- pc 12 f
      refine mg_aload_n X 16 d_Su_comeFromBefore_15 (lv_at hl 0 rfl) rfl ?_
      refine mg_aload_n X 17 d_Su_comeFromBefore_16 (lv_at hl 0 rfl) rfl ?_
      refine mg_get X hK hw 20 0 4 f_Su_32 rfl rfl d_Su_comeFromBefore_17 rfl ?_
      refine mg_iload_n X 21 d_Su_comeFromBefore_20 (lv_at hl 2 rfl) rfl ?_
      refine mg_callVv X hK hw hA 24 [0, 1, 2, 3, 5, 6] 0 (fun u3 => [mg_ob aS 4 [.ref (h), .ref (hM), .ref (hF), .ref (qsr), .ref (aB), .ref (aE), .ref (aQ), .ref (aT)], mg_ob h 1 [.ref (qf), .ref (qm), .ref (qr), .int (nI (nf)), .int (nI (nc))], mg_ob hF 3 [.ref (h), .ref (hM), .ref (qtb), .ref (ql)], mg_ai K qtb 256 tb, mg_ai K qsr 3 sr, mg_ob aB 0 [.ref (qB)], mg_al K qB (64 * 6) u3]) rfl rfl (k_Su_multiplyByFits l D K aS h hM hF qsr aB aE aQ aT qf qm qr nf nc qtb ql aB qB k u V tb (by omega) (hI) (by omega) (fun j hj => hTb (k) j (by omega) hj) (fun j hj => su_lt (su_mul (by rw [hJ j hj]; exact su_al_le (by omega) hm4 hsr hTb k (by omega) j hj) (hTb (k) j (by omega) hj)) (by omega))) g_Su_59 ⟨by decide, by decide⟩ ⟨rfl, rfl⟩ rfl rfl rfl hl.1 (rest := []) (As := [.ref (aB), .int (nI (k))]) rfl (Nat.le_of_ble_eq_true rfl) d_Su_comeFromBefore_21 ⟨Nat.zero_le _, Nat.zero_le _⟩ (fun _ => rfl) (fun _ => rfl) rfl ?_
      intro u3 H locs hp4 hw
      refine mg_aload_n X 25 d_Su_comeFromBefore_24 (lv_at hl 0 rfl) rfl ?_
      refine mg_aload_n X 26 d_Su_comeFromBefore_25 (lv_at hl 0 rfl) rfl ?_
      refine mg_get X hK hw 29 0 4 f_Su_32 rfl rfl d_Su_comeFromBefore_26 rfl ?_
      refine mg_iload_n X 30 d_Su_comeFromBefore_29 (lv_at hl 2 rfl) rfl ?_
      refine mg_callVv X hK hw hA 33 [0, 1, 4, 5, 6] 0 (fun uu => [mg_ob aS 4 [.ref (h), .ref (hM), .ref (hF), .ref (qsr), .ref (aB), .ref (aE), .ref (aQ), .ref (aT)], mg_ob h 1 [.ref (qf), .ref (qm), .ref (qr), .int (nI (nf)), .int (nI (nc))], mg_ob hF 3 [.ref (h), .ref (hM), .ref (qtb), .ref (ql)], mg_ai K qtb 256 tb, mg_ai K qsr 3 sr, mg_ob aB 0 [.ref (qB)], mg_al K qB (64 * 6) uu.1]) rfl rfl (k_Su_crossGap l D K aS h hM hF qsr aB aE aQ aT qf qm qr nf nc aB qB k (2 ^ (42 * k + 18)) u3 (su_pt (fun j => V j * tb (k * 64 + j)) V (2 ^ (2 * nc))) sr (fun j => jn_al (2 * nc) sr (su_F tb) k j * su_F tb k j) (by omega) (hp4) (by omega) (hsr k (by omega)) (fun j hj => by rw [su_ptl _ _ hj, hJ j hj]; rfl) (fun j hj => su_mul (su_al_le (by omega) hm4 hsr hTb k (by omega) j hj) (hTb k j (by omega) hj)) (su_lt (su_mul (Nat.le_refl _) (su_16 (by omega))) (by omega))) g_Su_119 ⟨by decide, by decide⟩ ⟨rfl, rfl⟩ rfl rfl rfl hl.1 (rest := []) (As := [.ref (aB), .int (nI (k))]) rfl (Nat.le_of_ble_eq_true rfl) d_Su_comeFromBefore_30 ⟨Nat.zero_le _, Nat.zero_le _⟩ (fun _ => rfl) (fun _ => rfl) rfl ?_
      intro u H locs hp6 hw
      obtain ⟨u5, V15⟩ := u
      dsimp only at hp6 hw
      refine mg_iinc X 36 [(2, .int (nI (k + 1))), (0, .ref (aS)), (1, .int (nI (mk)))] (k + 1) d_Su_comeFromBefore_33 hl (k := 2) rfl (mg_inc1 _) (by decide) rfl rfl (fun ls hl => ?_)
      refine mg_goto X 10 d_Su_comeFromBefore_36 (by decide) ?_
      have hl : lv_has ls 3 [(0, .ref (aS)), (1, .int (nI (mk))), (2, .int (nI (k + 1)))] := lv_sub hl [1, 2, 0] rfl
      exact ih10 _ (by omega) (k + 1) u5 V15 rfl (hp6.1) (by omega) (hp6.2) ls _ _ hl hw
  have hl : lv_has ls 3 [(0, .ref (aS)), (1, .int (nI (mk))), (2, .int (nI (0)))] := lv_sub hl [1, 2, 0] rfl
  exact L10 _ 0 u1 (su_pt (fun _ => 1) VB (2 ^ (2 * nc))) rfl (hp2) (Nat.zero_le _) (fun j hj => su_ptl _ _ hj) ls _ _ hl hw

set_option maxRecDepth 100000 in
set_option maxHeartbeats 4000000 in
theorem k_Su_comeFromBehind (l : Launch) (D : va_G) (K : Nat → ClassId) (aS : Nat) (h : Nat) (hM : Nat) (hF : Nat) (qsr : Nat) (aB : Nat) (aE : Nat) (aQ : Nat) (aT : Nat) (qf : Nat) (qm : Nat) (qr : Nat) (nf : Nat) (nc : Nat) (qtb : Nat) (ql : Nat) (qw : Nat) (qra : Nat) (qo : Nat) (qt : Nat) (nm : Nat) (sg : Nat) (qE : Nat) (mk : Nat) (tb : Nat → Nat) (sr : Nat → Nat) (dE : Nat → Nat) (VE : Nat → Nat) (hnc : nc ≤ 3) (hm4 : nm ≤ 4) (hsr : ∀ i, i + 1 < nm → sr i ≤ 16) (hTb : ∀ i w, i < nm → w < 2 ^ (2 * nc) → su_F tb i w ≤ 2 ^ 18) (hRE : am_R 64 dE VE) (hm : mk < nm) : mg_Mv l D K y_Su_comeFromBehind b_Su_comeFromBehind 3 ({ frames := 4, cells := 0, slots := 0, locals := 90 }) [.ref (aS), .int (nI (mk))] [mg_ob aS 4 [.ref (h), .ref (hM), .ref (hF), .ref (qsr), .ref (aB), .ref (aE), .ref (aQ), .ref (aT)], mg_ob h 1 [.ref (qf), .ref (qm), .ref (qr), .int (nI (nf)), .int (nI (nc))], mg_ob hM 2 [.ref (qw), .ref (qra), .ref (qo), .ref (qt), .int (nI (nm)), .int (nI (sg))], mg_ob hF 3 [.ref (h), .ref (hM), .ref (qtb), .ref (ql)], mg_ai K qtb 256 tb, mg_ai K qsr 3 sr, mg_ob aE 0 [.ref (qE)], mg_al K qE (64 * 6) dE] (fun (uu : (Nat → Nat) × (Nat → Nat)) => am_R 64 uu.1 uu.2 ∧ ∀ j, j < 2 ^ (2 * nc) → uu.2 j = jn_be (2 * nc) sr (su_F tb) (nm - 1) (nm - 1 - mk) j) (fun (uu : (Nat → Nat) × (Nat → Nat)) => [mg_ob aS 4 [.ref (h), .ref (hM), .ref (hF), .ref (qsr), .ref (aB), .ref (aE), .ref (aQ), .ref (aT)], mg_ob h 1 [.ref (qf), .ref (qm), .ref (qr), .int (nI (nf)), .int (nI (nc))], mg_ob hM 2 [.ref (qw), .ref (qra), .ref (qo), .ref (qt), .int (nI (nm)), .int (nI (sg))], mg_ob hF 3 [.ref (h), .ref (hM), .ref (qtb), .ref (ql)], mg_ai K qtb 256 tb, mg_ai K qsr 3 sr, mg_ob aE 0 [.ref (qE)], mg_al K qE (64 * 6) uu.1]) := by
  intro sz
  refine mg_entry (Qc := fun A => va_Qv (fun (uu : (Nat → Nat) × (Nat → Nat)) => am_R 64 uu.1 uu.2 ∧ ∀ j, j < 2 ^ (2 * nc) → uu.2 j = jn_be (2 * nc) sr (su_F tb) (nm - 1) (nm - 1 - mk) j) (mg_B D A (fun (uu : (Nat → Nat) × (Nat → Nat)) => [mg_ob aS 4 [.ref (h), .ref (hM), .ref (hF), .ref (qsr), .ref (aB), .ref (aE), .ref (aQ), .ref (aT)], mg_ob h 1 [.ref (qf), .ref (qm), .ref (qr), .int (nI (nf)), .int (nI (nc))], mg_ob hM 2 [.ref (qw), .ref (qra), .ref (qo), .ref (qt), .int (nI (nm)), .int (nI (sg))], mg_ob hF 3 [.ref (h), .ref (hM), .ref (qtb), .ref (ql)], mg_ai K qtb 256 tb, mg_ai K qsr 3 sr, mg_ob aE 0 [.ref (qE)], mg_al K qE (64 * 6) uu.1])) A) (by decide) (Nat.le_of_ble_eq_true rfl) ?_
  intro p e s m args below meth c A ls X hr hlk hnm hA hK hw hl
  have hl : lv_has ls 3 [(0, .ref (aS)), (1, .int (nI (mk)))] := hl
  have hw6 := mg_ways hnc
  refine mg_aload_n X 1 d_Su_comeFromBehind_0 (lv_at hl 0 rfl) rfl ?_
  refine mg_aload_n X 2 d_Su_comeFromBehind_1 (lv_at hl 0 rfl) rfl ?_
  refine mg_get X hK hw 5 0 5 f_Su_36 rfl rfl d_Su_comeFromBehind_2 rfl ?_
  refine mg_callVv X hK hw hA 8 [0, 1, 6, 7] 0 (fun u1 => [mg_ob aS 4 [.ref (h), .ref (hM), .ref (hF), .ref (qsr), .ref (aB), .ref (aE), .ref (aQ), .ref (aT)], mg_ob h 1 [.ref (qf), .ref (qm), .ref (qr), .int (nI (nf)), .int (nI (nc))], mg_ob hM 2 [.ref (qw), .ref (qra), .ref (qo), .ref (qt), .int (nI (nm)), .int (nI (sg))], mg_ob hF 3 [.ref (h), .ref (hM), .ref (qtb), .ref (ql)], mg_ai K qtb 256 tb, mg_ai K qsr 3 sr, mg_ob aE 0 [.ref (qE)], mg_al K qE (64 * 6) u1]) rfl rfl (k_Su_fill l D K aS h hM hF qsr aB aE aQ aT qf qm qr nf nc aE qE dE VE (by omega) (hRE)) g_Su_115 ⟨by decide, by decide⟩ ⟨rfl, rfl⟩ rfl rfl rfl hl.1 (rest := []) (As := [.ref (aE)]) rfl (Nat.le_of_ble_eq_true rfl) d_Su_comeFromBehind_5 ⟨Nat.zero_le _, Nat.zero_le _⟩ (fun _ => rfl) (fun _ => rfl) rfl ?_
  intro u1 H locs hp2 hw
  refine mg_aload_n X 9 d_Su_comeFromBehind_8 (lv_at hl 0 rfl) rfl ?_
  refine mg_get X hK hw 12 0 1 f_Su_15 rfl rfl d_Su_comeFromBehind_9 rfl ?_
  refine mg_get X hK hw 15 2 4 f_Su_52 rfl rfl d_Su_comeFromBehind_12 rfl ?_
  refine mg_iconst X 16 1 d_Su_comeFromBehind_15 mg_ci_1 rfl ?_
  refine mg_isub X 17 (nI (nm - 1)) d_Su_comeFromBehind_16 (pk_sub (by omega)) rfl ?_
  refine mg_istore_n X 18 [(2, .int (nI (nm - 1))), (0, .ref (aS)), (1, .int (nI (mk)))] d_Su_comeFromBehind_17 hl (by decide) rfl rfl (fun ls hl => ?_)
  have L18 : ∀ (n0 : Nat) (k : Nat) (u : Nat → Nat) (V : Nat → Nat), n0 = k → (am_R 64 u V) → (mk ≤ k) → (k ≤ nm - 1) → (∀ j, j < 2 ^ (2 * nc) → V j = jn_be (2 * nc) sr (su_F tb) (nm - 1) (nm - 1 - k) j) → ∀ (ls : Array Slot) (H : Heap) (locs : List Loc), lv_has ls 3 [(0, .ref (aS)), (1, .int (nI (mk))), (2, .int (nI (k)))] → mg_H D A s.heap H locs [mg_ob aS 4 [.ref (h), .ref (hM), .ref (hF), .ref (qsr), .ref (aB), .ref (aE), .ref (aQ), .ref (aT)], mg_ob h 1 [.ref (qf), .ref (qm), .ref (qr), .int (nI (nf)), .int (nI (nc))], mg_ob hM 2 [.ref (qw), .ref (qra), .ref (qo), .ref (qt), .int (nI (nm)), .int (nI (sg))], mg_ob hF 3 [.ref (h), .ref (hM), .ref (qtb), .ref (ql)], mg_ai K qtb 256 tb, mg_ai K qsr 3 sr, mg_ob aE 0 [.ref (qE)], mg_al K qE (64 * 6) u] → W p l e ({ frames := 4, cells := 0, slots := 0, locals := 90 }) s m args below meth c H locs 0 0 (MQ below (va_Qv (fun (uu : (Nat → Nat) × (Nat → Nat)) => am_R 64 uu.1 uu.2 ∧ ∀ j, j < 2 ^ (2 * nc) → uu.2 j = jn_be (2 * nc) sr (su_F tb) (nm - 1) (nm - 1 - mk) j) (mg_B D A (fun (uu : (Nat → Nat) × (Nat → Nat)) => [mg_ob aS 4 [.ref (h), .ref (hM), .ref (hF), .ref (qsr), .ref (aB), .ref (aE), .ref (aQ), .ref (aT)], mg_ob h 1 [.ref (qf), .ref (qm), .ref (qr), .int (nI (nf)), .int (nI (nc))], mg_ob hM 2 [.ref (qw), .ref (qra), .ref (qo), .ref (qt), .int (nI (nm)), .int (nI (sg))], mg_ob hF 3 [.ref (h), .ref (hM), .ref (qtb), .ref (ql)], mg_ai K qtb 256 tb, mg_ai K qsr 3 sr, mg_ob aE 0 [.ref (qE)], mg_al K qE (64 * 6) uu.1])) A) args s 0 0 A) (F0 m 18 ls []) := by
    intro n0
    induction n0 using Nat.strongRecOn with
    | ind n0 ih18 =>
    intro k u V hm18 hI hk hk2 hJ ls H locs hl hw
    refine mg_iload_n X 19 d_Su_comeFromBehind_18 (lv_at hl 2 rfl) rfl ?_
    refine mg_iload_n X 20 d_Su_comeFromBehind_19 (lv_at hl 1 rfl) rfl ?_
    refine mg_icmp_le X 49 23 (by omega) (by omega) d_Su_comeFromBehind_20 (by decide) rfl (fun hb => ?_) (fun hb => ?_)
    · -- pc 20 t
      exact mg_vret X hr hlk ((u, V)) (⟨hI, by obtain rfl : k = mk := (by omega); exact hJ⟩) hw d_Su_comeFromBehind_49
    · -- pc 20 f
      refine mg_aload_n X 24 d_Su_comeFromBehind_23 (lv_at hl 0 rfl) rfl ?_
      refine mg_aload_n X 25 d_Su_comeFromBehind_24 (lv_at hl 0 rfl) rfl ?_
      refine mg_get X hK hw 28 0 5 f_Su_36 rfl rfl d_Su_comeFromBehind_25 rfl ?_
      refine mg_iload_n X 29 d_Su_comeFromBehind_28 (lv_at hl 2 rfl) rfl ?_
      refine mg_callVv X hK hw hA 32 [0, 1, 3, 4, 6, 7] 0 (fun u3 => [mg_ob aS 4 [.ref (h), .ref (hM), .ref (hF), .ref (qsr), .ref (aB), .ref (aE), .ref (aQ), .ref (aT)], mg_ob h 1 [.ref (qf), .ref (qm), .ref (qr), .int (nI (nf)), .int (nI (nc))], mg_ob hM 2 [.ref (qw), .ref (qra), .ref (qo), .ref (qt), .int (nI (nm)), .int (nI (sg))], mg_ob hF 3 [.ref (h), .ref (hM), .ref (qtb), .ref (ql)], mg_ai K qtb 256 tb, mg_ai K qsr 3 sr, mg_ob aE 0 [.ref (qE)], mg_al K qE (64 * 6) u3]) rfl rfl (k_Su_multiplyByFits l D K aS h hM hF qsr aB aE aQ aT qf qm qr nf nc qtb ql aE qE k u V tb (by omega) (hI) (by omega) (fun j hj => hTb (k) j (by omega) hj) (fun j hj => su_lt (su_mul (by rw [hJ j hj]; exact su_be_le (by omega) hm4 hsr hTb (nm - 1 - k) (by omega) j hj) (hTb (k) j (by omega) hj)) (by omega))) g_Su_59 ⟨by decide, by decide⟩ ⟨rfl, rfl⟩ rfl rfl rfl hl.1 (rest := []) (As := [.ref (aE), .int (nI (k))]) rfl (Nat.le_of_ble_eq_true rfl) d_Su_comeFromBehind_29 ⟨Nat.zero_le _, Nat.zero_le _⟩ (fun _ => rfl) (fun _ => rfl) rfl ?_
      intro u3 H locs hp4 hw
      refine mg_aload_n X 33 d_Su_comeFromBehind_32 (lv_at hl 0 rfl) rfl ?_
      refine mg_aload_n X 34 d_Su_comeFromBehind_33 (lv_at hl 0 rfl) rfl ?_
      refine mg_get X hK hw 37 0 5 f_Su_36 rfl rfl d_Su_comeFromBehind_34 rfl ?_
      refine mg_iload_n X 38 d_Su_comeFromBehind_37 (lv_at hl 2 rfl) rfl ?_
      refine mg_iconst X 39 1 d_Su_comeFromBehind_38 mg_ci_1 rfl ?_
      refine mg_isub X 40 (nI (k - 1)) d_Su_comeFromBehind_39 (pk_sub (by omega)) rfl ?_
      refine mg_callVv X hK hw hA 43 [0, 1, 5, 6, 7] 0 (fun uu => [mg_ob aS 4 [.ref (h), .ref (hM), .ref (hF), .ref (qsr), .ref (aB), .ref (aE), .ref (aQ), .ref (aT)], mg_ob h 1 [.ref (qf), .ref (qm), .ref (qr), .int (nI (nf)), .int (nI (nc))], mg_ob hM 2 [.ref (qw), .ref (qra), .ref (qo), .ref (qt), .int (nI (nm)), .int (nI (sg))], mg_ob hF 3 [.ref (h), .ref (hM), .ref (qtb), .ref (ql)], mg_ai K qtb 256 tb, mg_ai K qsr 3 sr, mg_ob aE 0 [.ref (qE)], mg_al K qE (64 * 6) uu.1]) rfl rfl (k_Su_crossGap l D K aS h hM hF qsr aB aE aQ aT qf qm qr nf nc aE qE (k - 1) (2 ^ (42 * (nm - 1 - k) + 18)) u3 (su_pt (fun j => V j * tb (k * 64 + j)) V (2 ^ (2 * nc))) sr (fun j => jn_be (2 * nc) sr (su_F tb) (nm - 1) (nm - 1 - k) j * su_F tb k j) (by omega) (hp4) (by omega) (hsr (k - 1) (by omega)) (fun j hj => by rw [su_ptl _ _ hj, hJ j hj]; rfl) (fun j hj => su_mul (su_be_le (by omega) hm4 hsr hTb (nm - 1 - k) (by omega) j hj) (hTb k j (by omega) hj)) (su_lt (su_mul (Nat.le_refl _) (su_16 (by omega))) (by omega))) g_Su_119 ⟨by decide, by decide⟩ ⟨rfl, rfl⟩ rfl rfl rfl hl.1 (rest := []) (As := [.ref (aE), .int (nI (k - 1))]) rfl (Nat.le_of_ble_eq_true rfl) d_Su_comeFromBehind_40 ⟨Nat.zero_le _, Nat.zero_le _⟩ (fun _ => rfl) (fun _ => rfl) rfl ?_
      intro u H locs hp6 hw
      obtain ⟨u5, V15⟩ := u
      dsimp only at hp6 hw
      refine mg_iinc X 46 [(2, .int (nI (k - 1))), (0, .ref (aS)), (1, .int (nI (mk)))] (k - 1) d_Su_comeFromBehind_43 hl (k := 2) rfl (mg_dec1 (by omega)) (by decide) rfl rfl (fun ls hl => ?_)
      refine mg_goto X 18 d_Su_comeFromBehind_46 (by decide) ?_
      have hl : lv_has ls 3 [(0, .ref (aS)), (1, .int (nI (mk))), (2, .int (nI (k - 1)))] := lv_sub hl [1, 2, 0] rfl
      exact ih18 _ (by omega) (k - 1) u5 V15 rfl (hp6.1) (by omega) (by omega) (fun j hj => by rw [hp6.2 j hj, show nm - 1 - (k - 1) = (nm - 1 - k) + 1 by omega]; show _ = jn_cr (sr (nm - 1 - (nm - 1 - k + 1))) _ _ _; rw [show nm - 1 - (nm - 1 - k + 1) = k - 1 by omega, show nm - 1 - (nm - 1 - k) = k by omega]) ls _ _ hl hw
  have hl : lv_has ls 3 [(0, .ref (aS)), (1, .int (nI (mk))), (2, .int (nI (nm - 1)))] := lv_sub hl [1, 2, 0] rfl
  exact L18 _ (nm - 1) u1 (su_pt (fun _ => 1) VE (2 ^ (2 * nc))) rfl (hp2) (by omega) (by omega) (fun j hj => by rw [su_ptl _ _ hj, Nat.sub_self]; rfl) ls _ _ hl hw

set_option maxRecDepth 100000 in
set_option maxHeartbeats 4000000 in
theorem k_Su_sumTo (l : Launch) (D : va_G) (K : Nat → ClassId) (aS : Nat) (h : Nat) (hM : Nat) (hF : Nat) (qsr : Nat) (aB : Nat) (aE : Nat) (aQ : Nat) (aT : Nat) (qf : Nat) (qm : Nat) (qr : Nat) (nf : Nat) (nc : Nat) (qtb : Nat) (ql : Nat) (qw : Nat) (qra : Nat) (qo : Nat) (qt : Nat) (nm : Nat) (sg : Nat) (qB : Nat) (qT : Nat) (t : Nat) (tb : Nat → Nat) (sr : Nat → Nat) (dB : Nat → Nat) (VB : Nat → Nat) (dT : Nat → Nat) (VT : Nat → Nat) (hnc : nc ≤ 3) (hm4 : nm ≤ 4) (hsr : ∀ i, i + 1 < nm → sr i ≤ 16) (hTb : ∀ i w, i < nm → w < 2 ^ (2 * nc) → su_F tb i w ≤ 2 ^ 18) (hRB : am_R 64 dB VB) (hRT : am_R 4 dT VT) (ht : t < 4) (h0 : 0 < nm) : mg_Mv l D K y_Su_sumTo b_Su_sumTo 3 ({ frames := 5, cells := 0, slots := 0, locals := 120 }) [.ref (aS), .int (nI (t))] [mg_ob aS 4 [.ref (h), .ref (hM), .ref (hF), .ref (qsr), .ref (aB), .ref (aE), .ref (aQ), .ref (aT)], mg_ob h 1 [.ref (qf), .ref (qm), .ref (qr), .int (nI (nf)), .int (nI (nc))], mg_ob hM 2 [.ref (qw), .ref (qra), .ref (qo), .ref (qt), .int (nI (nm)), .int (nI (sg))], mg_ob hF 3 [.ref (h), .ref (hM), .ref (qtb), .ref (ql)], mg_ai K qtb 256 tb, mg_ai K qsr 3 sr, mg_ob aB 0 [.ref (qB)], mg_al K qB (64 * 6) dB, mg_ob aT 0 [.ref (qT)], mg_al K qT (4 * 6) dT] (fun (uu : (Nat → Nat) × (Nat → Nat) × (Nat → Nat)) => am_R 64 uu.1 uu.2.1 ∧ am_R 4 uu.2.2 (va_up VT t (jn_J (2 * nc) sr (su_F tb) (nm - 1)))) (fun (uu : (Nat → Nat) × (Nat → Nat) × (Nat → Nat)) => [mg_ob aS 4 [.ref (h), .ref (hM), .ref (hF), .ref (qsr), .ref (aB), .ref (aE), .ref (aQ), .ref (aT)], mg_ob h 1 [.ref (qf), .ref (qm), .ref (qr), .int (nI (nf)), .int (nI (nc))], mg_ob hM 2 [.ref (qw), .ref (qra), .ref (qo), .ref (qt), .int (nI (nm)), .int (nI (sg))], mg_ob hF 3 [.ref (h), .ref (hM), .ref (qtb), .ref (ql)], mg_ai K qtb 256 tb, mg_ai K qsr 3 sr, mg_ob aB 0 [.ref (qB)], mg_al K qB (64 * 6) uu.1, mg_ob aT 0 [.ref (qT)], mg_al K qT (4 * 6) uu.2.2]) := by
  intro sz
  refine mg_entry (Qc := fun A => va_Qv (fun (uu : (Nat → Nat) × (Nat → Nat) × (Nat → Nat)) => am_R 64 uu.1 uu.2.1 ∧ am_R 4 uu.2.2 (va_up VT t (jn_J (2 * nc) sr (su_F tb) (nm - 1)))) (mg_B D A (fun (uu : (Nat → Nat) × (Nat → Nat) × (Nat → Nat)) => [mg_ob aS 4 [.ref (h), .ref (hM), .ref (hF), .ref (qsr), .ref (aB), .ref (aE), .ref (aQ), .ref (aT)], mg_ob h 1 [.ref (qf), .ref (qm), .ref (qr), .int (nI (nf)), .int (nI (nc))], mg_ob hM 2 [.ref (qw), .ref (qra), .ref (qo), .ref (qt), .int (nI (nm)), .int (nI (sg))], mg_ob hF 3 [.ref (h), .ref (hM), .ref (qtb), .ref (ql)], mg_ai K qtb 256 tb, mg_ai K qsr 3 sr, mg_ob aB 0 [.ref (qB)], mg_al K qB (64 * 6) uu.1, mg_ob aT 0 [.ref (qT)], mg_al K qT (4 * 6) uu.2.2])) A) (by decide) (Nat.le_of_ble_eq_true rfl) ?_
  intro p e s m args below meth c A ls X hr hlk hnm hA hK hw hl
  have hl : lv_has ls 3 [(0, .ref (aS)), (1, .int (nI (t)))] := hl
  have hw6 := mg_ways hnc
  refine mg_aload_n X 1 d_Su_sumTo_0 (lv_at hl 0 rfl) rfl ?_
  refine mg_get X hK hw 4 0 1 f_Su_15 rfl rfl d_Su_sumTo_1 rfl ?_
  refine mg_get X hK hw 7 2 4 f_Su_52 rfl rfl d_Su_sumTo_4 rfl ?_
  refine mg_iconst X 8 1 d_Su_sumTo_7 mg_ci_1 rfl ?_
  refine mg_isub X 9 (nI (nm - 1)) d_Su_sumTo_8 (pk_sub (by omega)) rfl ?_
  refine mg_istore_n X 10 [(2, .int (nI (nm - 1))), (0, .ref (aS)), (1, .int (nI (t)))] d_Su_sumTo_9 hl (by decide) rfl rfl (fun ls hl => ?_)
  refine mg_aload_n X 11 d_Su_sumTo_10 (lv_at hl 1 rfl) rfl ?_
  refine mg_iload_n X 12 d_Su_sumTo_11 (lv_at hl 0 rfl) rfl ?_
  refine mg_callVv X hK hw hA 15 [0, 1, 3, 4, 5, 6, 7] 0 (fun uu => [mg_ob aS 4 [.ref (h), .ref (hM), .ref (hF), .ref (qsr), .ref (aB), .ref (aE), .ref (aQ), .ref (aT)], mg_ob h 1 [.ref (qf), .ref (qm), .ref (qr), .int (nI (nf)), .int (nI (nc))], mg_ob hM 2 [.ref (qw), .ref (qra), .ref (qo), .ref (qt), .int (nI (nm)), .int (nI (sg))], mg_ob hF 3 [.ref (h), .ref (hM), .ref (qtb), .ref (ql)], mg_ai K qtb 256 tb, mg_ai K qsr 3 sr, mg_ob aB 0 [.ref (qB)], mg_al K qB (64 * 6) uu.1, mg_ob aT 0 [.ref (qT)], mg_al K qT (4 * 6) dT]) rfl rfl (k_Su_comeFromBefore l D K aS h hM hF qsr aB aE aQ aT qf qm qr nf nc qtb ql qB nm (nm - 1) tb sr dB VB (by omega) (by omega) (by omega) (by omega) (hRB) (by omega)) g_Su_56 ⟨by decide, by decide⟩ ⟨rfl, rfl⟩ rfl rfl rfl hl.1 (rest := []) (As := [.int (nI (nm - 1))]) rfl (Nat.le_of_ble_eq_true rfl) d_Su_sumTo_12 ⟨Nat.zero_le _, Nat.zero_le _⟩ (fun _ => rfl) (fun _ => rfl) rfl ?_
  intro u H locs hJ0 hw
  obtain ⟨u1, V11⟩ := u
  dsimp only at hJ0 hw
  have hI := hJ0.1
  have hJ := hJ0.2
  refine mg_aload_n X 16 d_Su_sumTo_15 (lv_at hl 1 rfl) rfl ?_
  refine mg_aload_n X 17 d_Su_sumTo_16 (lv_at hl 1 rfl) rfl ?_
  refine mg_get X hK hw 20 0 4 f_Su_32 rfl rfl d_Su_sumTo_17 rfl ?_
  refine mg_iload_n X 21 d_Su_sumTo_20 (lv_at hl 0 rfl) rfl ?_
  refine mg_callVv X hK hw hA 24 [0, 1, 3, 4, 6, 7] 0 (fun u2 => [mg_ob aS 4 [.ref (h), .ref (hM), .ref (hF), .ref (qsr), .ref (aB), .ref (aE), .ref (aQ), .ref (aT)], mg_ob h 1 [.ref (qf), .ref (qm), .ref (qr), .int (nI (nf)), .int (nI (nc))], mg_ob hM 2 [.ref (qw), .ref (qra), .ref (qo), .ref (qt), .int (nI (nm)), .int (nI (sg))], mg_ob hF 3 [.ref (h), .ref (hM), .ref (qtb), .ref (ql)], mg_ai K qtb 256 tb, mg_ai K qsr 3 sr, mg_ob aB 0 [.ref (qB)], mg_al K qB (64 * 6) u2, mg_ob aT 0 [.ref (qT)], mg_al K qT (4 * 6) dT]) rfl rfl (k_Su_multiplyByFits l D K aS h hM hF qsr aB aE aQ aT qf qm qr nf nc qtb ql aB qB (nm - 1) u1 V11 tb (by omega) (hJ0.1) (by omega) (fun j hj => hTb (nm - 1) j (by omega) hj) (fun j hj => su_lt (su_mul (by rw [hJ j hj]; exact su_al_le (by omega) hm4 hsr hTb (nm - 1) (by omega) j hj) (hTb (nm - 1) j (by omega) hj)) (by omega))) g_Su_59 ⟨by decide, by decide⟩ ⟨rfl, rfl⟩ rfl rfl rfl hl.1 (rest := []) (As := [.ref (aB), .int (nI (nm - 1))]) rfl (Nat.le_of_ble_eq_true rfl) d_Su_sumTo_21 ⟨Nat.zero_le _, Nat.zero_le _⟩ (fun _ => rfl) (fun _ => rfl) rfl ?_
  intro u2 H locs hp3 hw
  have hz : zs_sum (2 ^ (2 * nc)) (su_pt (fun j => V11 j * tb ((nm - 1) * 64 + j)) V11 (2 ^ (2 * nc))) = jn_J (2 * nc) sr (su_F tb) (nm - 1) := zs_congr (fun j hj => by rw [su_ptl _ _ hj, hJ j hj]; rfl)
  refine mg_aload_n X 25 d_Su_sumTo_24 (lv_at hl 1 rfl) rfl ?_
  refine mg_iload_n X 26 d_Su_sumTo_25 (lv_at hl 2 rfl) rfl ?_
  refine mg_aload_n X 27 d_Su_sumTo_26 (lv_at hl 1 rfl) rfl ?_
  refine mg_get X hK hw 30 0 4 f_Su_32 rfl rfl d_Su_sumTo_27 rfl ?_
  refine mg_callVv X hK hw hA 33 [0, 1, 8, 9, 6, 7] 0 (fun u4 => [mg_ob aS 4 [.ref (h), .ref (hM), .ref (hF), .ref (qsr), .ref (aB), .ref (aE), .ref (aQ), .ref (aT)], mg_ob h 1 [.ref (qf), .ref (qm), .ref (qr), .int (nI (nf)), .int (nI (nc))], mg_ob hM 2 [.ref (qw), .ref (qra), .ref (qo), .ref (qt), .int (nI (nm)), .int (nI (sg))], mg_ob hF 3 [.ref (h), .ref (hM), .ref (qtb), .ref (ql)], mg_ai K qtb 256 tb, mg_ai K qsr 3 sr, mg_ob aB 0 [.ref (qB)], mg_al K qB (64 * 6) u2, mg_ob aT 0 [.ref (qT)], mg_al K qT (4 * 6) u4]) rfl rfl (k_Su_addUp l D K aS h hM hF qsr aB aE aQ aT qf qm qr nf nc qT aB qB t dT VT u2 (su_pt (fun j => V11 j * tb ((nm - 1) * 64 + j)) V11 (2 ^ (2 * nc))) (by omega) (hRT) (hp3) (by omega) (by rw [hz]; exact su_lt (su_J_le (by omega) hm4 h0 hsr hTb) (by omega))) g_Su_63 ⟨by decide, by decide⟩ ⟨rfl, rfl⟩ rfl rfl rfl hl.1 (rest := []) (As := [.int (nI (t)), .ref (aB)]) rfl (Nat.le_of_ble_eq_true rfl) d_Su_sumTo_30 ⟨Nat.zero_le _, Nat.zero_le _⟩ (fun _ => rfl) (fun _ => rfl) rfl ?_
  intro u4 H locs hp5 hw
  exact mg_vret X hr hlk ((u2, su_pt (fun j => V11 j * tb ((nm - 1) * 64 + j)) V11 (2 ^ (2 * nc)), u4)) (⟨hp3, by have h9 := hp5; rw [hz] at h9; exact h9⟩) hw d_Su_sumTo_33

set_option maxRecDepth 100000 in
set_option maxHeartbeats 4000000 in
theorem k_Su_split (l : Launch) (D : va_G) (K : Nat → ClassId) (aS : Nat) (h : Nat) (hM : Nat) (hF : Nat) (qsr : Nat) (aB : Nat) (aE : Nat) (aQ : Nat) (aT : Nat) (qf : Nat) (qm : Nat) (qr : Nat) (nf : Nat) (nc : Nat) (qtb : Nat) (ql : Nat) (qw : Nat) (qra : Nat) (qo : Nat) (qt : Nat) (nm : Nat) (sg : Nat) (qB : Nat) (qE : Nat) (qQ : Nat) (qT : Nat) (mk : Nat) (tb : Nat → Nat) (sr : Nat → Nat) (dB : Nat → Nat) (VB : Nat → Nat) (dE : Nat → Nat) (VE : Nat → Nat) (dQ : Nat → Nat) (VQ : Nat → Nat) (dT : Nat → Nat) (VT : Nat → Nat) (hnc : nc ≤ 3) (hm4 : nm ≤ 4) (hsr : ∀ i, i + 1 < nm → sr i ≤ 16) (hTb : ∀ i w, i < nm → w < 2 ^ (2 * nc) → su_F tb i w ≤ 2 ^ 18) (hRB : am_R 64 dB VB) (hRE : am_R 64 dE VE) (hRQ : am_R 64 dQ VQ) (hRT : am_R 4 dT VT) (hm : mk < nm) : mg_Mv l D K y_Su_split b_Su_split 3 ({ frames := 5, cells := 0, slots := 0, locals := 120 }) [.ref (aS), .int (nI (mk))] [mg_ob aS 4 [.ref (h), .ref (hM), .ref (hF), .ref (qsr), .ref (aB), .ref (aE), .ref (aQ), .ref (aT)], mg_ob h 1 [.ref (qf), .ref (qm), .ref (qr), .int (nI (nf)), .int (nI (nc))], mg_ob hM 2 [.ref (qw), .ref (qra), .ref (qo), .ref (qt), .int (nI (nm)), .int (nI (sg))], mg_ob hF 3 [.ref (h), .ref (hM), .ref (qtb), .ref (ql)], mg_ai K qtb 256 tb, mg_ai K qsr 3 sr, mg_ob aB 0 [.ref (qB)], mg_al K qB (64 * 6) dB, mg_ob aE 0 [.ref (qE)], mg_al K qE (64 * 6) dE, mg_ob aQ 0 [.ref (qQ)], mg_al K qQ (64 * 6) dQ, mg_ob aT 0 [.ref (qT)], mg_al K qT (4 * 6) dT] (fun (uu : (Nat → Nat) × (Nat → Nat) × (Nat → Nat) × (Nat → Nat) × (Nat → Nat) × (Nat → Nat) × (Nat → Nat)) => am_R 64 uu.1 uu.2.1 ∧ am_R 64 uu.2.2.1 uu.2.2.2.1 ∧ am_R 64 uu.2.2.2.2.1 uu.2.2.2.2.2.1 ∧ (∀ j, j < 2 ^ (2 * nc) → uu.2.2.2.2.2.1 j = jn_pt (2 * nc) sr (su_F tb) (nm - 1) mk j) ∧ am_R 4 uu.2.2.2.2.2.2 (va_up VT 0 (jn_J (2 * nc) sr (su_F tb) (nm - 1)))) (fun (uu : (Nat → Nat) × (Nat → Nat) × (Nat → Nat) × (Nat → Nat) × (Nat → Nat) × (Nat → Nat) × (Nat → Nat)) => [mg_ob aS 4 [.ref (h), .ref (hM), .ref (hF), .ref (qsr), .ref (aB), .ref (aE), .ref (aQ), .ref (aT)], mg_ob h 1 [.ref (qf), .ref (qm), .ref (qr), .int (nI (nf)), .int (nI (nc))], mg_ob hM 2 [.ref (qw), .ref (qra), .ref (qo), .ref (qt), .int (nI (nm)), .int (nI (sg))], mg_ob hF 3 [.ref (h), .ref (hM), .ref (qtb), .ref (ql)], mg_ai K qtb 256 tb, mg_ai K qsr 3 sr, mg_ob aB 0 [.ref (qB)], mg_al K qB (64 * 6) uu.1, mg_ob aE 0 [.ref (qE)], mg_al K qE (64 * 6) uu.2.2.1, mg_ob aQ 0 [.ref (qQ)], mg_al K qQ (64 * 6) uu.2.2.2.2.1, mg_ob aT 0 [.ref (qT)], mg_al K qT (4 * 6) uu.2.2.2.2.2.2]) := by
  intro sz
  refine mg_entry (Qc := fun A => va_Qv (fun (uu : (Nat → Nat) × (Nat → Nat) × (Nat → Nat) × (Nat → Nat) × (Nat → Nat) × (Nat → Nat) × (Nat → Nat)) => am_R 64 uu.1 uu.2.1 ∧ am_R 64 uu.2.2.1 uu.2.2.2.1 ∧ am_R 64 uu.2.2.2.2.1 uu.2.2.2.2.2.1 ∧ (∀ j, j < 2 ^ (2 * nc) → uu.2.2.2.2.2.1 j = jn_pt (2 * nc) sr (su_F tb) (nm - 1) mk j) ∧ am_R 4 uu.2.2.2.2.2.2 (va_up VT 0 (jn_J (2 * nc) sr (su_F tb) (nm - 1)))) (mg_B D A (fun (uu : (Nat → Nat) × (Nat → Nat) × (Nat → Nat) × (Nat → Nat) × (Nat → Nat) × (Nat → Nat) × (Nat → Nat)) => [mg_ob aS 4 [.ref (h), .ref (hM), .ref (hF), .ref (qsr), .ref (aB), .ref (aE), .ref (aQ), .ref (aT)], mg_ob h 1 [.ref (qf), .ref (qm), .ref (qr), .int (nI (nf)), .int (nI (nc))], mg_ob hM 2 [.ref (qw), .ref (qra), .ref (qo), .ref (qt), .int (nI (nm)), .int (nI (sg))], mg_ob hF 3 [.ref (h), .ref (hM), .ref (qtb), .ref (ql)], mg_ai K qtb 256 tb, mg_ai K qsr 3 sr, mg_ob aB 0 [.ref (qB)], mg_al K qB (64 * 6) uu.1, mg_ob aE 0 [.ref (qE)], mg_al K qE (64 * 6) uu.2.2.1, mg_ob aQ 0 [.ref (qQ)], mg_al K qQ (64 * 6) uu.2.2.2.2.1, mg_ob aT 0 [.ref (qT)], mg_al K qT (4 * 6) uu.2.2.2.2.2.2])) A) (by decide) (Nat.le_of_ble_eq_true rfl) ?_
  intro p e s m args below meth c A ls X hr hlk hnm hA hK hw hl
  have hl : lv_has ls 3 [(0, .ref (aS)), (1, .int (nI (mk)))] := hl
  have hw6 := mg_ways hnc
  refine mg_aload_n X 1 d_Su_split_0 (lv_at hl 0 rfl) rfl ?_
  refine mg_iload_n X 2 d_Su_split_1 (lv_at hl 1 rfl) rfl ?_
  refine mg_callVv X hK hw hA 5 [0, 1, 3, 4, 5, 6, 7] 0 (fun uu => [mg_ob aS 4 [.ref (h), .ref (hM), .ref (hF), .ref (qsr), .ref (aB), .ref (aE), .ref (aQ), .ref (aT)], mg_ob h 1 [.ref (qf), .ref (qm), .ref (qr), .int (nI (nf)), .int (nI (nc))], mg_ob hM 2 [.ref (qw), .ref (qra), .ref (qo), .ref (qt), .int (nI (nm)), .int (nI (sg))], mg_ob hF 3 [.ref (h), .ref (hM), .ref (qtb), .ref (ql)], mg_ai K qtb 256 tb, mg_ai K qsr 3 sr, mg_ob aB 0 [.ref (qB)], mg_al K qB (64 * 6) uu.1, mg_ob aE 0 [.ref (qE)], mg_al K qE (64 * 6) dE, mg_ob aQ 0 [.ref (qQ)], mg_al K qQ (64 * 6) dQ, mg_ob aT 0 [.ref (qT)], mg_al K qT (4 * 6) dT]) rfl rfl (k_Su_comeFromBefore l D K aS h hM hF qsr aB aE aQ aT qf qm qr nf nc qtb ql qB nm mk tb sr dB VB (by omega) (by omega) (by omega) (by omega) (hRB) (by omega)) g_Su_56 ⟨by decide, by decide⟩ ⟨rfl, rfl⟩ rfl rfl rfl hl.1 (rest := []) (As := [.int (nI (mk))]) rfl (Nat.le_of_ble_eq_true rfl) d_Su_split_2 ⟨Nat.zero_le _, Nat.zero_le _⟩ (fun _ => rfl) (fun _ => rfl) rfl ?_
  intro u H locs hA0 hw
  obtain ⟨ub, Vb⟩ := u
  dsimp only at hA0 hw
  have hA1 := hA0.2
  refine mg_aload_n X 6 d_Su_split_5 (lv_at hl 0 rfl) rfl ?_
  refine mg_iload_n X 7 d_Su_split_6 (lv_at hl 1 rfl) rfl ?_
  refine mg_callVv X hK hw hA 10 [0, 1, 2, 3, 4, 5, 8, 9] 0 (fun uu => [mg_ob aS 4 [.ref (h), .ref (hM), .ref (hF), .ref (qsr), .ref (aB), .ref (aE), .ref (aQ), .ref (aT)], mg_ob h 1 [.ref (qf), .ref (qm), .ref (qr), .int (nI (nf)), .int (nI (nc))], mg_ob hM 2 [.ref (qw), .ref (qra), .ref (qo), .ref (qt), .int (nI (nm)), .int (nI (sg))], mg_ob hF 3 [.ref (h), .ref (hM), .ref (qtb), .ref (ql)], mg_ai K qtb 256 tb, mg_ai K qsr 3 sr, mg_ob aB 0 [.ref (qB)], mg_al K qB (64 * 6) ub, mg_ob aE 0 [.ref (qE)], mg_al K qE (64 * 6) uu.1, mg_ob aQ 0 [.ref (qQ)], mg_al K qQ (64 * 6) dQ, mg_ob aT 0 [.ref (qT)], mg_al K qT (4 * 6) dT]) rfl rfl (k_Su_comeFromBehind l D K aS h hM hF qsr aB aE aQ aT qf qm qr nf nc qtb ql qw qra qo qt nm sg qE mk tb sr dE VE (by omega) (by omega) (by omega) (by omega) (hRE) (by omega)) g_Su_67 ⟨by decide, by decide⟩ ⟨rfl, rfl⟩ rfl rfl rfl hl.1 (rest := []) (As := [.int (nI (mk))]) rfl (Nat.le_of_ble_eq_true rfl) d_Su_split_7 ⟨Nat.zero_le _, Nat.zero_le _⟩ (fun _ => rfl) (fun _ => rfl) rfl ?_
  intro u H locs hE0 hw
  obtain ⟨ue, Ve⟩ := u
  dsimp only at hE0 hw
  have hE1 := hE0.2
  have hbe : ∀ j, j < 2 ^ (2 * nc) → Vb j * Ve j ≤ 2 ^ 126 := fun j hj => by rw [hA1 j hj, hE1 j hj]; exact Nat.le_trans (su_mul (su_al_le (by omega) hm4 hsr hTb mk hm j hj) (su_be_le (by omega) hm4 hsr hTb (nm - 1 - mk) (by omega) j hj)) (Nat.pow_le_pow_right (by decide) (by omega))
  refine mg_iconst X 11 0 d_Su_split_10 mg_ci_0 rfl ?_
  refine mg_istore_n X 12 [(2, .int (nI (0))), (0, .ref (aS)), (1, .int (nI (mk)))] d_Su_split_11 hl (by decide) rfl rfl (fun ls hl => ?_)
  have L12 : ∀ (n0 : Nat) (k : Nat) (u : Nat → Nat), n0 = 2 ^ (2 * nc) - k → (am_R 64 u (su_pt (fun j => Vb j * Ve j) VQ k)) → (k ≤ 2 ^ (2 * nc)) → ∀ (ls : Array Slot) (H : Heap) (locs : List Loc), lv_has ls 3 [(0, .ref (aS)), (1, .int (nI (mk))), (2, .int (nI (k)))] → mg_H D A s.heap H locs [mg_ob aS 4 [.ref (h), .ref (hM), .ref (hF), .ref (qsr), .ref (aB), .ref (aE), .ref (aQ), .ref (aT)], mg_ob h 1 [.ref (qf), .ref (qm), .ref (qr), .int (nI (nf)), .int (nI (nc))], mg_ob hM 2 [.ref (qw), .ref (qra), .ref (qo), .ref (qt), .int (nI (nm)), .int (nI (sg))], mg_ob hF 3 [.ref (h), .ref (hM), .ref (qtb), .ref (ql)], mg_ai K qtb 256 tb, mg_ai K qsr 3 sr, mg_ob aB 0 [.ref (qB)], mg_al K qB (64 * 6) ub, mg_ob aE 0 [.ref (qE)], mg_al K qE (64 * 6) ue, mg_ob aQ 0 [.ref (qQ)], mg_al K qQ (64 * 6) u, mg_ob aT 0 [.ref (qT)], mg_al K qT (4 * 6) dT] → W p l e ({ frames := 5, cells := 0, slots := 0, locals := 120 }) s m args below meth c H locs 0 0 (MQ below (va_Qv (fun (uu : (Nat → Nat) × (Nat → Nat) × (Nat → Nat) × (Nat → Nat) × (Nat → Nat) × (Nat → Nat) × (Nat → Nat)) => am_R 64 uu.1 uu.2.1 ∧ am_R 64 uu.2.2.1 uu.2.2.2.1 ∧ am_R 64 uu.2.2.2.2.1 uu.2.2.2.2.2.1 ∧ (∀ j, j < 2 ^ (2 * nc) → uu.2.2.2.2.2.1 j = jn_pt (2 * nc) sr (su_F tb) (nm - 1) mk j) ∧ am_R 4 uu.2.2.2.2.2.2 (va_up VT 0 (jn_J (2 * nc) sr (su_F tb) (nm - 1)))) (mg_B D A (fun (uu : (Nat → Nat) × (Nat → Nat) × (Nat → Nat) × (Nat → Nat) × (Nat → Nat) × (Nat → Nat) × (Nat → Nat)) => [mg_ob aS 4 [.ref (h), .ref (hM), .ref (hF), .ref (qsr), .ref (aB), .ref (aE), .ref (aQ), .ref (aT)], mg_ob h 1 [.ref (qf), .ref (qm), .ref (qr), .int (nI (nf)), .int (nI (nc))], mg_ob hM 2 [.ref (qw), .ref (qra), .ref (qo), .ref (qt), .int (nI (nm)), .int (nI (sg))], mg_ob hF 3 [.ref (h), .ref (hM), .ref (qtb), .ref (ql)], mg_ai K qtb 256 tb, mg_ai K qsr 3 sr, mg_ob aB 0 [.ref (qB)], mg_al K qB (64 * 6) uu.1, mg_ob aE 0 [.ref (qE)], mg_al K qE (64 * 6) uu.2.2.1, mg_ob aQ 0 [.ref (qQ)], mg_al K qQ (64 * 6) uu.2.2.2.2.1, mg_ob aT 0 [.ref (qT)], mg_al K qT (4 * 6) uu.2.2.2.2.2.2])) A) args s 0 0 A) (F0 m 12 ls []) := by
    intro n0
    induction n0 using Nat.strongRecOn with
    | ind n0 ih12 =>
    intro k u hm12 hI hk ls H locs hl hw
    refine mg_iload_n X 13 d_Su_split_12 (lv_at hl 2 rfl) rfl ?_
    refine mg_aload_n X 14 d_Su_split_13 (lv_at hl 0 rfl) rfl ?_
    refine mg_get X hK hw 17 0 0 f_Su_9 rfl rfl d_Su_split_14 rfl ?_
    refine mg_callVi X hK hw hA 20 [1] 1 (fun _ => [mg_ob aS 4 [.ref (h), .ref (hM), .ref (hF), .ref (qsr), .ref (aB), .ref (aE), .ref (aQ), .ref (aT)], mg_ob h 1 [.ref (qf), .ref (qm), .ref (qr), .int (nI (nf)), .int (nI (nc))], mg_ob hM 2 [.ref (qw), .ref (qra), .ref (qo), .ref (qt), .int (nI (nm)), .int (nI (sg))], mg_ob hF 3 [.ref (h), .ref (hM), .ref (qtb), .ref (ql)], mg_ai K qtb 256 tb, mg_ai K qsr 3 sr, mg_ob aB 0 [.ref (qB)], mg_al K qB (64 * 6) ub, mg_ob aE 0 [.ref (qE)], mg_al K qE (64 * 6) ue, mg_ob aQ 0 [.ref (qQ)], mg_al K qQ (64 * 6) u, mg_ob aT 0 [.ref (qT)], mg_al K qT (4 * 6) dT]) rfl rfl (k_Fa_ways l D K h qf qm qr nf nc (by omega)) g_Su_70 ⟨by decide, by decide⟩ ⟨rfl, rfl⟩ rfl rfl rfl hl.1 (rest := [.int (nI (k))]) (As := []) rfl (Nat.le_of_ble_eq_true rfl) d_Su_split_17 ⟨Nat.zero_le _, Nat.zero_le _⟩ (fun _ => rfl) (fun _ => rfl) rfl ?_
    intro r _ H locs hp4 hw
    subst hp4
    refine mg_icmp_ge X 45 23 (by omega) (by omega) d_Su_split_20 (by decide) rfl (fun hb => ?_) (fun hb => ?_)
    · -- pc 20 t
      refine mg_aload_n X 46 d_Su_split_45 (lv_at hl 0 rfl) rfl ?_
      refine mg_aload_n X 47 d_Su_split_46 (lv_at hl 0 rfl) rfl ?_
      refine mg_get X hK hw 50 0 6 f_Su_39 rfl rfl d_Su_split_47 rfl ?_
      refine mg_iload_n X 51 d_Su_split_50 (lv_at hl 1 rfl) rfl ?_
      refine mg_callVv X hK hw hA 54 [0, 1, 3, 4, 10, 11] 0 (fun u5 => [mg_ob aS 4 [.ref (h), .ref (hM), .ref (hF), .ref (qsr), .ref (aB), .ref (aE), .ref (aQ), .ref (aT)], mg_ob h 1 [.ref (qf), .ref (qm), .ref (qr), .int (nI (nf)), .int (nI (nc))], mg_ob hM 2 [.ref (qw), .ref (qra), .ref (qo), .ref (qt), .int (nI (nm)), .int (nI (sg))], mg_ob hF 3 [.ref (h), .ref (hM), .ref (qtb), .ref (ql)], mg_ai K qtb 256 tb, mg_ai K qsr 3 sr, mg_ob aB 0 [.ref (qB)], mg_al K qB (64 * 6) ub, mg_ob aE 0 [.ref (qE)], mg_al K qE (64 * 6) ue, mg_ob aQ 0 [.ref (qQ)], mg_al K qQ (64 * 6) u5, mg_ob aT 0 [.ref (qT)], mg_al K qT (4 * 6) dT]) rfl rfl (k_Su_multiplyByFits l D K aS h hM hF qsr aB aE aQ aT qf qm qr nf nc qtb ql aQ qQ mk u (su_pt (fun j => Vb j * Ve j) VQ k) tb (by omega) (hI) (by omega) (fun j hj => hTb mk j hm hj) (fun j hj => by rw [su_ptl _ _ (by omega)]; exact su_lt (su_mul (hbe j hj) (hTb mk j hm hj)) (by omega))) g_Su_59 ⟨by decide, by decide⟩ ⟨rfl, rfl⟩ rfl rfl rfl hl.1 (rest := []) (As := [.ref (aQ), .int (nI (mk))]) rfl (Nat.le_of_ble_eq_true rfl) d_Su_split_51 ⟨Nat.zero_le _, Nat.zero_le _⟩ (fun _ => rfl) (fun _ => rfl) rfl ?_
      intro u5 H locs hp6 hw
      have hq : ∀ j, j < 2 ^ (2 * nc) → (su_pt (fun j => (su_pt (fun j => Vb j * Ve j) VQ k) j * tb (mk * 64 + j)) (su_pt (fun j => Vb j * Ve j) VQ k) (2 ^ (2 * nc))) j = jn_pt (2 * nc) sr (su_F tb) (nm - 1) mk j := fun j hj => by rw [su_ptl _ _ hj, su_ptl _ _ (by omega), hA1 j hj, hE1 j hj]; rfl
      have hz : zs_sum (2 ^ (2 * nc)) (su_pt (fun j => (su_pt (fun j => Vb j * Ve j) VQ k) j * tb (mk * 64 + j)) (su_pt (fun j => Vb j * Ve j) VQ k) (2 ^ (2 * nc))) = jn_J (2 * nc) sr (su_F tb) (nm - 1) := (zs_congr hq).trans (jn_pt_all (by omega))
      refine mg_aload_n X 55 d_Su_split_54 (lv_at hl 0 rfl) rfl ?_
      refine mg_iconst X 56 0 d_Su_split_55 mg_ci_0 rfl ?_
      refine mg_aload_n X 57 d_Su_split_56 (lv_at hl 0 rfl) rfl ?_
      refine mg_get X hK hw 60 0 6 f_Su_39 rfl rfl d_Su_split_57 rfl ?_
      refine mg_callVv X hK hw hA 63 [0, 1, 12, 13, 10, 11] 0 (fun u7 => [mg_ob aS 4 [.ref (h), .ref (hM), .ref (hF), .ref (qsr), .ref (aB), .ref (aE), .ref (aQ), .ref (aT)], mg_ob h 1 [.ref (qf), .ref (qm), .ref (qr), .int (nI (nf)), .int (nI (nc))], mg_ob hM 2 [.ref (qw), .ref (qra), .ref (qo), .ref (qt), .int (nI (nm)), .int (nI (sg))], mg_ob hF 3 [.ref (h), .ref (hM), .ref (qtb), .ref (ql)], mg_ai K qtb 256 tb, mg_ai K qsr 3 sr, mg_ob aB 0 [.ref (qB)], mg_al K qB (64 * 6) ub, mg_ob aE 0 [.ref (qE)], mg_al K qE (64 * 6) ue, mg_ob aQ 0 [.ref (qQ)], mg_al K qQ (64 * 6) u5, mg_ob aT 0 [.ref (qT)], mg_al K qT (4 * 6) u7]) rfl rfl (k_Su_addUp l D K aS h hM hF qsr aB aE aQ aT qf qm qr nf nc qT aQ qQ 0 dT VT u5 (su_pt (fun j => (su_pt (fun j => Vb j * Ve j) VQ k) j * tb (mk * 64 + j)) (su_pt (fun j => Vb j * Ve j) VQ k) (2 ^ (2 * nc))) (by omega) (hRT) (hp6) (by omega) (by rw [hz]; exact su_lt (su_J_le (by omega) hm4 (by omega) hsr hTb) (by omega))) g_Su_63 ⟨by decide, by decide⟩ ⟨rfl, rfl⟩ rfl rfl rfl hl.1 (rest := []) (As := [.int (nI (0)), .ref (aQ)]) rfl (Nat.le_of_ble_eq_true rfl) d_Su_split_60 ⟨Nat.zero_le _, Nat.zero_le _⟩ (fun _ => rfl) (fun _ => rfl) rfl ?_
      intro u7 H locs hp8 hw
      exact mg_vret X hr hlk ((ub, Vb, ue, Ve, u5, su_pt (fun j => (su_pt (fun j => Vb j * Ve j) VQ k) j * tb (mk * 64 + j)) (su_pt (fun j => Vb j * Ve j) VQ k) (2 ^ (2 * nc)), u7)) (⟨hA0.1, hE0.1, hp6, hq, by have h9 := hp8; rw [hz] at h9; exact h9⟩) hw d_Su_split_63
    · -- pc 20 f
      refine mg_aload_n X 24 d_Su_split_23 (lv_at hl 0 rfl) rfl ?_
      refine mg_get X hK hw 27 0 6 f_Su_39 rfl rfl d_Su_split_24 rfl ?_
      refine mg_iload_n X 28 d_Su_split_27 (lv_at hl 2 rfl) rfl ?_
      refine mg_aload_n X 29 d_Su_split_28 (lv_at hl 0 rfl) rfl ?_
      refine mg_get X hK hw 32 0 4 f_Su_32 rfl rfl d_Su_split_29 rfl ?_
      refine mg_aload_n X 33 d_Su_split_32 (lv_at hl 0 rfl) rfl ?_
      refine mg_get X hK hw 36 0 5 f_Su_36 rfl rfl d_Su_split_33 rfl ?_
      refine mg_callVv X hK hw hA 39 [10, 11, 6, 7, 8, 9] 10 (fun u9 => [mg_ob aS 4 [.ref (h), .ref (hM), .ref (hF), .ref (qsr), .ref (aB), .ref (aE), .ref (aQ), .ref (aT)], mg_ob h 1 [.ref (qf), .ref (qm), .ref (qr), .int (nI (nf)), .int (nI (nc))], mg_ob hM 2 [.ref (qw), .ref (qra), .ref (qo), .ref (qt), .int (nI (nm)), .int (nI (sg))], mg_ob hF 3 [.ref (h), .ref (hM), .ref (qtb), .ref (ql)], mg_ai K qtb 256 tb, mg_ai K qsr 3 sr, mg_ob aB 0 [.ref (qB)], mg_al K qB (64 * 6) ub, mg_ob aE 0 [.ref (qE)], mg_al K qE (64 * 6) ue, mg_ob aQ 0 [.ref (qQ)], mg_al K qQ (64 * 6) u9, mg_ob aT 0 [.ref (qT)], mg_al K qT (4 * 6) dT]) rfl rfl (k_Am_setProduct l D K aQ qQ 64 aB qB aE qE k u (su_pt (fun j => Vb j * Ve j) VQ k) ub Vb ue Ve (by omega) (hI) (hA0.1) (hE0.1) (by omega) (su_lt (hbe k hb) (by omega))) g_Su_75 ⟨by decide, by decide⟩ ⟨rfl, rfl⟩ rfl rfl rfl hl.1 (rest := []) (As := [.int (nI (k)), .ref (aB), .ref (aE)]) rfl (Nat.le_of_ble_eq_true rfl) d_Su_split_36 ⟨Nat.zero_le _, Nat.zero_le _⟩ (fun _ => rfl) (fun _ => rfl) rfl ?_
      intro u9 H locs hp10 hw
      refine mg_iinc X 42 [(2, .int (nI (k + 1))), (0, .ref (aS)), (1, .int (nI (mk)))] (k + 1) d_Su_split_39 hl (k := 2) rfl (mg_inc1 _) (by decide) rfl rfl (fun ls hl => ?_)
      refine mg_goto X 12 d_Su_split_42 (by decide) ?_
      have hl : lv_has ls 3 [(0, .ref (aS)), (1, .int (nI (mk))), (2, .int (nI (k + 1)))] := lv_sub hl [1, 2, 0] rfl
      exact ih12 _ (by omega) (k + 1) u9 rfl (by rw [← su_ptS]; exact hp10) (by omega) ls _ _ hl hw
  have hl : lv_has ls 3 [(0, .ref (aS)), (1, .int (nI (mk))), (2, .int (nI (0)))] := lv_sub hl [1, 2, 0] rfl
  exact L12 _ 0 dQ rfl (by rw [su_pt0]; exact hRQ) (Nat.zero_le _) ls _ _ hl hw
end
section
/-! What a quotient and the best rate rest on. -/
theorem su_lt28 {a n b : Nat} (hb : 0 < b) (h : a * n < 2 ^ 28 * b) : a * n / b < 2 ^ 28 := (Nat.div_lt_iff_lt_mul hb).mpr h
theorem su_tr {P b t : Nat} (hb : 0 < b) : t ≤ P / b ↔ b * t ≤ P := by
  rw [Nat.le_div_iff_mul_le hb, Nat.mul_comm]
def su_Jk (B : Nat) (r : Nat → Nat) (F : Nat → Nat → Nat) (M g : Nat) (k : Nat) : Nat := jn_J B (va_up r g k) F M
theorem su_up16 {r : Nat → Nat} {N g x : Nat} (hr : ∀ i, i + 1 < N → r i ≤ 16) (hx : x ≤ 16) : ∀ i, i + 1 < N → va_up r g x i ≤ 16 := fun i hi => by
  by_cases h : i = g
  · subst h; rw [va_up_self]; exact hx
  · rw [va_up_ne _ _ h]; exact hr i hi
theorem su_th {a b : Nat} (h : a ≤ b) (hb : 0 < b) : a * 1000 < 2 ^ 28 * b := by
  have h1 : a * 1000 ≤ b * 1000 := Nat.mul_le_mul_right _ h
  omega
end
section
theorem mg_cb_27 : (Int8.ofInt (27)).toInt32 = nI 27 := by decide +kernel
theorem mg_cs_1000 : (Int16.ofInt (1000)).toInt32 = nI 1000 := by decide +kernel
theorem g_Su_108 : mg_CV "LinkedMarkers$Sums" 108 y_Am_isZero b_Am_isZero 3 (some .boolean) 1 := ⟨Or.inl (mg_in 557 (by decide +kernel) (by decide +kernel)), (mg_in 558 (by decide +kernel) (by decide +kernel)), (mg_in 559 (by decide +kernel) (by decide +kernel)), (mg_in 39 (by decide +kernel) (by decide +kernel)), (mg_in 560 (by decide +kernel) (by decide +kernel)), by decide, by decide, by decide +kernel⟩
theorem g_Su_90 : mg_CV "LinkedMarkers$Sums" 90 y_Am_copy b_Am_copy 4 none 2 := ⟨Or.inl (mg_in 561 (by decide +kernel) (by decide +kernel)), (mg_in 562 (by decide +kernel) (by decide +kernel)), (mg_in 563 (by decide +kernel) (by decide +kernel)), (mg_in 39 (by decide +kernel) (by decide +kernel)), (mg_in 564 (by decide +kernel) (by decide +kernel)), by decide, by decide, by decide +kernel⟩
theorem g_Su_86 : mg_CV "LinkedMarkers$Sums" 86 y_Am_compare b_Am_compare 8 (some .int) 2 := ⟨Or.inl (mg_in 565 (by decide +kernel) (by decide +kernel)), (mg_in 566 (by decide +kernel) (by decide +kernel)), (mg_in 567 (by decide +kernel) (by decide +kernel)), (mg_in 39 (by decide +kernel) (by decide +kernel)), (mg_in 568 (by decide +kernel) (by decide +kernel)), by decide, by decide, by decide +kernel⟩
theorem g_Su_100 : mg_CV "LinkedMarkers$Sums" 100 y_Su_quotient b_Su_quotient 7 (some .int) 3 := ⟨Or.inl (mg_in 618 (by decide +kernel) (by decide +kernel)), (mg_in 554 (by decide +kernel) (by decide +kernel)), (mg_in 555 (by decide +kernel) (by decide +kernel)), (mg_in 38 (by decide +kernel) (by decide +kernel)), (mg_in 556 (by decide +kernel) (by decide +kernel)), by decide, by decide, by decide +kernel⟩
theorem g_Su_104 : mg_CV "LinkedMarkers$Sums" 104 y_Fa_shareCopy b_Fa_shareCopy 8 (some .boolean) 3 := ⟨Or.inl (mg_in 630 (by decide +kernel) (by decide +kernel)), (mg_in 631 (by decide +kernel) (by decide +kernel)), (mg_in 632 (by decide +kernel) (by decide +kernel)), (mg_in 35 (by decide +kernel) (by decide +kernel)), (mg_in 633 (by decide +kernel) (by decide +kernel)), by decide, by decide, by decide +kernel⟩
theorem g_Su_79 : mg_CV "LinkedMarkers$Sums" 79 y_Su_changeRate b_Su_changeRate 3 none 2 := ⟨Or.inl (mg_in 592 (by decide +kernel) (by decide +kernel)), (mg_in 577 (by decide +kernel) (by decide +kernel)), (mg_in 578 (by decide +kernel) (by decide +kernel)), (mg_in 38 (by decide +kernel) (by decide +kernel)), (mg_in 579 (by decide +kernel) (by decide +kernel)), by decide, by decide, by decide +kernel⟩
theorem g_Su_83 : mg_CV "LinkedMarkers$Sums" 83 y_Su_sumTo b_Su_sumTo 3 none 1 := ⟨Or.inl (mg_in 593 (by decide +kernel) (by decide +kernel)), (mg_in 492 (by decide +kernel) (by decide +kernel)), (mg_in 493 (by decide +kernel) (by decide +kernel)), (mg_in 38 (by decide +kernel) (by decide +kernel)), (mg_in 494 (by decide +kernel) (by decide +kernel)), by decide, by decide, by decide +kernel⟩
end
section
theorem d_Su_quotient_0 : decode b_Su_quotient 0 = .ok (.aload_n 0, 1) := by decide +kernel
theorem d_Su_quotient_1 : decode b_Su_quotient 1 = .ok (.getfield 42, 3) := by decide +kernel
theorem d_Su_quotient_4 : decode b_Su_quotient 4 = .ok (.iload_n 3, 1) := by decide +kernel
theorem d_Su_quotient_5 : decode b_Su_quotient 5 = .ok (.invokevirtual 108, 3) := by decide +kernel
theorem d_Su_quotient_8 : decode b_Su_quotient 8 = .ok (.ifCond .eq 5, 3) := by decide +kernel
theorem d_Su_quotient_11 : decode b_Su_quotient 11 = .ok (.iconst (-1), 1) := by decide +kernel
theorem d_Su_quotient_12 : decode b_Su_quotient 12 = .ok (.ireturn, 1) := by decide +kernel
theorem d_Su_quotient_13 : decode b_Su_quotient 13 = .ok (.aload_n 0, 1) := by decide +kernel
theorem d_Su_quotient_14 : decode b_Su_quotient 14 = .ok (.getfield 42, 3) := by decide +kernel
theorem d_Su_quotient_17 : decode b_Su_quotient 17 = .ok (.iload_n 1, 1) := by decide +kernel
theorem d_Su_quotient_18 : decode b_Su_quotient 18 = .ok (.iload_n 2, 1) := by decide +kernel
theorem d_Su_quotient_19 : decode b_Su_quotient 19 = .ok (.invokevirtual 112, 3) := by decide +kernel
theorem d_Su_quotient_22 : decode b_Su_quotient 22 = .ok (.iconst 0, 1) := by decide +kernel
theorem d_Su_quotient_23 : decode b_Su_quotient 23 = .ok (.istore 4, 2) := by decide +kernel
theorem d_Su_quotient_25 : decode b_Su_quotient 25 = .ok (.bipush 27, 2) := by decide +kernel
theorem d_Su_quotient_27 : decode b_Su_quotient 27 = .ok (.istore 5, 2) := by decide +kernel
theorem d_Su_quotient_29 : decode b_Su_quotient 29 = .ok (.iload 5, 2) := by decide +kernel
theorem d_Su_quotient_31 : decode b_Su_quotient 31 = .ok (.ifCond .lt 53, 3) := by decide +kernel
theorem d_Su_quotient_34 : decode b_Su_quotient 34 = .ok (.iload 4, 2) := by decide +kernel
theorem d_Su_quotient_36 : decode b_Su_quotient 36 = .ok (.iconst 1, 1) := by decide +kernel
theorem d_Su_quotient_37 : decode b_Su_quotient 37 = .ok (.iload 5, 2) := by decide +kernel
theorem d_Su_quotient_39 : decode b_Su_quotient 39 = .ok (.ishl, 1) := by decide +kernel
theorem d_Su_quotient_40 : decode b_Su_quotient 40 = .ok (.iadd, 1) := by decide +kernel
theorem d_Su_quotient_41 : decode b_Su_quotient 41 = .ok (.istore 6, 2) := by decide +kernel
theorem d_Su_quotient_43 : decode b_Su_quotient 43 = .ok (.aload_n 0, 1) := by decide +kernel
theorem d_Su_quotient_44 : decode b_Su_quotient 44 = .ok (.getfield 42, 3) := by decide +kernel
theorem d_Su_quotient_47 : decode b_Su_quotient 47 = .ok (.iconst 3, 1) := by decide +kernel
theorem d_Su_quotient_48 : decode b_Su_quotient 48 = .ok (.iload_n 3, 1) := by decide +kernel
theorem d_Su_quotient_49 : decode b_Su_quotient 49 = .ok (.invokevirtual 90, 3) := by decide +kernel
theorem d_Su_quotient_52 : decode b_Su_quotient 52 = .ok (.aload_n 0, 1) := by decide +kernel
theorem d_Su_quotient_53 : decode b_Su_quotient 53 = .ok (.getfield 42, 3) := by decide +kernel
theorem d_Su_quotient_56 : decode b_Su_quotient 56 = .ok (.iconst 3, 1) := by decide +kernel
theorem d_Su_quotient_57 : decode b_Su_quotient 57 = .ok (.iload 6, 2) := by decide +kernel
theorem d_Su_quotient_59 : decode b_Su_quotient 59 = .ok (.invokevirtual 112, 3) := by decide +kernel
theorem d_Su_quotient_62 : decode b_Su_quotient 62 = .ok (.aload_n 0, 1) := by decide +kernel
theorem d_Su_quotient_63 : decode b_Su_quotient 63 = .ok (.getfield 42, 3) := by decide +kernel
theorem d_Su_quotient_66 : decode b_Su_quotient 66 = .ok (.iconst 3, 1) := by decide +kernel
theorem d_Su_quotient_67 : decode b_Su_quotient 67 = .ok (.iload_n 1, 1) := by decide +kernel
theorem d_Su_quotient_68 : decode b_Su_quotient 68 = .ok (.invokevirtual 86, 3) := by decide +kernel
theorem d_Su_quotient_71 : decode b_Su_quotient 71 = .ok (.ifCond .gt 7, 3) := by decide +kernel
theorem d_Su_quotient_74 : decode b_Su_quotient 74 = .ok (.iload 6, 2) := by decide +kernel
theorem d_Su_quotient_76 : decode b_Su_quotient 76 = .ok (.istore 4, 2) := by decide +kernel
theorem d_Su_quotient_78 : decode b_Su_quotient 78 = .ok (.iinc 5 (-1), 3) := by decide +kernel
theorem d_Su_quotient_81 : decode b_Su_quotient 81 = .ok (.goto (-52), 3) := by decide +kernel
theorem d_Su_quotient_84 : decode b_Su_quotient 84 = .ok (.iload 4, 2) := by decide +kernel
theorem d_Su_quotient_86 : decode b_Su_quotient 86 = .ok (.ireturn, 1) := by decide +kernel
theorem d_Su_thousandthsTurned_0 : decode b_Su_thousandthsTurned 0 = .ok (.aload_n 0, 1) := by decide +kernel
theorem d_Su_thousandthsTurned_1 : decode b_Su_thousandthsTurned 1 = .ok (.getfield 42, 3) := by decide +kernel
theorem d_Su_thousandthsTurned_4 : decode b_Su_thousandthsTurned 4 = .ok (.iconst 1, 1) := by decide +kernel
theorem d_Su_thousandthsTurned_5 : decode b_Su_thousandthsTurned 5 = .ok (.iconst 0, 1) := by decide +kernel
theorem d_Su_thousandthsTurned_6 : decode b_Su_thousandthsTurned 6 = .ok (.invokevirtual 93, 3) := by decide +kernel
theorem d_Su_thousandthsTurned_9 : decode b_Su_thousandthsTurned 9 = .ok (.iconst 0, 1) := by decide +kernel
theorem d_Su_thousandthsTurned_10 : decode b_Su_thousandthsTurned 10 = .ok (.istore_n 2, 1) := by decide +kernel
theorem d_Su_thousandthsTurned_11 : decode b_Su_thousandthsTurned 11 = .ok (.iload_n 2, 1) := by decide +kernel
theorem d_Su_thousandthsTurned_12 : decode b_Su_thousandthsTurned 12 = .ok (.aload_n 0, 1) := by decide +kernel
theorem d_Su_thousandthsTurned_13 : decode b_Su_thousandthsTurned 13 = .ok (.getfield 9, 3) := by decide +kernel
theorem d_Su_thousandthsTurned_16 : decode b_Su_thousandthsTurned 16 = .ok (.invokevirtual 70, 3) := by decide +kernel
theorem d_Su_thousandthsTurned_19 : decode b_Su_thousandthsTurned 19 = .ok (.if_icmp .ge 31, 3) := by decide +kernel
theorem d_Su_thousandthsTurned_22 : decode b_Su_thousandthsTurned 22 = .ok (.iload_n 2, 1) := by decide +kernel
theorem d_Su_thousandthsTurned_23 : decode b_Su_thousandthsTurned 23 = .ok (.iload_n 1, 1) := by decide +kernel
theorem d_Su_thousandthsTurned_24 : decode b_Su_thousandthsTurned 24 = .ok (.ishr, 1) := by decide +kernel
theorem d_Su_thousandthsTurned_25 : decode b_Su_thousandthsTurned 25 = .ok (.iconst 1, 1) := by decide +kernel
theorem d_Su_thousandthsTurned_26 : decode b_Su_thousandthsTurned 26 = .ok (.iand, 1) := by decide +kernel
theorem d_Su_thousandthsTurned_27 : decode b_Su_thousandthsTurned 27 = .ok (.iconst 1, 1) := by decide +kernel
theorem d_Su_thousandthsTurned_28 : decode b_Su_thousandthsTurned 28 = .ok (.if_icmp .ne 16, 3) := by decide +kernel
theorem d_Su_thousandthsTurned_31 : decode b_Su_thousandthsTurned 31 = .ok (.aload_n 0, 1) := by decide +kernel
theorem d_Su_thousandthsTurned_32 : decode b_Su_thousandthsTurned 32 = .ok (.getfield 42, 3) := by decide +kernel
theorem d_Su_thousandthsTurned_35 : decode b_Su_thousandthsTurned 35 = .ok (.iconst 1, 1) := by decide +kernel
theorem d_Su_thousandthsTurned_36 : decode b_Su_thousandthsTurned 36 = .ok (.aload_n 0, 1) := by decide +kernel
theorem d_Su_thousandthsTurned_37 : decode b_Su_thousandthsTurned 37 = .ok (.getfield 39, 3) := by decide +kernel
theorem d_Su_thousandthsTurned_40 : decode b_Su_thousandthsTurned 40 = .ok (.iload_n 2, 1) := by decide +kernel
theorem d_Su_thousandthsTurned_41 : decode b_Su_thousandthsTurned 41 = .ok (.invokevirtual 96, 3) := by decide +kernel
theorem d_Su_thousandthsTurned_44 : decode b_Su_thousandthsTurned 44 = .ok (.iinc 2 1, 3) := by decide +kernel
theorem d_Su_thousandthsTurned_47 : decode b_Su_thousandthsTurned 47 = .ok (.goto (-36), 3) := by decide +kernel
theorem d_Su_thousandthsTurned_50 : decode b_Su_thousandthsTurned 50 = .ok (.aload_n 0, 1) := by decide +kernel
theorem d_Su_thousandthsTurned_51 : decode b_Su_thousandthsTurned 51 = .ok (.iconst 1, 1) := by decide +kernel
theorem d_Su_thousandthsTurned_52 : decode b_Su_thousandthsTurned 52 = .ok (.sipush 1000, 3) := by decide +kernel
theorem d_Su_thousandthsTurned_55 : decode b_Su_thousandthsTurned 55 = .ok (.iconst 0, 1) := by decide +kernel
theorem d_Su_thousandthsTurned_56 : decode b_Su_thousandthsTurned 56 = .ok (.invokevirtual 100, 3) := by decide +kernel
theorem d_Su_thousandthsTurned_59 : decode b_Su_thousandthsTurned 59 = .ok (.ireturn, 1) := by decide +kernel
theorem d_Su_thousandthsShared_0 : decode b_Su_thousandthsShared 0 = .ok (.aload_n 0, 1) := by decide +kernel
theorem d_Su_thousandthsShared_1 : decode b_Su_thousandthsShared 1 = .ok (.getfield 42, 3) := by decide +kernel
theorem d_Su_thousandthsShared_4 : decode b_Su_thousandthsShared 4 = .ok (.iconst 1, 1) := by decide +kernel
theorem d_Su_thousandthsShared_5 : decode b_Su_thousandthsShared 5 = .ok (.iconst 0, 1) := by decide +kernel
theorem d_Su_thousandthsShared_6 : decode b_Su_thousandthsShared 6 = .ok (.invokevirtual 93, 3) := by decide +kernel
theorem d_Su_thousandthsShared_9 : decode b_Su_thousandthsShared 9 = .ok (.iconst 0, 1) := by decide +kernel
theorem d_Su_thousandthsShared_10 : decode b_Su_thousandthsShared 10 = .ok (.istore_n 3, 1) := by decide +kernel
theorem d_Su_thousandthsShared_11 : decode b_Su_thousandthsShared 11 = .ok (.iload_n 3, 1) := by decide +kernel
theorem d_Su_thousandthsShared_12 : decode b_Su_thousandthsShared 12 = .ok (.aload_n 0, 1) := by decide +kernel
theorem d_Su_thousandthsShared_13 : decode b_Su_thousandthsShared 13 = .ok (.getfield 9, 3) := by decide +kernel
theorem d_Su_thousandthsShared_16 : decode b_Su_thousandthsShared 16 = .ok (.invokevirtual 70, 3) := by decide +kernel
theorem d_Su_thousandthsShared_19 : decode b_Su_thousandthsShared 19 = .ok (.if_icmp .ge 35, 3) := by decide +kernel
theorem d_Su_thousandthsShared_22 : decode b_Su_thousandthsShared 22 = .ok (.aload_n 0, 1) := by decide +kernel
theorem d_Su_thousandthsShared_23 : decode b_Su_thousandthsShared 23 = .ok (.getfield 9, 3) := by decide +kernel
theorem d_Su_thousandthsShared_26 : decode b_Su_thousandthsShared 26 = .ok (.iload_n 1, 1) := by decide +kernel
theorem d_Su_thousandthsShared_27 : decode b_Su_thousandthsShared 27 = .ok (.iload_n 2, 1) := by decide +kernel
theorem d_Su_thousandthsShared_28 : decode b_Su_thousandthsShared 28 = .ok (.iload_n 3, 1) := by decide +kernel
theorem d_Su_thousandthsShared_29 : decode b_Su_thousandthsShared 29 = .ok (.invokevirtual 104, 3) := by decide +kernel
theorem d_Su_thousandthsShared_32 : decode b_Su_thousandthsShared 32 = .ok (.ifCond .eq 16, 3) := by decide +kernel
theorem d_Su_thousandthsShared_35 : decode b_Su_thousandthsShared 35 = .ok (.aload_n 0, 1) := by decide +kernel
theorem d_Su_thousandthsShared_36 : decode b_Su_thousandthsShared 36 = .ok (.getfield 42, 3) := by decide +kernel
theorem d_Su_thousandthsShared_39 : decode b_Su_thousandthsShared 39 = .ok (.iconst 1, 1) := by decide +kernel
theorem d_Su_thousandthsShared_40 : decode b_Su_thousandthsShared 40 = .ok (.aload_n 0, 1) := by decide +kernel
theorem d_Su_thousandthsShared_41 : decode b_Su_thousandthsShared 41 = .ok (.getfield 39, 3) := by decide +kernel
theorem d_Su_thousandthsShared_44 : decode b_Su_thousandthsShared 44 = .ok (.iload_n 3, 1) := by decide +kernel
theorem d_Su_thousandthsShared_45 : decode b_Su_thousandthsShared 45 = .ok (.invokevirtual 96, 3) := by decide +kernel
theorem d_Su_thousandthsShared_48 : decode b_Su_thousandthsShared 48 = .ok (.iinc 3 1, 3) := by decide +kernel
theorem d_Su_thousandthsShared_51 : decode b_Su_thousandthsShared 51 = .ok (.goto (-40), 3) := by decide +kernel
theorem d_Su_thousandthsShared_54 : decode b_Su_thousandthsShared 54 = .ok (.aload_n 0, 1) := by decide +kernel
theorem d_Su_thousandthsShared_55 : decode b_Su_thousandthsShared 55 = .ok (.iconst 1, 1) := by decide +kernel
theorem d_Su_thousandthsShared_56 : decode b_Su_thousandthsShared 56 = .ok (.sipush 1000, 3) := by decide +kernel
theorem d_Su_thousandthsShared_59 : decode b_Su_thousandthsShared 59 = .ok (.iconst 0, 1) := by decide +kernel
theorem d_Su_thousandthsShared_60 : decode b_Su_thousandthsShared 60 = .ok (.invokevirtual 100, 3) := by decide +kernel
theorem d_Su_thousandthsShared_63 : decode b_Su_thousandthsShared 63 = .ok (.ireturn, 1) := by decide +kernel
theorem d_Su_wayOfGreatest_0 : decode b_Su_wayOfGreatest 0 = .ok (.aload_n 0, 1) := by decide +kernel
theorem d_Su_wayOfGreatest_1 : decode b_Su_wayOfGreatest 1 = .ok (.getfield 42, 3) := by decide +kernel
theorem d_Su_wayOfGreatest_4 : decode b_Su_wayOfGreatest 4 = .ok (.iconst 0, 1) := by decide +kernel
theorem d_Su_wayOfGreatest_5 : decode b_Su_wayOfGreatest 5 = .ok (.invokevirtual 108, 3) := by decide +kernel
theorem d_Su_wayOfGreatest_8 : decode b_Su_wayOfGreatest 8 = .ok (.ifCond .eq 5, 3) := by decide +kernel
theorem d_Su_wayOfGreatest_11 : decode b_Su_wayOfGreatest 11 = .ok (.iconst (-1), 1) := by decide +kernel
theorem d_Su_wayOfGreatest_12 : decode b_Su_wayOfGreatest 12 = .ok (.ireturn, 1) := by decide +kernel
theorem d_Su_wayOfGreatest_13 : decode b_Su_wayOfGreatest 13 = .ok (.iconst 0, 1) := by decide +kernel
theorem d_Su_wayOfGreatest_14 : decode b_Su_wayOfGreatest 14 = .ok (.istore_n 1, 1) := by decide +kernel
theorem d_Su_wayOfGreatest_15 : decode b_Su_wayOfGreatest 15 = .ok (.iconst 1, 1) := by decide +kernel
theorem d_Su_wayOfGreatest_16 : decode b_Su_wayOfGreatest 16 = .ok (.istore_n 2, 1) := by decide +kernel
theorem d_Su_wayOfGreatest_17 : decode b_Su_wayOfGreatest 17 = .ok (.iload_n 2, 1) := by decide +kernel
theorem d_Su_wayOfGreatest_18 : decode b_Su_wayOfGreatest 18 = .ok (.aload_n 0, 1) := by decide +kernel
theorem d_Su_wayOfGreatest_19 : decode b_Su_wayOfGreatest 19 = .ok (.getfield 9, 3) := by decide +kernel
theorem d_Su_wayOfGreatest_22 : decode b_Su_wayOfGreatest 22 = .ok (.invokevirtual 70, 3) := by decide +kernel
theorem d_Su_wayOfGreatest_25 : decode b_Su_wayOfGreatest 25 = .ok (.if_icmp .ge 23, 3) := by decide +kernel
theorem d_Su_wayOfGreatest_28 : decode b_Su_wayOfGreatest 28 = .ok (.aload_n 0, 1) := by decide +kernel
theorem d_Su_wayOfGreatest_29 : decode b_Su_wayOfGreatest 29 = .ok (.getfield 39, 3) := by decide +kernel
theorem d_Su_wayOfGreatest_32 : decode b_Su_wayOfGreatest 32 = .ok (.iload_n 2, 1) := by decide +kernel
theorem d_Su_wayOfGreatest_33 : decode b_Su_wayOfGreatest 33 = .ok (.iload_n 1, 1) := by decide +kernel
theorem d_Su_wayOfGreatest_34 : decode b_Su_wayOfGreatest 34 = .ok (.invokevirtual 86, 3) := by decide +kernel
theorem d_Su_wayOfGreatest_37 : decode b_Su_wayOfGreatest 37 = .ok (.ifCond .le 5, 3) := by decide +kernel
theorem d_Su_wayOfGreatest_40 : decode b_Su_wayOfGreatest 40 = .ok (.iload_n 2, 1) := by decide +kernel
theorem d_Su_wayOfGreatest_41 : decode b_Su_wayOfGreatest 41 = .ok (.istore_n 1, 1) := by decide +kernel
theorem d_Su_wayOfGreatest_42 : decode b_Su_wayOfGreatest 42 = .ok (.iinc 2 1, 3) := by decide +kernel
theorem d_Su_wayOfGreatest_45 : decode b_Su_wayOfGreatest 45 = .ok (.goto (-28), 3) := by decide +kernel
theorem d_Su_wayOfGreatest_48 : decode b_Su_wayOfGreatest 48 = .ok (.iload_n 1, 1) := by decide +kernel
theorem d_Su_wayOfGreatest_49 : decode b_Su_wayOfGreatest 49 = .ok (.ireturn, 1) := by decide +kernel
theorem d_Su_rateOfGreatest_0 : decode b_Su_rateOfGreatest 0 = .ok (.iconst 0, 1) := by decide +kernel
theorem d_Su_rateOfGreatest_1 : decode b_Su_rateOfGreatest 1 = .ok (.istore_n 2, 1) := by decide +kernel
theorem d_Su_rateOfGreatest_2 : decode b_Su_rateOfGreatest 2 = .ok (.aload_n 0, 1) := by decide +kernel
theorem d_Su_rateOfGreatest_3 : decode b_Su_rateOfGreatest 3 = .ok (.iload_n 1, 1) := by decide +kernel
theorem d_Su_rateOfGreatest_4 : decode b_Su_rateOfGreatest 4 = .ok (.iconst 0, 1) := by decide +kernel
theorem d_Su_rateOfGreatest_5 : decode b_Su_rateOfGreatest 5 = .ok (.invokevirtual 79, 3) := by decide +kernel
theorem d_Su_rateOfGreatest_8 : decode b_Su_rateOfGreatest 8 = .ok (.aload_n 0, 1) := by decide +kernel
theorem d_Su_rateOfGreatest_9 : decode b_Su_rateOfGreatest 9 = .ok (.iconst 2, 1) := by decide +kernel
theorem d_Su_rateOfGreatest_10 : decode b_Su_rateOfGreatest 10 = .ok (.invokevirtual 83, 3) := by decide +kernel
theorem d_Su_rateOfGreatest_13 : decode b_Su_rateOfGreatest 13 = .ok (.iconst 1, 1) := by decide +kernel
theorem d_Su_rateOfGreatest_14 : decode b_Su_rateOfGreatest 14 = .ok (.istore_n 3, 1) := by decide +kernel
theorem d_Su_rateOfGreatest_15 : decode b_Su_rateOfGreatest 15 = .ok (.iload_n 3, 1) := by decide +kernel
theorem d_Su_rateOfGreatest_16 : decode b_Su_rateOfGreatest 16 = .ok (.bipush 8, 2) := by decide +kernel
theorem d_Su_rateOfGreatest_18 : decode b_Su_rateOfGreatest 18 = .ok (.if_icmp .gt 43, 3) := by decide +kernel
theorem d_Su_rateOfGreatest_21 : decode b_Su_rateOfGreatest 21 = .ok (.aload_n 0, 1) := by decide +kernel
theorem d_Su_rateOfGreatest_22 : decode b_Su_rateOfGreatest 22 = .ok (.iload_n 1, 1) := by decide +kernel
theorem d_Su_rateOfGreatest_23 : decode b_Su_rateOfGreatest 23 = .ok (.iload_n 3, 1) := by decide +kernel
theorem d_Su_rateOfGreatest_24 : decode b_Su_rateOfGreatest 24 = .ok (.invokevirtual 79, 3) := by decide +kernel
theorem d_Su_rateOfGreatest_27 : decode b_Su_rateOfGreatest 27 = .ok (.aload_n 0, 1) := by decide +kernel
theorem d_Su_rateOfGreatest_28 : decode b_Su_rateOfGreatest 28 = .ok (.iconst 1, 1) := by decide +kernel
theorem d_Su_rateOfGreatest_29 : decode b_Su_rateOfGreatest 29 = .ok (.invokevirtual 83, 3) := by decide +kernel
theorem d_Su_rateOfGreatest_32 : decode b_Su_rateOfGreatest 32 = .ok (.aload_n 0, 1) := by decide +kernel
theorem d_Su_rateOfGreatest_33 : decode b_Su_rateOfGreatest 33 = .ok (.getfield 42, 3) := by decide +kernel
theorem d_Su_rateOfGreatest_36 : decode b_Su_rateOfGreatest 36 = .ok (.iconst 1, 1) := by decide +kernel
theorem d_Su_rateOfGreatest_37 : decode b_Su_rateOfGreatest 37 = .ok (.iconst 2, 1) := by decide +kernel
theorem d_Su_rateOfGreatest_38 : decode b_Su_rateOfGreatest 38 = .ok (.invokevirtual 86, 3) := by decide +kernel
theorem d_Su_rateOfGreatest_41 : decode b_Su_rateOfGreatest 41 = .ok (.ifCond .le 14, 3) := by decide +kernel
theorem d_Su_rateOfGreatest_44 : decode b_Su_rateOfGreatest 44 = .ok (.aload_n 0, 1) := by decide +kernel
theorem d_Su_rateOfGreatest_45 : decode b_Su_rateOfGreatest 45 = .ok (.getfield 42, 3) := by decide +kernel
theorem d_Su_rateOfGreatest_48 : decode b_Su_rateOfGreatest 48 = .ok (.iconst 2, 1) := by decide +kernel
theorem d_Su_rateOfGreatest_49 : decode b_Su_rateOfGreatest 49 = .ok (.iconst 1, 1) := by decide +kernel
theorem d_Su_rateOfGreatest_50 : decode b_Su_rateOfGreatest 50 = .ok (.invokevirtual 90, 3) := by decide +kernel
theorem d_Su_rateOfGreatest_53 : decode b_Su_rateOfGreatest 53 = .ok (.iload_n 3, 1) := by decide +kernel
theorem d_Su_rateOfGreatest_54 : decode b_Su_rateOfGreatest 54 = .ok (.istore_n 2, 1) := by decide +kernel
theorem d_Su_rateOfGreatest_55 : decode b_Su_rateOfGreatest 55 = .ok (.iinc 3 1, 3) := by decide +kernel
theorem d_Su_rateOfGreatest_58 : decode b_Su_rateOfGreatest 58 = .ok (.goto (-43), 3) := by decide +kernel
theorem d_Su_rateOfGreatest_61 : decode b_Su_rateOfGreatest 61 = .ok (.iload_n 2, 1) := by decide +kernel
theorem d_Su_rateOfGreatest_62 : decode b_Su_rateOfGreatest 62 = .ok (.ireturn, 1) := by decide +kernel
end
section
set_option maxRecDepth 100000 in
set_option maxHeartbeats 4000000 in
theorem k_Su_quotient (l : Launch) (D : va_G) (K : Nat → ClassId) (aS : Nat) (h : Nat) (hM : Nat) (hF : Nat) (qsr : Nat) (aB : Nat) (aE : Nat) (aQ : Nat) (aT : Nat) (qT : Nat) (x : Nat) (n1 : Nat) (y : Nat) (dT : Nat → Nat) (VT : Nat → Nat) (hRT : am_R 4 dT VT) (hx : x < 3) (hy : y < 3) (hxy : x ≠ y) (hn1 : n1 ≤ 1000) (hy1 : VT y ≤ 2 ^ 150) (hx1 : VT x * n1 < 1000000000 ^ 6) (hq1 : 0 < VT y → VT x * n1 < 2 ^ 28 * VT y) : mg_Mi l D K y_Su_quotient b_Su_quotient 7 (.int) ({ frames := 1, cells := 0, slots := 0, locals := 40 }) [.ref (aS), .int (nI (x)), .int (nI (n1)), .int (nI (y))] [mg_ob aS 4 [.ref (h), .ref (hM), .ref (hF), .ref (qsr), .ref (aB), .ref (aE), .ref (aQ), .ref (aT)], mg_ob aT 0 [.ref (qT)], mg_al K qT (4 * 6) dT] (fun (r : Int32) (uu : (Nat → Nat) × (Nat → Nat)) => r = nI (su_quot (VT x) n1 (VT y)) ∧ am_R 4 uu.1 uu.2) (fun (uu : (Nat → Nat) × (Nat → Nat)) => [mg_ob aS 4 [.ref (h), .ref (hM), .ref (hF), .ref (qsr), .ref (aB), .ref (aE), .ref (aQ), .ref (aT)], mg_ob aT 0 [.ref (qT)], mg_al K qT (4 * 6) uu.1]) := by
  intro sz
  refine mg_entry (Qc := fun A => va_Qi (fun (r : Int32) (uu : (Nat → Nat) × (Nat → Nat)) => r = nI (su_quot (VT x) n1 (VT y)) ∧ am_R 4 uu.1 uu.2) (mg_B D A (fun (uu : (Nat → Nat) × (Nat → Nat)) => [mg_ob aS 4 [.ref (h), .ref (hM), .ref (hF), .ref (qsr), .ref (aB), .ref (aE), .ref (aQ), .ref (aT)], mg_ob aT 0 [.ref (qT)], mg_al K qT (4 * 6) uu.1])) A) (by decide) (Nat.le_of_ble_eq_true rfl) ?_
  intro p e s m args below meth c A ls X hr hlk hnm hA hK hw hl
  have hl : lv_has ls 7 [(0, .ref (aS)), (1, .int (nI (x))), (2, .int (nI (n1))), (3, .int (nI (y)))] := hl
  refine mg_aload_n X 1 d_Su_quotient_0 (lv_at hl 0 rfl) rfl ?_
  refine mg_get X hK hw 4 0 7 f_Su_42 rfl rfl d_Su_quotient_1 rfl ?_
  refine mg_iload_n X 5 d_Su_quotient_4 (lv_at hl 3 rfl) rfl ?_
  refine mg_callVi X hK hw hA 8 [1, 2] 1 (fun _ => [mg_ob aS 4 [.ref (h), .ref (hM), .ref (hF), .ref (qsr), .ref (aB), .ref (aE), .ref (aQ), .ref (aT)], mg_ob aT 0 [.ref (qT)], mg_al K qT (4 * 6) dT]) rfl rfl (k_Am_isZero l D K aT qT 4 y dT VT (by omega) (hRT) (by omega)) g_Su_108 ⟨by decide, by decide⟩ ⟨rfl, rfl⟩ rfl rfl rfl hl.1 (rest := []) (As := [.int (nI (y))]) rfl (Nat.le_of_ble_eq_true rfl) d_Su_quotient_5 ⟨Nat.zero_le _, Nat.zero_le _⟩ (fun _ => rfl) (fun _ => rfl) rfl ?_
  intro r _ H locs hz0 hw
  subst hz0
  refine mg_bif_eq X 13 11 d_Su_quotient_8 (by decide) rfl (fun hz1 => ?_) (fun hz1 => ?_)
  · -- pc 8 t
    have hz : 0 < VT y := Nat.pos_of_ne_zero hz1
    refine mg_aload_n X 14 d_Su_quotient_13 (lv_at hl 0 rfl) rfl ?_
    refine mg_get X hK hw 17 0 7 f_Su_42 rfl rfl d_Su_quotient_14 rfl ?_
    refine mg_iload_n X 18 d_Su_quotient_17 (lv_at hl 1 rfl) rfl ?_
    refine mg_iload_n X 19 d_Su_quotient_18 (lv_at hl 2 rfl) rfl ?_
    refine mg_callVv X hK hw hA 22 [1, 2] 1 (fun u2 => [mg_ob aS 4 [.ref (h), .ref (hM), .ref (hF), .ref (qsr), .ref (aB), .ref (aE), .ref (aQ), .ref (aT)], mg_ob aT 0 [.ref (qT)], mg_al K qT (4 * 6) u2]) rfl rfl (k_Am_multiply l D K aT qT 4 x n1 dT VT (by omega) (hRT) (by omega) (by omega) (hx1)) g_Su_112 ⟨by decide, by decide⟩ ⟨rfl, rfl⟩ rfl rfl rfl hl.1 (rest := []) (As := [.int (nI (x)), .int (nI (n1))]) rfl (Nat.le_of_ble_eq_true rfl) d_Su_quotient_19 ⟨Nat.zero_le _, Nat.zero_le _⟩ (fun _ => rfl) (fun _ => rfl) rfl ?_
    intro u2 H locs hp3 hw
    refine mg_iconst X 23 0 d_Su_quotient_22 mg_ci_0 rfl ?_
    refine mg_istore X 25 [(4, .int (nI (0))), (0, .ref (aS)), (1, .int (nI (x))), (2, .int (nI (n1))), (3, .int (nI (y)))] d_Su_quotient_23 hl (by decide) rfl rfl (fun ls hl => ?_)
    refine mg_bipush X 27 27 d_Su_quotient_25 mg_cb_27 rfl ?_
    refine mg_istore X 29 [(5, .int (nI (27))), (4, .int (nI (0))), (0, .ref (aS)), (1, .int (nI (x))), (2, .int (nI (n1))), (3, .int (nI (y)))] d_Su_quotient_27 hl (by decide) rfl rfl (fun ls hl => ?_)
    have L29 : ∀ (n0 : Nat) (k1 : Nat) (q0 : Nat) (u : Nat → Nat) (V : Nat → Nat), n0 = k1 → (am_R 4 u V) → (k1 ≤ 28) → (V x = VT x * n1) → (V y = VT y) → (su_q (VT x * n1 / VT y) k1 q0) → (q0 + 2 ^ k1 ≤ 2 ^ 28) → ∀ (ls : Array Slot) (H : Heap) (locs : List Loc), lv_has ls 7 [(0, .ref (aS)), (1, .int (nI (x))), (2, .int (nI (n1))), (3, .int (nI (y))), (4, .int (nI (q0))), (5, .int (mg_dn k1))] → mg_H D A s.heap H locs [mg_ob aS 4 [.ref (h), .ref (hM), .ref (hF), .ref (qsr), .ref (aB), .ref (aE), .ref (aQ), .ref (aT)], mg_ob aT 0 [.ref (qT)], mg_al K qT (4 * 6) u] → W p l e ({ frames := 1, cells := 0, slots := 0, locals := 40 }) s m args below meth c H locs 0 0 (MQ below (va_Qi (fun (r : Int32) (uu : (Nat → Nat) × (Nat → Nat)) => r = nI (su_quot (VT x) n1 (VT y)) ∧ am_R 4 uu.1 uu.2) (mg_B D A (fun (uu : (Nat → Nat) × (Nat → Nat)) => [mg_ob aS 4 [.ref (h), .ref (hM), .ref (hF), .ref (qsr), .ref (aB), .ref (aE), .ref (aQ), .ref (aT)], mg_ob aT 0 [.ref (qT)], mg_al K qT (4 * 6) uu.1])) A) args s 0 0 A) (F0 m 29 ls []) := by
      intro n0
      induction n0 using Nat.strongRecOn with
      | ind n0 ih29 =>
      intro k1 q0 u V hm29 hI hk hVx hVy hq hq2 ls H locs hl hw
      cases k1 with
      | zero =>
        have hl : lv_has ls 7 [(0, .ref (aS)), (1, .int (nI (x))), (2, .int (nI (n1))), (3, .int (nI (y))), (4, .int (nI (q0))), (5, .int (nI (4294967295)))] := hl
        refine mg_iload X 31 d_Su_quotient_29 (lv_at hl 5 rfl) rfl ?_
        refine mg_iflt_y X 84 d_Su_quotient_31 (by decide) ?_
        refine mg_iload X 86 d_Su_quotient_84 (lv_at hl 4 rfl) rfl ?_
        exact mg_iret X hr hlk (rfl) ((u, V)) (⟨by rw [show su_quot (VT x) n1 (VT y) = VT x * n1 / VT y from if_neg (by omega), su_q0 hq], hI⟩) hw d_Su_quotient_86
      | succ k =>
        have hl : lv_has ls 7 [(0, .ref (aS)), (1, .int (nI (x))), (2, .int (nI (n1))), (3, .int (nI (y))), (4, .int (nI (q0))), (5, .int (nI (k)))] := hl
        refine mg_iload X 31 d_Su_quotient_29 (lv_at hl 5 rfl) rfl ?_
        refine mg_iflt_n X 34 (by omega) (tgt := 84) d_Su_quotient_31 (by decide) rfl ?_
        refine mg_iload X 36 d_Su_quotient_34 (lv_at hl 4 rfl) rfl ?_
        refine mg_iconst X 37 1 d_Su_quotient_36 mg_ci_1 rfl ?_
        refine mg_iload X 39 d_Su_quotient_37 (lv_at hl 5 rfl) rfl ?_
        refine mg_ishl X 40 ((nI (2 ^ k))) d_Su_quotient_39 (mg_shl (by omega)) rfl ?_
        refine mg_iadd X 41 (nI (q0 + (2 ^ k))) d_Su_quotient_40 (nI_add _ _) rfl ?_
        refine mg_istore X 43 [(6, .int (nI (q0 + (2 ^ k)))), (0, .ref (aS)), (1, .int (nI (x))), (2, .int (nI (n1))), (3, .int (nI (y))), (4, .int (nI (q0))), (5, .int (nI (k)))] d_Su_quotient_41 hl (by decide) rfl rfl (fun ls hl => ?_)
        refine mg_aload_n X 44 d_Su_quotient_43 (lv_at hl 1 rfl) rfl ?_
        refine mg_get X hK hw 47 0 7 f_Su_42 rfl rfl d_Su_quotient_44 rfl ?_
        refine mg_iconst X 48 3 d_Su_quotient_47 mg_ci_3 rfl ?_
        refine mg_iload_n X 49 d_Su_quotient_48 (lv_at hl 4 rfl) rfl ?_
        refine mg_callVv X hK hw hA 52 [1, 2] 1 (fun u6 => [mg_ob aS 4 [.ref (h), .ref (hM), .ref (hF), .ref (qsr), .ref (aB), .ref (aE), .ref (aQ), .ref (aT)], mg_ob aT 0 [.ref (qT)], mg_al K qT (4 * 6) u6]) rfl rfl (k_Am_copy l D K aT qT 4 3 y u V (by omega) (hI) (by omega) (by omega)) g_Su_90 ⟨by decide, by decide⟩ ⟨rfl, rfl⟩ rfl rfl rfl hl.1 (rest := []) (As := [.int (nI (3)), .int (nI (y))]) rfl (Nat.le_of_ble_eq_true rfl) d_Su_quotient_49 ⟨Nat.zero_le _, Nat.zero_le _⟩ (fun _ => rfl) (fun _ => rfl) rfl ?_
        intro u6 H locs hp7 hw
        refine mg_aload_n X 53 d_Su_quotient_52 (lv_at hl 1 rfl) rfl ?_
        refine mg_get X hK hw 56 0 7 f_Su_42 rfl rfl d_Su_quotient_53 rfl ?_
        refine mg_iconst X 57 3 d_Su_quotient_56 mg_ci_3 rfl ?_
        refine mg_iload X 59 d_Su_quotient_57 (lv_at hl 0 rfl) rfl ?_
        have hp2 : 2 ^ (k + 1) = 2 ^ k * 2 := Nat.pow_succ 2 k
        refine mg_callVv X hK hw hA 62 [1, 2] 1 (fun u8 => [mg_ob aS 4 [.ref (h), .ref (hM), .ref (hF), .ref (qsr), .ref (aB), .ref (aE), .ref (aQ), .ref (aT)], mg_ob aT 0 [.ref (qT)], mg_al K qT (4 * 6) u8]) rfl rfl (k_Am_multiply l D K aT qT 4 3 (q0 + (2 ^ k)) u6 (va_up V 3 (V y)) (by omega) (hp7) (by omega) (by omega) (by rw [va_up_self, hVy]; exact su_lt (su_mul hy1 (show q0 + 2 ^ k ≤ 2 ^ 28 by omega)) (by omega))) g_Su_112 ⟨by decide, by decide⟩ ⟨rfl, rfl⟩ rfl rfl rfl hl.1 (rest := []) (As := [.int (nI (3)), .int (nI (q0 + (2 ^ k)))]) rfl (Nat.le_of_ble_eq_true rfl) d_Su_quotient_59 ⟨Nat.zero_le _, Nat.zero_le _⟩ (fun _ => rfl) (fun _ => rfl) rfl ?_
        intro u8 H locs hp9 hw
        refine mg_aload_n X 63 d_Su_quotient_62 (lv_at hl 1 rfl) rfl ?_
        refine mg_get X hK hw 66 0 7 f_Su_42 rfl rfl d_Su_quotient_63 rfl ?_
        refine mg_iconst X 67 3 d_Su_quotient_66 mg_ci_3 rfl ?_
        refine mg_iload_n X 68 d_Su_quotient_67 (lv_at hl 2 rfl) rfl ?_
        refine mg_callVi X hK hw hA 71 [1, 2] 1 (fun _ => [mg_ob aS 4 [.ref (h), .ref (hM), .ref (hF), .ref (qsr), .ref (aB), .ref (aE), .ref (aQ), .ref (aT)], mg_ob aT 0 [.ref (qT)], mg_al K qT (4 * 6) u8]) rfl rfl (k_Am_compare l D K aT qT 4 3 x u8 (va_up (va_up V 3 (V y)) 3 ((va_up V 3 (V y)) 3 * (q0 + (2 ^ k)))) (by omega) (hp9) (by omega) (by omega)) g_Su_86 ⟨by decide, by decide⟩ ⟨rfl, rfl⟩ rfl rfl rfl hl.1 (rest := []) (As := [.int (nI (3)), .int (nI (x))]) rfl (Nat.le_of_ble_eq_true rfl) d_Su_quotient_68 ⟨Nat.zero_le _, Nat.zero_le _⟩ (fun _ => rfl) (fun _ => rfl) rfl ?_
        intro r _ H locs hp11 hw
        subst hp11
        refine mg_cif_gt X 78 74 d_Su_quotient_71 (by decide) rfl (fun hc => ?_) (fun hc => ?_)
        · -- pc 71 t
          have hc9 : ¬ VT y * (q0 + 2 ^ k) ≤ VT x * n1 := by rw [va_up_self, va_up_self, va_up_ne _ _ (by omega), va_up_ne _ _ (by omega), hVx, hVy] at hc; omega
          refine mg_iincD X 81 [(5, .int (mg_dn k)), (6, .int (nI (q0 + (2 ^ k)))), (0, .ref (aS)), (1, .int (nI (x))), (2, .int (nI (n1))), (3, .int (nI (y))), (4, .int (nI (q0)))] d_Su_quotient_78 hl (k := 6) rfl (by decide) rfl rfl (fun ls hl => ?_)
          refine mg_goto X 29 d_Su_quotient_81 (by decide) ?_
          have hl : lv_has ls 7 [(0, .ref (aS)), (1, .int (nI (x))), (2, .int (nI (n1))), (3, .int (nI (y))), (4, .int (nI (q0))), (5, .int (mg_dn k))] := lv_sub hl [2, 3, 4, 5, 6, 0] rfl
          exact ih29 _ (by omega) k q0 u8 (va_up (va_up V 3 (V y)) 3 ((va_up V 3 (V y)) 3 * (q0 + (2 ^ k)))) rfl (hp9) (by omega) (by rw [va_up_ne _ _ (by omega), va_up_ne _ _ (by omega)]; exact hVx) (by rw [va_up_ne _ _ (by omega), va_up_ne _ _ (by omega)]; exact hVy) (su_qn hq (Nat.lt_of_not_le (fun q9 => hc9 ((su_tr hz).mp q9)))) (by rw [Nat.pow_succ] at hq2; omega) ls _ _ hl hw
        · -- pc 71 f
          have hc9 : VT y * (q0 + 2 ^ k) ≤ VT x * n1 := by rw [va_up_self, va_up_self, va_up_ne _ _ (by omega), va_up_ne _ _ (by omega), hVx, hVy] at hc; exact hc
          refine mg_iload X 76 d_Su_quotient_74 (lv_at hl 0 rfl) rfl ?_
          refine mg_istore X 78 [(4, .int (nI (q0 + (2 ^ k)))), (6, .int (nI (q0 + (2 ^ k)))), (0, .ref (aS)), (1, .int (nI (x))), (2, .int (nI (n1))), (3, .int (nI (y))), (5, .int (nI (k)))] d_Su_quotient_76 hl (by decide) rfl rfl (fun ls hl => ?_)
          refine mg_iincD X 81 [(5, .int (mg_dn k)), (4, .int (nI (q0 + (2 ^ k)))), (6, .int (nI (q0 + (2 ^ k)))), (0, .ref (aS)), (1, .int (nI (x))), (2, .int (nI (n1))), (3, .int (nI (y)))] d_Su_quotient_78 hl (k := 6) rfl (by decide) rfl rfl (fun ls hl => ?_)
          refine mg_goto X 29 d_Su_quotient_81 (by decide) ?_
          have hl : lv_has ls 7 [(0, .ref (aS)), (1, .int (nI (x))), (2, .int (nI (n1))), (3, .int (nI (y))), (4, .int (nI (q0 + (2 ^ k)))), (5, .int (mg_dn k))] := lv_sub hl [3, 4, 5, 6, 1, 0] rfl
          exact ih29 _ (by omega) k (q0 + (2 ^ k)) u8 (va_up (va_up V 3 (V y)) 3 ((va_up V 3 (V y)) 3 * (q0 + (2 ^ k)))) rfl (hp9) (by omega) (by rw [va_up_ne _ _ (by omega), va_up_ne _ _ (by omega)]; exact hVx) (by rw [va_up_ne _ _ (by omega), va_up_ne _ _ (by omega)]; exact hVy) (su_qy hq ((su_tr hz).mpr hc9)) (by rw [Nat.pow_succ] at hq2; omega) ls _ _ hl hw
    have hl : lv_has ls 7 [(0, .ref (aS)), (1, .int (nI (x))), (2, .int (nI (n1))), (3, .int (nI (y))), (4, .int (nI (0))), (5, .int (nI (27)))] := lv_sub hl [2, 3, 4, 5, 1, 0] rfl
    exact L29 _ (27 + 1) 0 u2 (va_up VT x (VT x * n1)) rfl (hp3) (by omega) (by rw [va_up_self]) (by rw [va_up_ne _ _ (Ne.symm hxy)]) (⟨Nat.zero_le _, by rw [Nat.zero_add]; exact su_lt28 hz (hq1 hz)⟩) (by omega) ls _ _ hl hw
  · -- pc 8 f
    refine mg_iconst X 12 4294967295 d_Su_quotient_11 mg_ci_m1 rfl ?_
    exact mg_iret X hr hlk (rfl) ((dT, VT)) (⟨by rw [show su_quot (VT x) n1 (VT y) = 4294967295 from if_pos hz1], hRT⟩) hw d_Su_quotient_12

set_option maxRecDepth 100000 in
set_option maxHeartbeats 4000000 in
theorem k_Su_thousandthsTurned (l : Launch) (D : va_G) (K : Nat → ClassId) (aS : Nat) (h : Nat) (hM : Nat) (hF : Nat) (qsr : Nat) (aB : Nat) (aE : Nat) (aQ : Nat) (aT : Nat) (qf : Nat) (qm : Nat) (qr : Nat) (nf : Nat) (nc : Nat) (qQ : Nat) (qT : Nat) (bi : Nat) (dQ : Nat → Nat) (VQ : Nat → Nat) (dT : Nat → Nat) (VT : Nat → Nat) (hnc : nc ≤ 3) (hRQ : am_R 64 dQ VQ) (hRT : am_R 4 dT VT) (hz : zs_sum (2 ^ (2 * nc)) VQ = VT 0) (hz1 : VT 0 ≤ 2 ^ 150) (hbi : bi < 6) : mg_Mi l D K y_Su_thousandthsTurned b_Su_thousandthsTurned 3 (.int) ({ frames := 2, cells := 0, slots := 0, locals := 70 }) [.ref (aS), .int (nI (bi))] [mg_ob aS 4 [.ref (h), .ref (hM), .ref (hF), .ref (qsr), .ref (aB), .ref (aE), .ref (aQ), .ref (aT)], mg_ob h 1 [.ref (qf), .ref (qm), .ref (qr), .int (nI (nf)), .int (nI (nc))], mg_ob aQ 0 [.ref (qQ)], mg_al K qQ (64 * 6) dQ, mg_ob aT 0 [.ref (qT)], mg_al K qT (4 * 6) dT] (fun (r : Int32) (uu : (Nat → Nat) × (Nat → Nat)) => r = nI (su_quot (su_pick (fun w => w / 2 ^ bi % 2 = 1) VQ (2 ^ (2 * nc))) 1000 (VT 0)) ∧ am_R 4 uu.1 uu.2) (fun (uu : (Nat → Nat) × (Nat → Nat)) => [mg_ob aS 4 [.ref (h), .ref (hM), .ref (hF), .ref (qsr), .ref (aB), .ref (aE), .ref (aQ), .ref (aT)], mg_ob h 1 [.ref (qf), .ref (qm), .ref (qr), .int (nI (nf)), .int (nI (nc))], mg_ob aQ 0 [.ref (qQ)], mg_al K qQ (64 * 6) dQ, mg_ob aT 0 [.ref (qT)], mg_al K qT (4 * 6) uu.1]) := by
  intro sz
  refine mg_entry (Qc := fun A => va_Qi (fun (r : Int32) (uu : (Nat → Nat) × (Nat → Nat)) => r = nI (su_quot (su_pick (fun w => w / 2 ^ bi % 2 = 1) VQ (2 ^ (2 * nc))) 1000 (VT 0)) ∧ am_R 4 uu.1 uu.2) (mg_B D A (fun (uu : (Nat → Nat) × (Nat → Nat)) => [mg_ob aS 4 [.ref (h), .ref (hM), .ref (hF), .ref (qsr), .ref (aB), .ref (aE), .ref (aQ), .ref (aT)], mg_ob h 1 [.ref (qf), .ref (qm), .ref (qr), .int (nI (nf)), .int (nI (nc))], mg_ob aQ 0 [.ref (qQ)], mg_al K qQ (64 * 6) dQ, mg_ob aT 0 [.ref (qT)], mg_al K qT (4 * 6) uu.1])) A) (by decide) (Nat.le_of_ble_eq_true rfl) ?_
  intro p e s m args below meth c A ls X hr hlk hnm hA hK hw hl
  have hl : lv_has ls 3 [(0, .ref (aS)), (1, .int (nI (bi)))] := hl
  have hw6 := mg_ways hnc
  refine mg_aload_n X 1 d_Su_thousandthsTurned_0 (lv_at hl 0 rfl) rfl ?_
  refine mg_get X hK hw 4 0 7 f_Su_42 rfl rfl d_Su_thousandthsTurned_1 rfl ?_
  refine mg_iconst X 5 1 d_Su_thousandthsTurned_4 mg_ci_1 rfl ?_
  refine mg_iconst X 6 0 d_Su_thousandthsTurned_5 mg_ci_0 rfl ?_
  refine mg_callVv X hK hw hA 9 [4, 5] 4 (fun u1 => [mg_ob aS 4 [.ref (h), .ref (hM), .ref (hF), .ref (qsr), .ref (aB), .ref (aE), .ref (aQ), .ref (aT)], mg_ob h 1 [.ref (qf), .ref (qm), .ref (qr), .int (nI (nf)), .int (nI (nc))], mg_ob aQ 0 [.ref (qQ)], mg_al K qQ (64 * 6) dQ, mg_ob aT 0 [.ref (qT)], mg_al K qT (4 * 6) u1]) rfl rfl (k_Am_set l D K aT qT 4 1 0 dT VT (by omega) (hRT) (by omega) (by omega)) g_Su_93 ⟨by decide, by decide⟩ ⟨rfl, rfl⟩ rfl rfl rfl hl.1 (rest := []) (As := [.int (nI (1)), .int (nI (0))]) rfl (Nat.le_of_ble_eq_true rfl) d_Su_thousandthsTurned_6 ⟨Nat.zero_le _, Nat.zero_le _⟩ (fun _ => rfl) (fun _ => rfl) rfl ?_
  intro u1 H locs hp2 hw
  refine mg_iconst X 10 0 d_Su_thousandthsTurned_9 mg_ci_0 rfl ?_
  refine mg_istore_n X 11 [(2, .int (nI (0))), (0, .ref (aS)), (1, .int (nI (bi)))] d_Su_thousandthsTurned_10 hl (by decide) rfl rfl (fun ls hl => ?_)
  have L11 : ∀ (n0 : Nat) (k : Nat) (u : Nat → Nat), n0 = 2 ^ (2 * nc) - k → (am_R 4 u (va_up VT 1 (su_pick (fun w => w / 2 ^ bi % 2 = 1) VQ k))) → (k ≤ 2 ^ (2 * nc)) → ∀ (ls : Array Slot) (H : Heap) (locs : List Loc), lv_has ls 3 [(0, .ref (aS)), (1, .int (nI (bi))), (2, .int (nI (k)))] → mg_H D A s.heap H locs [mg_ob aS 4 [.ref (h), .ref (hM), .ref (hF), .ref (qsr), .ref (aB), .ref (aE), .ref (aQ), .ref (aT)], mg_ob h 1 [.ref (qf), .ref (qm), .ref (qr), .int (nI (nf)), .int (nI (nc))], mg_ob aQ 0 [.ref (qQ)], mg_al K qQ (64 * 6) dQ, mg_ob aT 0 [.ref (qT)], mg_al K qT (4 * 6) u] → W p l e ({ frames := 2, cells := 0, slots := 0, locals := 70 }) s m args below meth c H locs 0 0 (MQ below (va_Qi (fun (r : Int32) (uu : (Nat → Nat) × (Nat → Nat)) => r = nI (su_quot (su_pick (fun w => w / 2 ^ bi % 2 = 1) VQ (2 ^ (2 * nc))) 1000 (VT 0)) ∧ am_R 4 uu.1 uu.2) (mg_B D A (fun (uu : (Nat → Nat) × (Nat → Nat)) => [mg_ob aS 4 [.ref (h), .ref (hM), .ref (hF), .ref (qsr), .ref (aB), .ref (aE), .ref (aQ), .ref (aT)], mg_ob h 1 [.ref (qf), .ref (qm), .ref (qr), .int (nI (nf)), .int (nI (nc))], mg_ob aQ 0 [.ref (qQ)], mg_al K qQ (64 * 6) dQ, mg_ob aT 0 [.ref (qT)], mg_al K qT (4 * 6) uu.1])) A) args s 0 0 A) (F0 m 11 ls []) := by
    intro n0
    induction n0 using Nat.strongRecOn with
    | ind n0 ih11 =>
    intro k u hm11 hI hk ls H locs hl hw
    refine mg_iload_n X 12 d_Su_thousandthsTurned_11 (lv_at hl 2 rfl) rfl ?_
    refine mg_aload_n X 13 d_Su_thousandthsTurned_12 (lv_at hl 0 rfl) rfl ?_
    refine mg_get X hK hw 16 0 0 f_Su_9 rfl rfl d_Su_thousandthsTurned_13 rfl ?_
    refine mg_callVi X hK hw hA 19 [1] 1 (fun _ => [mg_ob aS 4 [.ref (h), .ref (hM), .ref (hF), .ref (qsr), .ref (aB), .ref (aE), .ref (aQ), .ref (aT)], mg_ob h 1 [.ref (qf), .ref (qm), .ref (qr), .int (nI (nf)), .int (nI (nc))], mg_ob aQ 0 [.ref (qQ)], mg_al K qQ (64 * 6) dQ, mg_ob aT 0 [.ref (qT)], mg_al K qT (4 * 6) u]) rfl rfl (k_Fa_ways l D K h qf qm qr nf nc (by omega)) g_Su_70 ⟨by decide, by decide⟩ ⟨rfl, rfl⟩ rfl rfl rfl hl.1 (rest := [.int (nI (k))]) (As := []) rfl (Nat.le_of_ble_eq_true rfl) d_Su_thousandthsTurned_16 ⟨Nat.zero_le _, Nat.zero_le _⟩ (fun _ => rfl) (fun _ => rfl) rfl ?_
    intro r _ H locs hp4 hw
    subst hp4
    refine mg_icmp_ge X 50 22 (by omega) (by omega) d_Su_thousandthsTurned_19 (by decide) rfl (fun hb => ?_) (fun hb => ?_)
    · -- pc 19 t
      refine mg_aload_n X 51 d_Su_thousandthsTurned_50 (lv_at hl 0 rfl) rfl ?_
      refine mg_iconst X 52 1 d_Su_thousandthsTurned_51 mg_ci_1 rfl ?_
      refine mg_sipush X 55 1000 d_Su_thousandthsTurned_52 mg_cs_1000 rfl ?_
      refine mg_iconst X 56 0 d_Su_thousandthsTurned_55 mg_ci_0 rfl ?_
      have hk9 : k = 2 ^ (2 * nc) := by omega
      have hpl : su_pick (fun w => w / 2 ^ bi % 2 = 1) VQ k ≤ VT 0 := by rw [← hz]; exact Nat.le_trans (su_pick_le _ _ _) (zs_mono hk)
      have hpk := Nat.le_trans hpl hz1
      refine mg_callVi X hK hw hA 59 [0, 4, 5] 0 (fun uu => [mg_ob aS 4 [.ref (h), .ref (hM), .ref (hF), .ref (qsr), .ref (aB), .ref (aE), .ref (aQ), .ref (aT)], mg_ob h 1 [.ref (qf), .ref (qm), .ref (qr), .int (nI (nf)), .int (nI (nc))], mg_ob aQ 0 [.ref (qQ)], mg_al K qQ (64 * 6) dQ, mg_ob aT 0 [.ref (qT)], mg_al K qT (4 * 6) uu.1]) rfl rfl (k_Su_quotient l D K aS h hM hF qsr aB aE aQ aT qT 1 1000 0 u (va_up VT 1 (su_pick (fun w => w / 2 ^ bi % 2 = 1) VQ k)) (hI) (by omega) (by omega) (by omega) (by omega) (by rw [va_up_ne _ _ (by omega)]; exact hz1) (by rw [va_up_self]; exact su_lt (su_mul (b := 10) hpk (by decide)) (by omega)) (fun h9 => by rw [va_up_self, va_up_ne _ _ (by omega)] at *; exact su_th hpl h9)) g_Su_100 ⟨by decide, by decide⟩ ⟨rfl, rfl⟩ rfl rfl rfl hl.1 (rest := []) (As := [.int (nI (1)), .int (nI (1000)), .int (nI (0))]) rfl (Nat.le_of_ble_eq_true rfl) d_Su_thousandthsTurned_56 ⟨Nat.zero_le _, Nat.zero_le _⟩ (fun _ => rfl) (fun _ => rfl) rfl ?_
      intro r u H locs hp6 hw
      obtain ⟨u5, V15⟩ := u
      dsimp only at hp6 hw
      obtain ⟨rfl, hp6⟩ := hp6
      exact mg_iret X hr hlk (rfl) ((u5, V15)) (⟨by rw [va_up_self, va_up_ne _ _ (by omega), hk9], hp6⟩) hw d_Su_thousandthsTurned_59
    · -- pc 19 f
      refine mg_iload_n X 23 d_Su_thousandthsTurned_22 (lv_at hl 2 rfl) rfl ?_
      refine mg_iload_n X 24 d_Su_thousandthsTurned_23 (lv_at hl 1 rfl) rfl ?_
      refine mg_ishr X 25 ((nI (k / 2 ^ bi))) d_Su_thousandthsTurned_24 (mg_shr (by omega) (by omega)) rfl ?_
      refine mg_iconst X 26 1 d_Su_thousandthsTurned_25 mg_ci_1 rfl ?_
      refine mg_iand X 27 ((nI ((k / 2 ^ bi) % 2))) d_Su_thousandthsTurned_26 (mg_and1 (Nat.lt_of_le_of_lt (Nat.div_le_self _ _) (by omega))) rfl ?_
      refine mg_iconst X 28 1 d_Su_thousandthsTurned_27 mg_ci_1 rfl ?_
      refine mg_icmp_ne X 44 31 (by omega) (by omega) d_Su_thousandthsTurned_28 (by decide) rfl (fun hP => ?_) (fun hP => ?_)
      · -- pc 28 t
        refine mg_iinc X 47 [(2, .int (nI (k + 1))), (0, .ref (aS)), (1, .int (nI (bi)))] (k + 1) d_Su_thousandthsTurned_44 hl (k := 2) rfl (mg_inc1 _) (by decide) rfl rfl (fun ls hl => ?_)
        refine mg_goto X 11 d_Su_thousandthsTurned_47 (by decide) ?_
        have hl : lv_has ls 3 [(0, .ref (aS)), (1, .int (nI (bi))), (2, .int (nI (k + 1)))] := lv_sub hl [1, 2, 0] rfl
        exact ih11 _ (by omega) (k + 1) u rfl (by rw [su_pickn (P := fun w => w / 2 ^ bi % 2 = 1) (n := k) (V := VQ) hP]; exact hI) (by omega) ls _ _ hl hw
      · -- pc 28 f
        refine mg_aload_n X 32 d_Su_thousandthsTurned_31 (lv_at hl 0 rfl) rfl ?_
        refine mg_get X hK hw 35 0 7 f_Su_42 rfl rfl d_Su_thousandthsTurned_32 rfl ?_
        refine mg_iconst X 36 1 d_Su_thousandthsTurned_35 mg_ci_1 rfl ?_
        refine mg_aload_n X 37 d_Su_thousandthsTurned_36 (lv_at hl 0 rfl) rfl ?_
        refine mg_get X hK hw 40 0 6 f_Su_39 rfl rfl d_Su_thousandthsTurned_37 rfl ?_
        refine mg_iload_n X 41 d_Su_thousandthsTurned_40 (lv_at hl 2 rfl) rfl ?_
        refine mg_callVv X hK hw hA 44 [4, 5, 2, 3] 4 (fun u7 => [mg_ob aS 4 [.ref (h), .ref (hM), .ref (hF), .ref (qsr), .ref (aB), .ref (aE), .ref (aQ), .ref (aT)], mg_ob h 1 [.ref (qf), .ref (qm), .ref (qr), .int (nI (nf)), .int (nI (nc))], mg_ob aQ 0 [.ref (qQ)], mg_al K qQ (64 * 6) dQ, mg_ob aT 0 [.ref (qT)], mg_al K qT (4 * 6) u7]) rfl rfl (k_Am_add l D K aT qT 4 aQ qQ 64 1 k u (va_up VT 1 (su_pick (fun w => w / 2 ^ bi % 2 = 1) VQ k)) dQ VQ (by omega) (hI) (by omega) (hRQ) (by omega) (by omega) (by rw [va_up_self]; exact Nat.lt_of_le_of_lt (Nat.le_trans (Nat.le_of_eq (su_picky (P := fun w => w / 2 ^ bi % 2 = 1) (n := k) (V := VQ) hP).symm) (Nat.le_trans (su_pick_le _ _ _) (zs_mono (show k + 1 ≤ 2 ^ (2 * nc) by omega)))) (by rw [hz]; exact su_lt hz1 (by omega)))) g_Su_96 ⟨by decide, by decide⟩ ⟨rfl, rfl⟩ rfl rfl rfl hl.1 (rest := []) (As := [.int (nI (1)), .ref (aQ), .int (nI (k))]) rfl (Nat.le_of_ble_eq_true rfl) d_Su_thousandthsTurned_41 ⟨Nat.zero_le _, Nat.zero_le _⟩ (fun _ => rfl) (fun _ => rfl) rfl ?_
        intro u7 H locs hp8 hw
        refine mg_iinc X 47 [(2, .int (nI (k + 1))), (0, .ref (aS)), (1, .int (nI (bi)))] (k + 1) d_Su_thousandthsTurned_44 hl (k := 2) rfl (mg_inc1 _) (by decide) rfl rfl (fun ls hl => ?_)
        refine mg_goto X 11 d_Su_thousandthsTurned_47 (by decide) ?_
        have hl : lv_has ls 3 [(0, .ref (aS)), (1, .int (nI (bi))), (2, .int (nI (k + 1)))] := lv_sub hl [1, 2, 0] rfl
        exact ih11 _ (by omega) (k + 1) u7 rfl (by have h9 := hp8; rw [va_up_self, bx_uu, ← su_picky (P := fun w => w / 2 ^ bi % 2 = 1) (n := k) (V := VQ) hP] at h9; exact h9) (by omega) ls _ _ hl hw
  have hl : lv_has ls 3 [(0, .ref (aS)), (1, .int (nI (bi))), (2, .int (nI (0)))] := lv_sub hl [1, 2, 0] rfl
  exact L11 _ 0 u1 rfl (hp2) (Nat.zero_le _) ls _ _ hl hw

set_option maxRecDepth 100000 in
set_option maxHeartbeats 4000000 in
theorem k_Su_thousandthsShared (l : Launch) (D : va_G) (K : Nat → ClassId) (aS : Nat) (h : Nat) (hM : Nat) (hF : Nat) (qsr : Nat) (aB : Nat) (aE : Nat) (aQ : Nat) (aT : Nat) (qf : Nat) (qm : Nat) (qr : Nat) (nf : Nat) (nc : Nat) (fa : Nat → Nat) (mo : Nat → Nat) (rk : Nat → Nat) (qQ : Nat) (qT : Nat) (a1 : Nat) (a2 : Nat) (dQ : Nat → Nat) (VQ : Nat → Nat) (dT : Nat → Nat) (VT : Nat → Nat) (hnc : nc ≤ 3) (hRQ : am_R 64 dQ VQ) (hRT : am_R 4 dT VT) (hz : zs_sum (2 ^ (2 * nc)) VQ = VT 0) (hz1 : VT 0 ≤ 2 ^ 150) (hF0 : fm_ok nf nc fa mo rk) (hp1 : a1 < nf + nc) (hp2 : a2 < nf + nc) : mg_Mi l D K y_Su_thousandthsShared b_Su_thousandthsShared 4 (.int) ({ frames := 2, cells := 0, slots := 0, locals := 70 }) [.ref (aS), .int (nI (a1)), .int (nI (a2))] [mg_ob aS 4 [.ref (h), .ref (hM), .ref (hF), .ref (qsr), .ref (aB), .ref (aE), .ref (aQ), .ref (aT)], mg_ob h 1 [.ref (qf), .ref (qm), .ref (qr), .int (nI (nf)), .int (nI (nc))], mg_ai K qf 6 fa, mg_ai K qm 6 mo, mg_ai K qr 6 rk, mg_ob aQ 0 [.ref (qQ)], mg_al K qQ (64 * 6) dQ, mg_ob aT 0 [.ref (qT)], mg_al K qT (4 * 6) dT] (fun (r : Int32) (uu : (Nat → Nat) × (Nat → Nat)) => r = nI (su_quot (su_pick (fun w => fm_shr fa mo rk a1 a2 w) VQ (2 ^ (2 * nc))) 1000 (VT 0)) ∧ am_R 4 uu.1 uu.2) (fun (uu : (Nat → Nat) × (Nat → Nat)) => [mg_ob aS 4 [.ref (h), .ref (hM), .ref (hF), .ref (qsr), .ref (aB), .ref (aE), .ref (aQ), .ref (aT)], mg_ob h 1 [.ref (qf), .ref (qm), .ref (qr), .int (nI (nf)), .int (nI (nc))], mg_ai K qf 6 fa, mg_ai K qm 6 mo, mg_ai K qr 6 rk, mg_ob aQ 0 [.ref (qQ)], mg_al K qQ (64 * 6) dQ, mg_ob aT 0 [.ref (qT)], mg_al K qT (4 * 6) uu.1]) := by
  intro sz
  refine mg_entry (Qc := fun A => va_Qi (fun (r : Int32) (uu : (Nat → Nat) × (Nat → Nat)) => r = nI (su_quot (su_pick (fun w => fm_shr fa mo rk a1 a2 w) VQ (2 ^ (2 * nc))) 1000 (VT 0)) ∧ am_R 4 uu.1 uu.2) (mg_B D A (fun (uu : (Nat → Nat) × (Nat → Nat)) => [mg_ob aS 4 [.ref (h), .ref (hM), .ref (hF), .ref (qsr), .ref (aB), .ref (aE), .ref (aQ), .ref (aT)], mg_ob h 1 [.ref (qf), .ref (qm), .ref (qr), .int (nI (nf)), .int (nI (nc))], mg_ai K qf 6 fa, mg_ai K qm 6 mo, mg_ai K qr 6 rk, mg_ob aQ 0 [.ref (qQ)], mg_al K qQ (64 * 6) dQ, mg_ob aT 0 [.ref (qT)], mg_al K qT (4 * 6) uu.1])) A) (by decide) (Nat.le_of_ble_eq_true rfl) ?_
  intro p e s m args below meth c A ls X hr hlk hnm hA hK hw hl
  have hl : lv_has ls 4 [(0, .ref (aS)), (1, .int (nI (a1))), (2, .int (nI (a2)))] := hl
  have hw6 := mg_ways hnc
  refine mg_aload_n X 1 d_Su_thousandthsShared_0 (lv_at hl 0 rfl) rfl ?_
  refine mg_get X hK hw 4 0 7 f_Su_42 rfl rfl d_Su_thousandthsShared_1 rfl ?_
  refine mg_iconst X 5 1 d_Su_thousandthsShared_4 mg_ci_1 rfl ?_
  refine mg_iconst X 6 0 d_Su_thousandthsShared_5 mg_ci_0 rfl ?_
  refine mg_callVv X hK hw hA 9 [7, 8] 7 (fun u1 => [mg_ob aS 4 [.ref (h), .ref (hM), .ref (hF), .ref (qsr), .ref (aB), .ref (aE), .ref (aQ), .ref (aT)], mg_ob h 1 [.ref (qf), .ref (qm), .ref (qr), .int (nI (nf)), .int (nI (nc))], mg_ai K qf 6 fa, mg_ai K qm 6 mo, mg_ai K qr 6 rk, mg_ob aQ 0 [.ref (qQ)], mg_al K qQ (64 * 6) dQ, mg_ob aT 0 [.ref (qT)], mg_al K qT (4 * 6) u1]) rfl rfl (k_Am_set l D K aT qT 4 1 0 dT VT (by omega) (hRT) (by omega) (by omega)) g_Su_93 ⟨by decide, by decide⟩ ⟨rfl, rfl⟩ rfl rfl rfl hl.1 (rest := []) (As := [.int (nI (1)), .int (nI (0))]) rfl (Nat.le_of_ble_eq_true rfl) d_Su_thousandthsShared_6 ⟨Nat.zero_le _, Nat.zero_le _⟩ (fun _ => rfl) (fun _ => rfl) rfl ?_
  intro u1 H locs hp2 hw
  refine mg_iconst X 10 0 d_Su_thousandthsShared_9 mg_ci_0 rfl ?_
  refine mg_istore_n X 11 [(3, .int (nI (0))), (0, .ref (aS)), (1, .int (nI (a1))), (2, .int (nI (a2)))] d_Su_thousandthsShared_10 hl (by decide) rfl rfl (fun ls hl => ?_)
  have L11 : ∀ (n0 : Nat) (k : Nat) (u : Nat → Nat), n0 = 2 ^ (2 * nc) - k → (am_R 4 u (va_up VT 1 (su_pick (fun w => fm_shr fa mo rk a1 a2 w) VQ k))) → (k ≤ 2 ^ (2 * nc)) → ∀ (ls : Array Slot) (H : Heap) (locs : List Loc), lv_has ls 4 [(0, .ref (aS)), (1, .int (nI (a1))), (2, .int (nI (a2))), (3, .int (nI (k)))] → mg_H D A s.heap H locs [mg_ob aS 4 [.ref (h), .ref (hM), .ref (hF), .ref (qsr), .ref (aB), .ref (aE), .ref (aQ), .ref (aT)], mg_ob h 1 [.ref (qf), .ref (qm), .ref (qr), .int (nI (nf)), .int (nI (nc))], mg_ai K qf 6 fa, mg_ai K qm 6 mo, mg_ai K qr 6 rk, mg_ob aQ 0 [.ref (qQ)], mg_al K qQ (64 * 6) dQ, mg_ob aT 0 [.ref (qT)], mg_al K qT (4 * 6) u] → W p l e ({ frames := 2, cells := 0, slots := 0, locals := 70 }) s m args below meth c H locs 0 0 (MQ below (va_Qi (fun (r : Int32) (uu : (Nat → Nat) × (Nat → Nat)) => r = nI (su_quot (su_pick (fun w => fm_shr fa mo rk a1 a2 w) VQ (2 ^ (2 * nc))) 1000 (VT 0)) ∧ am_R 4 uu.1 uu.2) (mg_B D A (fun (uu : (Nat → Nat) × (Nat → Nat)) => [mg_ob aS 4 [.ref (h), .ref (hM), .ref (hF), .ref (qsr), .ref (aB), .ref (aE), .ref (aQ), .ref (aT)], mg_ob h 1 [.ref (qf), .ref (qm), .ref (qr), .int (nI (nf)), .int (nI (nc))], mg_ai K qf 6 fa, mg_ai K qm 6 mo, mg_ai K qr 6 rk, mg_ob aQ 0 [.ref (qQ)], mg_al K qQ (64 * 6) dQ, mg_ob aT 0 [.ref (qT)], mg_al K qT (4 * 6) uu.1])) A) args s 0 0 A) (F0 m 11 ls []) := by
    intro n0
    induction n0 using Nat.strongRecOn with
    | ind n0 ih11 =>
    intro k u hm11 hI hk ls H locs hl hw
    refine mg_iload_n X 12 d_Su_thousandthsShared_11 (lv_at hl 3 rfl) rfl ?_
    refine mg_aload_n X 13 d_Su_thousandthsShared_12 (lv_at hl 0 rfl) rfl ?_
    refine mg_get X hK hw 16 0 0 f_Su_9 rfl rfl d_Su_thousandthsShared_13 rfl ?_
    refine mg_callVi X hK hw hA 19 [1] 1 (fun _ => [mg_ob aS 4 [.ref (h), .ref (hM), .ref (hF), .ref (qsr), .ref (aB), .ref (aE), .ref (aQ), .ref (aT)], mg_ob h 1 [.ref (qf), .ref (qm), .ref (qr), .int (nI (nf)), .int (nI (nc))], mg_ai K qf 6 fa, mg_ai K qm 6 mo, mg_ai K qr 6 rk, mg_ob aQ 0 [.ref (qQ)], mg_al K qQ (64 * 6) dQ, mg_ob aT 0 [.ref (qT)], mg_al K qT (4 * 6) u]) rfl rfl (k_Fa_ways l D K h qf qm qr nf nc (by omega)) g_Su_70 ⟨by decide, by decide⟩ ⟨rfl, rfl⟩ rfl rfl rfl hl.1 (rest := [.int (nI (k))]) (As := []) rfl (Nat.le_of_ble_eq_true rfl) d_Su_thousandthsShared_16 ⟨Nat.zero_le _, Nat.zero_le _⟩ (fun _ => rfl) (fun _ => rfl) rfl ?_
    intro r _ H locs hp4 hw
    subst hp4
    refine mg_icmp_ge X 54 22 (by omega) (by omega) d_Su_thousandthsShared_19 (by decide) rfl (fun hb => ?_) (fun hb => ?_)
    · -- pc 19 t
      refine mg_aload_n X 55 d_Su_thousandthsShared_54 (lv_at hl 0 rfl) rfl ?_
      refine mg_iconst X 56 1 d_Su_thousandthsShared_55 mg_ci_1 rfl ?_
      refine mg_sipush X 59 1000 d_Su_thousandthsShared_56 mg_cs_1000 rfl ?_
      refine mg_iconst X 60 0 d_Su_thousandthsShared_59 mg_ci_0 rfl ?_
      have hk9 : k = 2 ^ (2 * nc) := by omega
      have hpl : su_pick (fun w => fm_shr fa mo rk a1 a2 w) VQ k ≤ VT 0 := by rw [← hz]; exact Nat.le_trans (su_pick_le _ _ _) (zs_mono hk)
      have hpk := Nat.le_trans hpl hz1
      refine mg_callVi X hK hw hA 63 [0, 7, 8] 0 (fun uu => [mg_ob aS 4 [.ref (h), .ref (hM), .ref (hF), .ref (qsr), .ref (aB), .ref (aE), .ref (aQ), .ref (aT)], mg_ob h 1 [.ref (qf), .ref (qm), .ref (qr), .int (nI (nf)), .int (nI (nc))], mg_ai K qf 6 fa, mg_ai K qm 6 mo, mg_ai K qr 6 rk, mg_ob aQ 0 [.ref (qQ)], mg_al K qQ (64 * 6) dQ, mg_ob aT 0 [.ref (qT)], mg_al K qT (4 * 6) uu.1]) rfl rfl (k_Su_quotient l D K aS h hM hF qsr aB aE aQ aT qT 1 1000 0 u (va_up VT 1 (su_pick (fun w => fm_shr fa mo rk a1 a2 w) VQ k)) (hI) (by omega) (by omega) (by omega) (by omega) (by rw [va_up_ne _ _ (by omega)]; exact hz1) (by rw [va_up_self]; exact su_lt (su_mul (b := 10) hpk (by decide)) (by omega)) (fun h9 => by rw [va_up_self, va_up_ne _ _ (by omega)] at *; exact su_th hpl h9)) g_Su_100 ⟨by decide, by decide⟩ ⟨rfl, rfl⟩ rfl rfl rfl hl.1 (rest := []) (As := [.int (nI (1)), .int (nI (1000)), .int (nI (0))]) rfl (Nat.le_of_ble_eq_true rfl) d_Su_thousandthsShared_60 ⟨Nat.zero_le _, Nat.zero_le _⟩ (fun _ => rfl) (fun _ => rfl) rfl ?_
      intro r u H locs hp6 hw
      obtain ⟨u5, V15⟩ := u
      dsimp only at hp6 hw
      obtain ⟨rfl, hp6⟩ := hp6
      exact mg_iret X hr hlk (rfl) ((u5, V15)) (⟨by rw [va_up_self, va_up_ne _ _ (by omega), hk9], hp6⟩) hw d_Su_thousandthsShared_63
    · -- pc 19 f
      refine mg_aload_n X 23 d_Su_thousandthsShared_22 (lv_at hl 0 rfl) rfl ?_
      refine mg_get X hK hw 26 0 0 f_Su_9 rfl rfl d_Su_thousandthsShared_23 rfl ?_
      refine mg_iload_n X 27 d_Su_thousandthsShared_26 (lv_at hl 1 rfl) rfl ?_
      refine mg_iload_n X 28 d_Su_thousandthsShared_27 (lv_at hl 2 rfl) rfl ?_
      refine mg_iload_n X 29 d_Su_thousandthsShared_28 (lv_at hl 3 rfl) rfl ?_
      refine mg_callVi X hK hw hA 32 [1, 2, 3, 4] 1 (fun _ => [mg_ob aS 4 [.ref (h), .ref (hM), .ref (hF), .ref (qsr), .ref (aB), .ref (aE), .ref (aQ), .ref (aT)], mg_ob h 1 [.ref (qf), .ref (qm), .ref (qr), .int (nI (nf)), .int (nI (nc))], mg_ai K qf 6 fa, mg_ai K qm 6 mo, mg_ai K qr 6 rk, mg_ob aQ 0 [.ref (qQ)], mg_al K qQ (64 * 6) dQ, mg_ob aT 0 [.ref (qT)], mg_al K qT (4 * 6) u]) rfl rfl (k_Fa_shareCopy l D K h qf qm qr nf nc fa mo rk a1 a2 k (hF0) (by omega) (by omega) (by omega)) g_Su_104 ⟨by decide, by decide⟩ ⟨rfl, rfl⟩ rfl rfl rfl hl.1 (rest := []) (As := [.int (nI (a1)), .int (nI (a2)), .int (nI (k))]) rfl (Nat.le_of_ble_eq_true rfl) d_Su_thousandthsShared_29 ⟨Nat.zero_le _, Nat.zero_le _⟩ (fun _ => rfl) (fun _ => rfl) rfl ?_
      intro r _ H locs hp8 hw
      subst hp8
      refine mg_bif_eq X 48 35 d_Su_thousandthsShared_32 (by decide) rfl (fun hP => ?_) (fun hP => ?_)
      · -- pc 32 t
        refine mg_iinc X 51 [(3, .int (nI (k + 1))), (0, .ref (aS)), (1, .int (nI (a1))), (2, .int (nI (a2)))] (k + 1) d_Su_thousandthsShared_48 hl (k := 3) rfl (mg_inc1 _) (by decide) rfl rfl (fun ls hl => ?_)
        refine mg_goto X 11 d_Su_thousandthsShared_51 (by decide) ?_
        have hl : lv_has ls 4 [(0, .ref (aS)), (1, .int (nI (a1))), (2, .int (nI (a2))), (3, .int (nI (k + 1)))] := lv_sub hl [1, 2, 3, 0] rfl
        exact ih11 _ (by omega) (k + 1) u rfl (by rw [su_pickn (P := fun w => fm_shr fa mo rk a1 a2 w) (n := k) (V := VQ) hP]; exact hI) (by omega) ls _ _ hl hw
      · -- pc 32 f
        refine mg_aload_n X 36 d_Su_thousandthsShared_35 (lv_at hl 0 rfl) rfl ?_
        refine mg_get X hK hw 39 0 7 f_Su_42 rfl rfl d_Su_thousandthsShared_36 rfl ?_
        refine mg_iconst X 40 1 d_Su_thousandthsShared_39 mg_ci_1 rfl ?_
        refine mg_aload_n X 41 d_Su_thousandthsShared_40 (lv_at hl 0 rfl) rfl ?_
        refine mg_get X hK hw 44 0 6 f_Su_39 rfl rfl d_Su_thousandthsShared_41 rfl ?_
        refine mg_iload_n X 45 d_Su_thousandthsShared_44 (lv_at hl 3 rfl) rfl ?_
        refine mg_callVv X hK hw hA 48 [7, 8, 5, 6] 7 (fun u9 => [mg_ob aS 4 [.ref (h), .ref (hM), .ref (hF), .ref (qsr), .ref (aB), .ref (aE), .ref (aQ), .ref (aT)], mg_ob h 1 [.ref (qf), .ref (qm), .ref (qr), .int (nI (nf)), .int (nI (nc))], mg_ai K qf 6 fa, mg_ai K qm 6 mo, mg_ai K qr 6 rk, mg_ob aQ 0 [.ref (qQ)], mg_al K qQ (64 * 6) dQ, mg_ob aT 0 [.ref (qT)], mg_al K qT (4 * 6) u9]) rfl rfl (k_Am_add l D K aT qT 4 aQ qQ 64 1 k u (va_up VT 1 (su_pick (fun w => fm_shr fa mo rk a1 a2 w) VQ k)) dQ VQ (by omega) (hI) (by omega) (hRQ) (by omega) (by omega) (by rw [va_up_self]; exact Nat.lt_of_le_of_lt (Nat.le_trans (Nat.le_of_eq (su_picky (P := fun w => fm_shr fa mo rk a1 a2 w) (n := k) (V := VQ) hP).symm) (Nat.le_trans (su_pick_le _ _ _) (zs_mono (show k + 1 ≤ 2 ^ (2 * nc) by omega)))) (by rw [hz]; exact su_lt hz1 (by omega)))) g_Su_96 ⟨by decide, by decide⟩ ⟨rfl, rfl⟩ rfl rfl rfl hl.1 (rest := []) (As := [.int (nI (1)), .ref (aQ), .int (nI (k))]) rfl (Nat.le_of_ble_eq_true rfl) d_Su_thousandthsShared_45 ⟨Nat.zero_le _, Nat.zero_le _⟩ (fun _ => rfl) (fun _ => rfl) rfl ?_
        intro u9 H locs hp10 hw
        refine mg_iinc X 51 [(3, .int (nI (k + 1))), (0, .ref (aS)), (1, .int (nI (a1))), (2, .int (nI (a2)))] (k + 1) d_Su_thousandthsShared_48 hl (k := 3) rfl (mg_inc1 _) (by decide) rfl rfl (fun ls hl => ?_)
        refine mg_goto X 11 d_Su_thousandthsShared_51 (by decide) ?_
        have hl : lv_has ls 4 [(0, .ref (aS)), (1, .int (nI (a1))), (2, .int (nI (a2))), (3, .int (nI (k + 1)))] := lv_sub hl [1, 2, 3, 0] rfl
        exact ih11 _ (by omega) (k + 1) u9 rfl (by have h9 := hp10; rw [va_up_self, bx_uu, ← su_picky (P := fun w => fm_shr fa mo rk a1 a2 w) (n := k) (V := VQ) hP] at h9; exact h9) (by omega) ls _ _ hl hw
  have hl : lv_has ls 4 [(0, .ref (aS)), (1, .int (nI (a1))), (2, .int (nI (a2))), (3, .int (nI (0)))] := lv_sub hl [1, 2, 3, 0] rfl
  exact L11 _ 0 u1 rfl (hp2) (Nat.zero_le _) ls _ _ hl hw

set_option maxRecDepth 100000 in
set_option maxHeartbeats 4000000 in
theorem k_Su_wayOfGreatest (l : Launch) (D : va_G) (K : Nat → ClassId) (aS : Nat) (h : Nat) (hM : Nat) (hF : Nat) (qsr : Nat) (aB : Nat) (aE : Nat) (aQ : Nat) (aT : Nat) (qf : Nat) (qm : Nat) (qr : Nat) (nf : Nat) (nc : Nat) (qQ : Nat) (qT : Nat) (dQ : Nat → Nat) (VQ : Nat → Nat) (dT : Nat → Nat) (VT : Nat → Nat) (hnc : nc ≤ 3) (hRQ : am_R 64 dQ VQ) (hRT : am_R 4 dT VT) : mg_Mi l D K y_Su_wayOfGreatest b_Su_wayOfGreatest 3 (.int) ({ frames := 2, cells := 0, slots := 0, locals := 40 }) [.ref (aS)] [mg_ob aS 4 [.ref (h), .ref (hM), .ref (hF), .ref (qsr), .ref (aB), .ref (aE), .ref (aQ), .ref (aT)], mg_ob h 1 [.ref (qf), .ref (qm), .ref (qr), .int (nI (nf)), .int (nI (nc))], mg_ob aQ 0 [.ref (qQ)], mg_al K qQ (64 * 6) dQ, mg_ob aT 0 [.ref (qT)], mg_al K qT (4 * 6) dT] (fun (r : Int32) (_ : Unit) => r = nI (if VT 0 = 0 then 4294967295 else su_am VQ (2 ^ (2 * nc)))) (fun (_ : Unit) => [mg_ob aS 4 [.ref (h), .ref (hM), .ref (hF), .ref (qsr), .ref (aB), .ref (aE), .ref (aQ), .ref (aT)], mg_ob h 1 [.ref (qf), .ref (qm), .ref (qr), .int (nI (nf)), .int (nI (nc))], mg_ob aQ 0 [.ref (qQ)], mg_al K qQ (64 * 6) dQ, mg_ob aT 0 [.ref (qT)], mg_al K qT (4 * 6) dT]) := by
  intro sz
  refine mg_entry (Qc := fun A => va_Qi (fun (r : Int32) (_ : Unit) => r = nI (if VT 0 = 0 then 4294967295 else su_am VQ (2 ^ (2 * nc)))) (mg_B D A (fun (_ : Unit) => [mg_ob aS 4 [.ref (h), .ref (hM), .ref (hF), .ref (qsr), .ref (aB), .ref (aE), .ref (aQ), .ref (aT)], mg_ob h 1 [.ref (qf), .ref (qm), .ref (qr), .int (nI (nf)), .int (nI (nc))], mg_ob aQ 0 [.ref (qQ)], mg_al K qQ (64 * 6) dQ, mg_ob aT 0 [.ref (qT)], mg_al K qT (4 * 6) dT])) A) (by decide) (Nat.le_of_ble_eq_true rfl) ?_
  intro p e s m args below meth c A ls X hr hlk hnm hA hK hw hl
  have hl : lv_has ls 3 [(0, .ref (aS))] := hl
  have hw6 := mg_ways hnc
  have hw1 : 1 ≤ 2 ^ (2 * nc) := Nat.pow_pos (by decide)
  refine mg_aload_n X 1 d_Su_wayOfGreatest_0 (lv_at hl 0 rfl) rfl ?_
  refine mg_get X hK hw 4 0 7 f_Su_42 rfl rfl d_Su_wayOfGreatest_1 rfl ?_
  refine mg_iconst X 5 0 d_Su_wayOfGreatest_4 mg_ci_0 rfl ?_
  refine mg_callVi X hK hw hA 8 [4, 5] 4 (fun _ => [mg_ob aS 4 [.ref (h), .ref (hM), .ref (hF), .ref (qsr), .ref (aB), .ref (aE), .ref (aQ), .ref (aT)], mg_ob h 1 [.ref (qf), .ref (qm), .ref (qr), .int (nI (nf)), .int (nI (nc))], mg_ob aQ 0 [.ref (qQ)], mg_al K qQ (64 * 6) dQ, mg_ob aT 0 [.ref (qT)], mg_al K qT (4 * 6) dT]) rfl rfl (k_Am_isZero l D K aT qT 4 0 dT VT (by omega) (hRT) (by omega)) g_Su_108 ⟨by decide, by decide⟩ ⟨rfl, rfl⟩ rfl rfl rfl hl.1 (rest := []) (As := [.int (nI (0))]) rfl (Nat.le_of_ble_eq_true rfl) d_Su_wayOfGreatest_5 ⟨Nat.zero_le _, Nat.zero_le _⟩ (fun _ => rfl) (fun _ => rfl) rfl ?_
  intro r _ H locs hp2 hw
  subst hp2
  refine mg_bif_eq X 13 11 d_Su_wayOfGreatest_8 (by decide) rfl (fun hz => ?_) (fun hz => ?_)
  · -- pc 8 t
    refine mg_iconst X 14 0 d_Su_wayOfGreatest_13 mg_ci_0 rfl ?_
    refine mg_istore_n X 15 [(1, .int (nI (0))), (0, .ref (aS))] d_Su_wayOfGreatest_14 hl (by decide) rfl rfl (fun ls hl => ?_)
    refine mg_iconst X 16 1 d_Su_wayOfGreatest_15 mg_ci_1 rfl ?_
    refine mg_istore_n X 17 [(2, .int (nI (1))), (1, .int (nI (0))), (0, .ref (aS))] d_Su_wayOfGreatest_16 hl (by decide) rfl rfl (fun ls hl => ?_)
    have L17 : ∀ (n0 : Nat) (k : Nat) (q0 : Nat), n0 = 2 ^ (2 * nc) - k → (q0 = su_am VQ k) → (k ≤ 2 ^ (2 * nc)) → (1 ≤ k) → ∀ (ls : Array Slot) (H : Heap) (locs : List Loc), lv_has ls 3 [(0, .ref (aS)), (1, .int (nI (q0))), (2, .int (nI (k)))] → mg_H D A s.heap H locs [mg_ob aS 4 [.ref (h), .ref (hM), .ref (hF), .ref (qsr), .ref (aB), .ref (aE), .ref (aQ), .ref (aT)], mg_ob h 1 [.ref (qf), .ref (qm), .ref (qr), .int (nI (nf)), .int (nI (nc))], mg_ob aQ 0 [.ref (qQ)], mg_al K qQ (64 * 6) dQ, mg_ob aT 0 [.ref (qT)], mg_al K qT (4 * 6) dT] → W p l e ({ frames := 2, cells := 0, slots := 0, locals := 40 }) s m args below meth c H locs 0 0 (MQ below (va_Qi (fun (r : Int32) (_ : Unit) => r = nI (if VT 0 = 0 then 4294967295 else su_am VQ (2 ^ (2 * nc)))) (mg_B D A (fun (_ : Unit) => [mg_ob aS 4 [.ref (h), .ref (hM), .ref (hF), .ref (qsr), .ref (aB), .ref (aE), .ref (aQ), .ref (aT)], mg_ob h 1 [.ref (qf), .ref (qm), .ref (qr), .int (nI (nf)), .int (nI (nc))], mg_ob aQ 0 [.ref (qQ)], mg_al K qQ (64 * 6) dQ, mg_ob aT 0 [.ref (qT)], mg_al K qT (4 * 6) dT])) A) args s 0 0 A) (F0 m 17 ls []) := by
      intro n0
      induction n0 using Nat.strongRecOn with
      | ind n0 ih17 =>
      intro k q0 hm17 hI hk hk1 ls H locs hl hw
      have hql : q0 < k := by rw [hI]; exact su_am_lt (by omega)
      refine mg_iload_n X 18 d_Su_wayOfGreatest_17 (lv_at hl 2 rfl) rfl ?_
      refine mg_aload_n X 19 d_Su_wayOfGreatest_18 (lv_at hl 0 rfl) rfl ?_
      refine mg_get X hK hw 22 0 0 f_Su_9 rfl rfl d_Su_wayOfGreatest_19 rfl ?_
      refine mg_callVi X hK hw hA 25 [1] 1 (fun _ => [mg_ob aS 4 [.ref (h), .ref (hM), .ref (hF), .ref (qsr), .ref (aB), .ref (aE), .ref (aQ), .ref (aT)], mg_ob h 1 [.ref (qf), .ref (qm), .ref (qr), .int (nI (nf)), .int (nI (nc))], mg_ob aQ 0 [.ref (qQ)], mg_al K qQ (64 * 6) dQ, mg_ob aT 0 [.ref (qT)], mg_al K qT (4 * 6) dT]) rfl rfl (k_Fa_ways l D K h qf qm qr nf nc (by omega)) g_Su_70 ⟨by decide, by decide⟩ ⟨rfl, rfl⟩ rfl rfl rfl hl.1 (rest := [.int (nI (k))]) (As := []) rfl (Nat.le_of_ble_eq_true rfl) d_Su_wayOfGreatest_22 ⟨Nat.zero_le _, Nat.zero_le _⟩ (fun _ => rfl) (fun _ => rfl) rfl ?_
      intro r _ H locs hp4 hw
      subst hp4
      refine mg_icmp_ge X 48 28 (by omega) (by omega) d_Su_wayOfGreatest_25 (by decide) rfl (fun hb => ?_) (fun hb => ?_)
      · -- pc 25 t
        refine mg_iload_n X 49 d_Su_wayOfGreatest_48 (lv_at hl 1 rfl) rfl ?_
        exact mg_iret X hr hlk (rfl) (()) (by rw [if_neg hz, hI, show k = 2 ^ (2 * nc) by omega]) hw d_Su_wayOfGreatest_49
      · -- pc 25 f
        refine mg_aload_n X 29 d_Su_wayOfGreatest_28 (lv_at hl 0 rfl) rfl ?_
        refine mg_get X hK hw 32 0 6 f_Su_39 rfl rfl d_Su_wayOfGreatest_29 rfl ?_
        refine mg_iload_n X 33 d_Su_wayOfGreatest_32 (lv_at hl 2 rfl) rfl ?_
        refine mg_iload_n X 34 d_Su_wayOfGreatest_33 (lv_at hl 1 rfl) rfl ?_
        refine mg_callVi X hK hw hA 37 [2, 3] 2 (fun _ => [mg_ob aS 4 [.ref (h), .ref (hM), .ref (hF), .ref (qsr), .ref (aB), .ref (aE), .ref (aQ), .ref (aT)], mg_ob h 1 [.ref (qf), .ref (qm), .ref (qr), .int (nI (nf)), .int (nI (nc))], mg_ob aQ 0 [.ref (qQ)], mg_al K qQ (64 * 6) dQ, mg_ob aT 0 [.ref (qT)], mg_al K qT (4 * 6) dT]) rfl rfl (k_Am_compare l D K aQ qQ 64 k q0 dQ VQ (by omega) (hRQ) (by omega) (by omega)) g_Su_86 ⟨by decide, by decide⟩ ⟨rfl, rfl⟩ rfl rfl rfl hl.1 (rest := []) (As := [.int (nI (k)), .int (nI (q0))]) rfl (Nat.le_of_ble_eq_true rfl) d_Su_wayOfGreatest_34 ⟨Nat.zero_le _, Nat.zero_le _⟩ (fun _ => rfl) (fun _ => rfl) rfl ?_
        intro r _ H locs hp6 hw
        subst hp6
        refine mg_cif_le X 42 40 d_Su_wayOfGreatest_37 (by decide) rfl (fun hc => ?_) (fun hc => ?_)
        · -- pc 37 t
          refine mg_iinc X 45 [(2, .int (nI (k + 1))), (0, .ref (aS)), (1, .int (nI (q0)))] (k + 1) d_Su_wayOfGreatest_42 hl (k := 2) rfl (mg_inc1 _) (by decide) rfl rfl (fun ls hl => ?_)
          refine mg_goto X 17 d_Su_wayOfGreatest_45 (by decide) ?_
          have hl : lv_has ls 3 [(0, .ref (aS)), (1, .int (nI (q0))), (2, .int (nI (k + 1)))] := lv_sub hl [1, 2, 0] rfl
          exact ih17 _ (by omega) (k + 1) q0 rfl (by rw [hI]; exact (su_amn (by rw [← hI]; exact hc)).symm) (by omega) (by omega) ls _ _ hl hw
        · -- pc 37 f
          refine mg_iload_n X 41 d_Su_wayOfGreatest_40 (lv_at hl 2 rfl) rfl ?_
          refine mg_istore_n X 42 [(1, .int (nI (k))), (0, .ref (aS)), (2, .int (nI (k)))] d_Su_wayOfGreatest_41 hl (by decide) rfl rfl (fun ls hl => ?_)
          refine mg_iinc X 45 [(2, .int (nI (k + 1))), (1, .int (nI (k))), (0, .ref (aS))] (k + 1) d_Su_wayOfGreatest_42 hl (k := 2) rfl (mg_inc1 _) (by decide) rfl rfl (fun ls hl => ?_)
          refine mg_goto X 17 d_Su_wayOfGreatest_45 (by decide) ?_
          have hl : lv_has ls 3 [(0, .ref (aS)), (1, .int (nI (k))), (2, .int (nI (k + 1)))] := lv_sub hl [2, 1, 0] rfl
          exact ih17 _ (by omega) (k + 1) k rfl ((su_amy (by rw [← hI]; exact hc)).symm) (by omega) (by omega) ls _ _ hl hw
    have hl : lv_has ls 3 [(0, .ref (aS)), (1, .int (nI (0))), (2, .int (nI (1)))] := lv_sub hl [2, 1, 0] rfl
    exact L17 _ 1 0 rfl ((su_am1 VQ).symm) (hw1) (by omega) ls _ _ hl hw
  · -- pc 8 f
    refine mg_iconst X 12 4294967295 d_Su_wayOfGreatest_11 mg_ci_m1 rfl ?_
    exact mg_iret X hr hlk (rfl) (()) (by rw [if_pos hz]) hw d_Su_wayOfGreatest_12

set_option maxRecDepth 100000 in
set_option maxHeartbeats 4000000 in
theorem k_Su_rateOfGreatest (l : Launch) (D : va_G) (K : Nat → ClassId) (aS : Nat) (h : Nat) (hM : Nat) (hF : Nat) (qsr : Nat) (aB : Nat) (aE : Nat) (aQ : Nat) (aT : Nat) (qf : Nat) (qm : Nat) (qr : Nat) (nf : Nat) (nc : Nat) (qtb : Nat) (ql : Nat) (qw : Nat) (qra : Nat) (qo : Nat) (qt : Nat) (nm : Nat) (sg : Nat) (qB : Nat) (qT : Nat) (g : Nat) (tb : Nat → Nat) (sr : Nat → Nat) (dB : Nat → Nat) (VB : Nat → Nat) (dT : Nat → Nat) (VT : Nat → Nat) (hnc : nc ≤ 3) (hm4 : nm ≤ 4) (hsr : ∀ i, i + 1 < nm → sr i ≤ 16) (hTb : ∀ i w, i < nm → w < 2 ^ (2 * nc) → su_F tb i w ≤ 2 ^ 18) (hRB : am_R 64 dB VB) (hRT : am_R 4 dT VT) (hg : g + 1 < nm) : mg_Mi l D K y_Su_rateOfGreatest b_Su_rateOfGreatest 4 (.int) ({ frames := 6, cells := 0, slots := 0, locals := 150 }) [.ref (aS), .int (nI (g))] [mg_ob aS 4 [.ref (h), .ref (hM), .ref (hF), .ref (qsr), .ref (aB), .ref (aE), .ref (aQ), .ref (aT)], mg_ob h 1 [.ref (qf), .ref (qm), .ref (qr), .int (nI (nf)), .int (nI (nc))], mg_ob hM 2 [.ref (qw), .ref (qra), .ref (qo), .ref (qt), .int (nI (nm)), .int (nI (sg))], mg_ob hF 3 [.ref (h), .ref (hM), .ref (qtb), .ref (ql)], mg_ai K qtb 256 tb, mg_ai K qsr 3 sr, mg_ob aB 0 [.ref (qB)], mg_al K qB (64 * 6) dB, mg_ob aT 0 [.ref (qT)], mg_al K qT (4 * 6) dT] (fun (r : Int32) (uu : (Nat → Nat) × (Nat → Nat) × (Nat → Nat) × (Nat → Nat)) => r = nI (su_am (su_Jk (2 * nc) sr (su_F tb) (nm - 1) g) 9) ∧ am_R 64 uu.1 uu.2.1 ∧ am_R 4 uu.2.2.1 uu.2.2.2) (fun (uu : (Nat → Nat) × (Nat → Nat) × (Nat → Nat) × (Nat → Nat)) => [mg_ob aS 4 [.ref (h), .ref (hM), .ref (hF), .ref (qsr), .ref (aB), .ref (aE), .ref (aQ), .ref (aT)], mg_ob h 1 [.ref (qf), .ref (qm), .ref (qr), .int (nI (nf)), .int (nI (nc))], mg_ob hM 2 [.ref (qw), .ref (qra), .ref (qo), .ref (qt), .int (nI (nm)), .int (nI (sg))], mg_ob hF 3 [.ref (h), .ref (hM), .ref (qtb), .ref (ql)], mg_ai K qtb 256 tb, mg_ai K qsr 3 (va_up sr g 8), mg_ob aB 0 [.ref (qB)], mg_al K qB (64 * 6) uu.1, mg_ob aT 0 [.ref (qT)], mg_al K qT (4 * 6) uu.2.2.1]) := by
  intro sz
  refine mg_entry (Qc := fun A => va_Qi (fun (r : Int32) (uu : (Nat → Nat) × (Nat → Nat) × (Nat → Nat) × (Nat → Nat)) => r = nI (su_am (su_Jk (2 * nc) sr (su_F tb) (nm - 1) g) 9) ∧ am_R 64 uu.1 uu.2.1 ∧ am_R 4 uu.2.2.1 uu.2.2.2) (mg_B D A (fun (uu : (Nat → Nat) × (Nat → Nat) × (Nat → Nat) × (Nat → Nat)) => [mg_ob aS 4 [.ref (h), .ref (hM), .ref (hF), .ref (qsr), .ref (aB), .ref (aE), .ref (aQ), .ref (aT)], mg_ob h 1 [.ref (qf), .ref (qm), .ref (qr), .int (nI (nf)), .int (nI (nc))], mg_ob hM 2 [.ref (qw), .ref (qra), .ref (qo), .ref (qt), .int (nI (nm)), .int (nI (sg))], mg_ob hF 3 [.ref (h), .ref (hM), .ref (qtb), .ref (ql)], mg_ai K qtb 256 tb, mg_ai K qsr 3 (va_up sr g 8), mg_ob aB 0 [.ref (qB)], mg_al K qB (64 * 6) uu.1, mg_ob aT 0 [.ref (qT)], mg_al K qT (4 * 6) uu.2.2.1])) A) (by decide) (Nat.le_of_ble_eq_true rfl) ?_
  intro p e s m args below meth c A ls X hr hlk hnm hA hK hw hl
  have hl : lv_has ls 4 [(0, .ref (aS)), (1, .int (nI (g)))] := hl
  have hw6 := mg_ways hnc
  refine mg_iconst X 1 0 d_Su_rateOfGreatest_0 mg_ci_0 rfl ?_
  refine mg_istore_n X 2 [(2, .int (nI (0))), (0, .ref (aS)), (1, .int (nI (g)))] d_Su_rateOfGreatest_1 hl (by decide) rfl rfl (fun ls hl => ?_)
  refine mg_aload_n X 3 d_Su_rateOfGreatest_2 (lv_at hl 1 rfl) rfl ?_
  refine mg_iload_n X 4 d_Su_rateOfGreatest_3 (lv_at hl 2 rfl) rfl ?_
  refine mg_iconst X 5 0 d_Su_rateOfGreatest_4 mg_ci_0 rfl ?_
  refine mg_callVv X hK hw hA 8 [0, 5] 0 (fun _ => [mg_ob aS 4 [.ref (h), .ref (hM), .ref (hF), .ref (qsr), .ref (aB), .ref (aE), .ref (aQ), .ref (aT)], mg_ob h 1 [.ref (qf), .ref (qm), .ref (qr), .int (nI (nf)), .int (nI (nc))], mg_ob hM 2 [.ref (qw), .ref (qra), .ref (qo), .ref (qt), .int (nI (nm)), .int (nI (sg))], mg_ob hF 3 [.ref (h), .ref (hM), .ref (qtb), .ref (ql)], mg_ai K qtb 256 tb, mg_ai K qsr 3 (va_up sr g 0), mg_ob aB 0 [.ref (qB)], mg_al K qB (64 * 6) dB, mg_ob aT 0 [.ref (qT)], mg_al K qT (4 * 6) dT]) rfl rfl (k_Su_changeRate l D K aS h hM hF qsr aB aE aQ aT g 0 sr (by omega)) g_Su_79 ⟨by decide, by decide⟩ ⟨rfl, rfl⟩ rfl rfl rfl hl.1 (rest := []) (As := [.int (nI (g)), .int (nI (0))]) rfl (Nat.le_of_ble_eq_true rfl) d_Su_rateOfGreatest_5 ⟨Nat.zero_le _, Nat.zero_le _⟩ (fun _ => rfl) (fun _ => rfl) rfl ?_
  intro _ H locs hp2 hw
  refine mg_aload_n X 9 d_Su_rateOfGreatest_8 (lv_at hl 1 rfl) rfl ?_
  refine mg_iconst X 10 2 d_Su_rateOfGreatest_9 mg_ci_2 rfl ?_
  refine mg_callVv X hK hw hA 13 [0, 1, 2, 3, 4, 5, 6, 7, 8, 9] 0 (fun uu => [mg_ob aS 4 [.ref (h), .ref (hM), .ref (hF), .ref (qsr), .ref (aB), .ref (aE), .ref (aQ), .ref (aT)], mg_ob h 1 [.ref (qf), .ref (qm), .ref (qr), .int (nI (nf)), .int (nI (nc))], mg_ob hM 2 [.ref (qw), .ref (qra), .ref (qo), .ref (qt), .int (nI (nm)), .int (nI (sg))], mg_ob hF 3 [.ref (h), .ref (hM), .ref (qtb), .ref (ql)], mg_ai K qtb 256 tb, mg_ai K qsr 3 (va_up sr g 0), mg_ob aB 0 [.ref (qB)], mg_al K qB (64 * 6) uu.1, mg_ob aT 0 [.ref (qT)], mg_al K qT (4 * 6) uu.2.2]) rfl rfl (k_Su_sumTo l D K aS h hM hF qsr aB aE aQ aT qf qm qr nf nc qtb ql qw qra qo qt nm sg qB qT 2 tb (va_up sr g 0) dB VB dT VT (by omega) (by omega) (su_up16 hsr (by omega)) (by omega) (hRB) (hRT) (by omega) (by omega)) g_Su_83 ⟨by decide, by decide⟩ ⟨rfl, rfl⟩ rfl rfl rfl hl.1 (rest := []) (As := [.int (nI (2))]) rfl (Nat.le_of_ble_eq_true rfl) d_Su_rateOfGreatest_10 ⟨Nat.zero_le _, Nat.zero_le _⟩ (fun _ => rfl) (fun _ => rfl) rfl ?_
  intro u H locs hp4 hw
  obtain ⟨u3, V13, uT3⟩ := u
  dsimp only at hp4 hw
  refine mg_iconst X 14 1 d_Su_rateOfGreatest_13 mg_ci_1 rfl ?_
  refine mg_istore_n X 15 [(3, .int (nI (1))), (2, .int (nI (0))), (0, .ref (aS)), (1, .int (nI (g)))] d_Su_rateOfGreatest_14 hl (by decide) rfl rfl (fun ls hl => ?_)
  have L15 : ∀ (n0 : Nat) (k : Nat) (q0 : Nat) (u : Nat → Nat) (V : Nat → Nat) (uT : Nat → Nat) (VU : Nat → Nat), n0 = 9 - k → (am_R 64 u V) → (am_R 4 uT VU) → (1 ≤ k) → (k ≤ 9) → (q0 = su_am (su_Jk (2 * nc) sr (su_F tb) (nm - 1) g) k) → (VU 2 = su_Jk (2 * nc) sr (su_F tb) (nm - 1) g q0) → ∀ (ls : Array Slot) (H : Heap) (locs : List Loc), lv_has ls 4 [(0, .ref (aS)), (1, .int (nI (g))), (2, .int (nI (q0))), (3, .int (nI (k)))] → mg_H D A s.heap H locs [mg_ob aS 4 [.ref (h), .ref (hM), .ref (hF), .ref (qsr), .ref (aB), .ref (aE), .ref (aQ), .ref (aT)], mg_ob h 1 [.ref (qf), .ref (qm), .ref (qr), .int (nI (nf)), .int (nI (nc))], mg_ob hM 2 [.ref (qw), .ref (qra), .ref (qo), .ref (qt), .int (nI (nm)), .int (nI (sg))], mg_ob hF 3 [.ref (h), .ref (hM), .ref (qtb), .ref (ql)], mg_ai K qtb 256 tb, mg_ai K qsr 3 (va_up sr g (k - 1)), mg_ob aB 0 [.ref (qB)], mg_al K qB (64 * 6) u, mg_ob aT 0 [.ref (qT)], mg_al K qT (4 * 6) uT] → W p l e ({ frames := 6, cells := 0, slots := 0, locals := 150 }) s m args below meth c H locs 0 0 (MQ below (va_Qi (fun (r : Int32) (uu : (Nat → Nat) × (Nat → Nat) × (Nat → Nat) × (Nat → Nat)) => r = nI (su_am (su_Jk (2 * nc) sr (su_F tb) (nm - 1) g) 9) ∧ am_R 64 uu.1 uu.2.1 ∧ am_R 4 uu.2.2.1 uu.2.2.2) (mg_B D A (fun (uu : (Nat → Nat) × (Nat → Nat) × (Nat → Nat) × (Nat → Nat)) => [mg_ob aS 4 [.ref (h), .ref (hM), .ref (hF), .ref (qsr), .ref (aB), .ref (aE), .ref (aQ), .ref (aT)], mg_ob h 1 [.ref (qf), .ref (qm), .ref (qr), .int (nI (nf)), .int (nI (nc))], mg_ob hM 2 [.ref (qw), .ref (qra), .ref (qo), .ref (qt), .int (nI (nm)), .int (nI (sg))], mg_ob hF 3 [.ref (h), .ref (hM), .ref (qtb), .ref (ql)], mg_ai K qtb 256 tb, mg_ai K qsr 3 (va_up sr g 8), mg_ob aB 0 [.ref (qB)], mg_al K qB (64 * 6) uu.1, mg_ob aT 0 [.ref (qT)], mg_al K qT (4 * 6) uu.2.2.1])) A) args s 0 0 A) (F0 m 15 ls []) := by
    intro n0
    induction n0 using Nat.strongRecOn with
    | ind n0 ih15 =>
    intro k q0 u V uT VU hm15 hI hIT hk1 hk9 hq0 hV2 ls H locs hl hw
    refine mg_iload_n X 16 d_Su_rateOfGreatest_15 (lv_at hl 3 rfl) rfl ?_
    refine mg_bipush X 18 8 d_Su_rateOfGreatest_16 mg_cb_8 rfl ?_
    refine mg_icmp_gt X 61 21 (by omega) (by omega) d_Su_rateOfGreatest_18 (by decide) rfl (fun hb => ?_) (fun hb => ?_)
    · -- pc 18 t
      refine mg_iload_n X 62 d_Su_rateOfGreatest_61 (lv_at hl 2 rfl) rfl ?_
      obtain rfl : k = 9 := by omega
      exact mg_iret X hr hlk (rfl) ((u, V, uT, VU)) (⟨by rw [hq0], hI, hIT⟩) hw d_Su_rateOfGreatest_62
    · -- pc 18 f
      refine mg_aload_n X 22 d_Su_rateOfGreatest_21 (lv_at hl 0 rfl) rfl ?_
      refine mg_iload_n X 23 d_Su_rateOfGreatest_22 (lv_at hl 1 rfl) rfl ?_
      refine mg_iload_n X 24 d_Su_rateOfGreatest_23 (lv_at hl 3 rfl) rfl ?_
      refine mg_callVv X hK hw hA 27 [0, 5] 0 (fun _ => [mg_ob aS 4 [.ref (h), .ref (hM), .ref (hF), .ref (qsr), .ref (aB), .ref (aE), .ref (aQ), .ref (aT)], mg_ob h 1 [.ref (qf), .ref (qm), .ref (qr), .int (nI (nf)), .int (nI (nc))], mg_ob hM 2 [.ref (qw), .ref (qra), .ref (qo), .ref (qt), .int (nI (nm)), .int (nI (sg))], mg_ob hF 3 [.ref (h), .ref (hM), .ref (qtb), .ref (ql)], mg_ai K qtb 256 tb, mg_ai K qsr 3 (va_up (va_up sr g (k - 1)) g k), mg_ob aB 0 [.ref (qB)], mg_al K qB (64 * 6) u, mg_ob aT 0 [.ref (qT)], mg_al K qT (4 * 6) uT]) rfl rfl (k_Su_changeRate l D K aS h hM hF qsr aB aE aQ aT g k (va_up sr g (k - 1)) (by omega)) g_Su_79 ⟨by decide, by decide⟩ ⟨rfl, rfl⟩ rfl rfl rfl hl.1 (rest := []) (As := [.int (nI (g)), .int (nI (k))]) rfl (Nat.le_of_ble_eq_true rfl) d_Su_rateOfGreatest_24 ⟨Nat.zero_le _, Nat.zero_le _⟩ (fun _ => rfl) (fun _ => rfl) rfl ?_
      intro _ H locs hp6 hw
      rw [bx_uu] at hw
      refine mg_aload_n X 28 d_Su_rateOfGreatest_27 (lv_at hl 0 rfl) rfl ?_
      refine mg_iconst X 29 1 d_Su_rateOfGreatest_28 mg_ci_1 rfl ?_
      refine mg_callVv X hK hw hA 32 [0, 1, 2, 3, 4, 5, 6, 7, 8, 9] 0 (fun uu => [mg_ob aS 4 [.ref (h), .ref (hM), .ref (hF), .ref (qsr), .ref (aB), .ref (aE), .ref (aQ), .ref (aT)], mg_ob h 1 [.ref (qf), .ref (qm), .ref (qr), .int (nI (nf)), .int (nI (nc))], mg_ob hM 2 [.ref (qw), .ref (qra), .ref (qo), .ref (qt), .int (nI (nm)), .int (nI (sg))], mg_ob hF 3 [.ref (h), .ref (hM), .ref (qtb), .ref (ql)], mg_ai K qtb 256 tb, mg_ai K qsr 3 (va_up sr g k), mg_ob aB 0 [.ref (qB)], mg_al K qB (64 * 6) uu.1, mg_ob aT 0 [.ref (qT)], mg_al K qT (4 * 6) uu.2.2]) rfl rfl (k_Su_sumTo l D K aS h hM hF qsr aB aE aQ aT qf qm qr nf nc qtb ql qw qra qo qt nm sg qB qT 1 tb (va_up sr g k) u V uT VU (by omega) (by omega) (su_up16 hsr (by omega)) (by omega) (hI) (hIT) (by omega) (by omega)) g_Su_83 ⟨by decide, by decide⟩ ⟨rfl, rfl⟩ rfl rfl rfl hl.1 (rest := []) (As := [.int (nI (1))]) rfl (Nat.le_of_ble_eq_true rfl) d_Su_rateOfGreatest_29 ⟨Nat.zero_le _, Nat.zero_le _⟩ (fun _ => rfl) (fun _ => rfl) rfl ?_
      intro u H locs hp8 hw
      obtain ⟨u7, V17, uT7⟩ := u
      dsimp only at hp8 hw
      refine mg_aload_n X 33 d_Su_rateOfGreatest_32 (lv_at hl 0 rfl) rfl ?_
      refine mg_get X hK hw 36 0 7 f_Su_42 rfl rfl d_Su_rateOfGreatest_33 rfl ?_
      refine mg_iconst X 37 1 d_Su_rateOfGreatest_36 mg_ci_1 rfl ?_
      refine mg_iconst X 38 2 d_Su_rateOfGreatest_37 mg_ci_2 rfl ?_
      refine mg_callVi X hK hw hA 41 [8, 9] 8 (fun _ => [mg_ob aS 4 [.ref (h), .ref (hM), .ref (hF), .ref (qsr), .ref (aB), .ref (aE), .ref (aQ), .ref (aT)], mg_ob h 1 [.ref (qf), .ref (qm), .ref (qr), .int (nI (nf)), .int (nI (nc))], mg_ob hM 2 [.ref (qw), .ref (qra), .ref (qo), .ref (qt), .int (nI (nm)), .int (nI (sg))], mg_ob hF 3 [.ref (h), .ref (hM), .ref (qtb), .ref (ql)], mg_ai K qtb 256 tb, mg_ai K qsr 3 (va_up sr g k), mg_ob aB 0 [.ref (qB)], mg_al K qB (64 * 6) u7, mg_ob aT 0 [.ref (qT)], mg_al K qT (4 * 6) uT7]) rfl rfl (k_Am_compare l D K aT qT 4 1 2 uT7 (va_up VU 1 (jn_J (2 * nc) (va_up sr g k) (su_F tb) (nm - 1))) (by omega) (hp8.2) (by omega) (by omega)) g_Su_86 ⟨by decide, by decide⟩ ⟨rfl, rfl⟩ rfl rfl rfl hl.1 (rest := []) (As := [.int (nI (1)), .int (nI (2))]) rfl (Nat.le_of_ble_eq_true rfl) d_Su_rateOfGreatest_38 ⟨Nat.zero_le _, Nat.zero_le _⟩ (fun _ => rfl) (fun _ => rfl) rfl ?_
      intro r _ H locs hp10 hw
      subst hp10
      refine mg_cif_le X 55 44 d_Su_rateOfGreatest_41 (by decide) rfl (fun hc => ?_) (fun hc => ?_)
      · -- pc 41 t
        have hc9 : su_Jk (2 * nc) sr (su_F tb) (nm - 1) g k ≤ su_Jk (2 * nc) sr (su_F tb) (nm - 1) g q0 := by rw [va_up_self, va_up_ne _ _ (by omega), hV2] at hc; exact hc
        refine mg_iinc X 58 [(3, .int (nI (k + 1))), (0, .ref (aS)), (1, .int (nI (g))), (2, .int (nI (q0)))] (k + 1) d_Su_rateOfGreatest_55 hl (k := 3) rfl (mg_inc1 _) (by decide) rfl rfl (fun ls hl => ?_)
        refine mg_goto X 15 d_Su_rateOfGreatest_58 (by decide) ?_
        have hl : lv_has ls 4 [(0, .ref (aS)), (1, .int (nI (g))), (2, .int (nI (q0))), (3, .int (nI (k + 1)))] := lv_sub hl [1, 2, 3, 0] rfl
        exact ih15 _ (by omega) (k + 1) q0 u7 V17 uT7 (va_up VU 1 (jn_J (2 * nc) (va_up sr g k) (su_F tb) (nm - 1))) rfl (hp8.1) (hp8.2) (by omega) (by omega) (by rw [hq0]; exact (su_amn (by rw [← hq0]; exact hc9)).symm) (by rw [va_up_ne _ _ (by omega)]; exact hV2) ls _ _ hl hw
      · -- pc 41 f
        have hc9 : su_Jk (2 * nc) sr (su_F tb) (nm - 1) g q0 < su_Jk (2 * nc) sr (su_F tb) (nm - 1) g k := by rw [va_up_self, va_up_ne _ _ (by omega), hV2] at hc; exact hc
        refine mg_aload_n X 45 d_Su_rateOfGreatest_44 (lv_at hl 0 rfl) rfl ?_
        refine mg_get X hK hw 48 0 7 f_Su_42 rfl rfl d_Su_rateOfGreatest_45 rfl ?_
        refine mg_iconst X 49 2 d_Su_rateOfGreatest_48 mg_ci_2 rfl ?_
        refine mg_iconst X 50 1 d_Su_rateOfGreatest_49 mg_ci_1 rfl ?_
        refine mg_callVv X hK hw hA 53 [8, 9] 8 (fun u11 => [mg_ob aS 4 [.ref (h), .ref (hM), .ref (hF), .ref (qsr), .ref (aB), .ref (aE), .ref (aQ), .ref (aT)], mg_ob h 1 [.ref (qf), .ref (qm), .ref (qr), .int (nI (nf)), .int (nI (nc))], mg_ob hM 2 [.ref (qw), .ref (qra), .ref (qo), .ref (qt), .int (nI (nm)), .int (nI (sg))], mg_ob hF 3 [.ref (h), .ref (hM), .ref (qtb), .ref (ql)], mg_ai K qtb 256 tb, mg_ai K qsr 3 (va_up sr g k), mg_ob aB 0 [.ref (qB)], mg_al K qB (64 * 6) u7, mg_ob aT 0 [.ref (qT)], mg_al K qT (4 * 6) u11]) rfl rfl (k_Am_copy l D K aT qT 4 2 1 uT7 (va_up VU 1 (jn_J (2 * nc) (va_up sr g k) (su_F tb) (nm - 1))) (by omega) (hp8.2) (by omega) (by omega)) g_Su_90 ⟨by decide, by decide⟩ ⟨rfl, rfl⟩ rfl rfl rfl hl.1 (rest := []) (As := [.int (nI (2)), .int (nI (1))]) rfl (Nat.le_of_ble_eq_true rfl) d_Su_rateOfGreatest_50 ⟨Nat.zero_le _, Nat.zero_le _⟩ (fun _ => rfl) (fun _ => rfl) rfl ?_
        intro u11 H locs hp12 hw
        refine mg_iload_n X 54 d_Su_rateOfGreatest_53 (lv_at hl 3 rfl) rfl ?_
        refine mg_istore_n X 55 [(2, .int (nI (k))), (0, .ref (aS)), (1, .int (nI (g))), (3, .int (nI (k)))] d_Su_rateOfGreatest_54 hl (by decide) rfl rfl (fun ls hl => ?_)
        refine mg_iinc X 58 [(3, .int (nI (k + 1))), (2, .int (nI (k))), (0, .ref (aS)), (1, .int (nI (g)))] (k + 1) d_Su_rateOfGreatest_55 hl (k := 3) rfl (mg_inc1 _) (by decide) rfl rfl (fun ls hl => ?_)
        refine mg_goto X 15 d_Su_rateOfGreatest_58 (by decide) ?_
        have hl : lv_has ls 4 [(0, .ref (aS)), (1, .int (nI (g))), (2, .int (nI (k))), (3, .int (nI (k + 1)))] := lv_sub hl [2, 3, 1, 0] rfl
        exact ih15 _ (by omega) (k + 1) k u7 V17 u11 (va_up (va_up VU 1 (jn_J (2 * nc) (va_up sr g k) (su_F tb) (nm - 1))) 2 ((va_up VU 1 (jn_J (2 * nc) (va_up sr g k) (su_F tb) (nm - 1))) 1)) rfl (hp8.1) (hp12) (by omega) (by omega) ((su_amy (by rw [← hq0]; exact hc9)).symm) (by rw [va_up_self, va_up_self]; rfl) ls _ _ hl hw
  have hl : lv_has ls 4 [(0, .ref (aS)), (1, .int (nI (g))), (2, .int (nI (0))), (3, .int (nI (1)))] := lv_sub hl [2, 3, 1, 0] rfl
  exact L15 _ 1 0 u3 V13 uT3 (va_up VT 2 (jn_J (2 * nc) (va_up sr g 0) (su_F tb) (nm - 1))) rfl (hp4.1) (hp4.2) (by omega) (by omega) ((su_am1 _).symm) (by rw [va_up_self]; rfl) ls _ _ hl hw
end
section
/-! Rows of numbers of eight places in base 2^28 (the reference's). -/
def li_ok (N : Nat) (d : Nat → Nat) : Prop := ∀ k, k < N → d k < 268435456
def li_R (N : Nat) (d V : Nat → Nat) : Prop := li_ok N d ∧ ∀ j, 8 * j + 8 ≤ N → nb_val 268435456 d (8 * j) 8 = V j
def li_W (N a k : Nat) (d u : Nat → Nat) : Prop := li_ok N u ∧ ∀ j, j < N → j < a ∨ a + k ≤ j → u j = d j
theorem li_W0 {N a : Nat} {d : Nat → Nat} (h : li_ok N d) : li_W N a 0 d d := ⟨h, fun _ _ _ => rfl⟩
theorem li_up {N i x : Nat} {u : Nat → Nat} (h : li_ok N u) (hx : x < 268435456) : li_ok N (va_up u i x) := fun j hj => by
  by_cases e : j = i
  · rw [e, va_up_self]; exact hx
  · rw [va_up_ne _ _ e]; exact h j hj
theorem li_WS {N a k x : Nat} {d u : Nat → Nat} (h : li_W N a k d u) (hx : x < 268435456) : li_W N a (k + 1) d (va_up u (a + k) x) := by
  refine ⟨li_up h.1 hx, fun j hj hc => ?_⟩
  rw [va_up_ne _ _ (by omega)]
  exact h.2 j hj (by omega)
theorem li_Wat {N a k : Nat} {d u : Nat → Nat} (h : li_W N a k d u) (hk : a + k < N) : u (a + k) = d (a + k) := h.2 _ hk (Or.inr (Nat.le_refl _))
theorem li_WF {N a i x : Nat} {d u V : Nat → Nat} (h : li_W N a 8 d u) (hR : li_R N d V) (ha : a = 8 * i) (hx : nb_val 268435456 u a 8 = x) : li_R N u (va_up V i x) := by
  subst ha
  refine ⟨h.1, fun j hj => ?_⟩
  by_cases e : j = i
  · subst e; rw [va_up_self]; exact hx
  · rw [va_up_ne _ _ e, ← hR.2 j hj]
    exact nb_congr (fun q hq => h.2 _ (by omega) (by omega))
/-- clear -/
def li_clI (N a k : Nat) (d u : Nat → Nat) : Prop := li_W N a k d u ∧ ∀ j, j < k → u (a + j) = 0
theorem li_cl0 {N a : Nat} {d : Nat → Nat} (h : li_ok N d) : li_clI N a 0 d d := ⟨li_W0 h, fun j hj => by omega⟩
theorem li_clS {N a k : Nat} {d u : Nat → Nat} (h : li_clI N a k d u) : li_clI N a (k + 1) d (va_up u (a + k) 0) := by
  refine ⟨li_WS h.1 (by omega), fun j hj => ?_⟩
  by_cases e : j = k
  · subst e; rw [va_up_self]
  · rw [va_up_ne _ _ (by omega)]; exact h.2 j (by omega)
theorem li_clF {N a i : Nat} {d u V : Nat → Nat} (h : li_clI N a 8 d u) (hR : li_R N d V) (ha : a = 8 * i) : li_R N u (va_up V i 0) := li_WF h.1 hR ha (nb_zero h.2)
/-- one number put at a row's start, the row being 0 -/
theorem li_one {N a i x : Nat} {d V : Nat → Nat} (hR : li_R N d (va_up V i 0)) (ha : a = 8 * i) (hn : 8 * i + 8 ≤ N) (hx : x < 268435456) : li_R N (va_up d a x) (va_up V i x) := by
  subst ha
  have h0 : nb_val 268435456 d (8 * i) 8 = 0 := by rw [hR.2 i hn, va_up_self]
  have hz := nb_is0 (by decide) h0
  refine ⟨li_up hR.1 hx, fun j hj => ?_⟩
  by_cases e : j = i
  · subst e
    rw [va_up_self]
    show nb_val _ _ _ (7 + 1) = x
    have h7 : ∀ k, k ≤ 7 → nb_val 268435456 (va_up d (8 * j) x) (8 * j) (k + 1) = x := by
      intro k
      induction k with
      | zero => intro _; rw [nb_s, nb_0, Nat.add_zero, va_up_self]; omega
      | succ k ih => intro hk; rw [nb_s, ih (by omega), va_up_ne _ _ (by omega), hz (k + 1) (by omega), Nat.zero_mul, Nat.add_zero]
    exact h7 7 (Nat.le_refl _)
  · rw [va_up_ne _ _ e]
    have h3 := hR.2 j hj
    rw [va_up_ne _ _ e] at h3
    rw [← h3]
    exact nb_up_out (by omega)
/-- addTimes -/
def li_adI (N a f n k cy : Nat) (d u d2 : Nat → Nat) : Prop := li_W N a k d u ∧ nb_val 268435456 u a k + cy * 268435456 ^ k = nb_val 268435456 d a k + nb_val 268435456 d2 f k * n ∧ cy ≤ n
theorem li_ad0 {N a f n : Nat} {d d2 : Nat → Nat} (h : li_ok N d) : li_adI N a f n 0 0 d d d2 := ⟨li_W0 h, by rw [nb_0, nb_0]; omega, by omega⟩
theorem li_ad_lt {x y cy n : Nat} (hx : x < 268435456) (hy : y < 268435456) (hc : cy ≤ n) (hn : n < 4294967296) : cy + x + y * n < 2 ^ 63 := by
  have h1 : y * n ≤ 268435455 * n := Nat.mul_le_mul_right _ (by omega)
  omega
theorem li_adS {N N2 a f n k cy : Nat} {d u d2 : Nat → Nat} (h : li_adI N a f n k cy d u d2) (h2 : li_ok N2 d2) (ha : a + k < N) (hf : f + k < N2) {y : Nat} (hy : y = d2 (f + k)) :
    li_adI N a f n (k + 1) ((cy + u (a + k) + y * n) / 268435456) d (va_up u (a + k) ((cy + u (a + k) + y * n) % 268435456)) d2 := by
  subst hy
  have b1 := h.1.1 (a + k) ha
  have b2 := h2 (f + k) hf
  have b3 := h.2.2
  refine ⟨li_WS h.1 (Nat.mod_lt _ (by omega)), ?_, ?_⟩
  · rw [nb_carry, nb_s, nb_s, ← li_Wat h.1 ha]
    have h3 := h.2.1
    rw [Nat.add_mul, Nat.add_mul, Nat.add_mul (nb_val _ d2 _ _), Nat.mul_assoc, Nat.mul_assoc (d2 (f + k)), Nat.mul_comm n]
    omega
  · have h1 : d2 (f + k) * n ≤ 268435455 * n := Nat.mul_le_mul_right _ (by omega)
    omega
theorem li_adF {N N2 a f i j n cy : Nat} {d u d2 V V2 : Nat → Nat} (h : li_adI N a f n 8 cy d u d2) (hR : li_R N d V) (hR2 : li_R N2 d2 V2) (ha : a = 8 * i) (hf : f = 8 * j) (hi : 8 * i + 8 ≤ N) (hj : 8 * j + 8 ≤ N2) (hl : V i + V2 j * n < 268435456 ^ 8) : li_R N u (va_up V i (V i + V2 j * n)) := by
  refine li_WF h.1 hR ha ?_
  subst ha; subst hf
  rw [← hR.2 i hi, ← hR2.2 j hj] at hl ⊢
  exact nb_top h.2.1 hl
/-- times -/
def li_muI (N a n k cy : Nat) (d u : Nat → Nat) : Prop := li_W N a k d u ∧ nb_val 268435456 u a k + cy * 268435456 ^ k = nb_val 268435456 d a k * n ∧ cy ≤ n
theorem li_mu0 {N a n : Nat} {d : Nat → Nat} (h : li_ok N d) : li_muI N a n 0 0 d d := ⟨li_W0 h, by rw [nb_0]; omega, by omega⟩
theorem li_mu_lt {x cy n : Nat} (hx : x < 268435456) (hc : cy ≤ n) (hn : n < 4294967296) : cy + x * n < 2 ^ 63 := by
  have h1 : x * n ≤ 268435455 * n := Nat.mul_le_mul_right _ (by omega)
  omega
theorem li_muS {N a n k cy : Nat} {d u : Nat → Nat} (h : li_muI N a n k cy d u) (ha : a + k < N) :
    li_muI N a n (k + 1) ((cy + u (a + k) * n) / 268435456) d (va_up u (a + k) ((cy + u (a + k) * n) % 268435456)) := by
  have b1 := h.1.1 (a + k) ha
  have b3 := h.2.2
  refine ⟨li_WS h.1 (Nat.mod_lt _ (by omega)), ?_, ?_⟩
  · rw [nb_carry, nb_s, ← li_Wat h.1 ha]
    have h3 := h.2.1
    rw [Nat.add_mul, Nat.add_mul (nb_val _ _ _ _), ← h3, Nat.mul_assoc, Nat.mul_assoc, Nat.mul_comm n]
    omega
  · have h1 : u (a + k) * n ≤ 268435455 * n := Nat.mul_le_mul_right _ (by omega)
    omega
theorem li_muF {N a i n cy : Nat} {d u V : Nat → Nat} (h : li_muI N a n 8 cy d u) (hR : li_R N d V) (ha : a = 8 * i) (hi : 8 * i + 8 ≤ N) (hl : V i * n < 268435456 ^ 8) : li_R N u (va_up V i (V i * n)) := by
  refine li_WF h.1 hR ha ?_
  subst ha
  rw [← hR.2 i hi] at hl ⊢
  exact nb_top h.2.1 hl
/-- compare -/
def li_cp (N N2 a f : Nat) (d d2 : Nat → Nat) (k : Nat) : Prop := li_ok N d ∧ li_ok N2 d2 ∧ a + k ≤ N ∧ f + k ≤ N2
theorem li_c0 : mg_cmp 0 0 = 0 := rfl
theorem li_clt {N N2 a f k : Nat} {d d2 : Nat → Nat} (h : li_cp N N2 a f d d2 (k + 1)) (hl : d (a + k) < d2 (f + k)) : mg_cmp (nb_val 268435456 d a (k + 1)) (nb_val 268435456 d2 f (k + 1)) = 4294967295 :=
  if_pos (nb_less (Nat.lt_succ_self k) (fun j hj => h.1 _ (by have := h.2.2.1; omega)) (fun j a b => by omega) hl)
theorem li_cgt {N N2 a f k : Nat} {d d2 : Nat → Nat} (h : li_cp N N2 a f d d2 (k + 1)) (hl : d2 (f + k) < d (a + k)) : mg_cmp (nb_val 268435456 d a (k + 1)) (nb_val 268435456 d2 f (k + 1)) = 1 := by
  have h1 : nb_val 268435456 d2 f (k + 1) < nb_val 268435456 d a (k + 1) := nb_less (Nat.lt_succ_self k) (fun j hj => h.2.1 _ (by have := h.2.2.2; omega)) (fun j a b => by omega) hl
  unfold mg_cmp
  rw [if_neg (by omega), if_neg (by omega)]
theorem mg_cmp_add (x y z : Nat) : mg_cmp (x + z) (y + z) = mg_cmp x y := by
  unfold mg_cmp
  by_cases h : x < y
  · rw [if_pos h, if_pos (by omega)]
  · by_cases h2 : x = y
    · rw [if_neg h, if_pos h2, if_neg (by omega), if_pos (by omega)]
    · rw [if_neg h, if_neg h2, if_neg (by omega), if_neg (by omega)]
theorem li_ceq {a f k : Nat} {d d2 : Nat → Nat} (hl : d (a + k) = d2 (f + k)) : mg_cmp (nb_val 268435456 d a (k + 1)) (nb_val 268435456 d2 f (k + 1)) = mg_cmp (nb_val 268435456 d a k) (nb_val 268435456 d2 f k) := by
  show mg_cmp (nb_val _ d a k + _) (nb_val _ d2 f k + _) = _
  rw [hl]
  exact mg_cmp_add _ _ _
theorem mg_cmp_lt32 (x y : Nat) : mg_cmp x y < 2 ^ 32 := by
  unfold mg_cmp
  by_cases h : x < y
  · rw [if_pos h]; decide
  · by_cases h2 : x = y
    · rw [if_neg h, if_pos h2]; decide
    · rw [if_neg h, if_neg h2]; decide
/-- isNothing -/
theorem li_z {d : Nat → Nat} {k : Nat} : nb_val 268435456 d 0 (k + 1) = 0 ↔ nb_val 268435456 d 0 k = 0 ∧ d k = 0 := by
  show nb_val _ d 0 k + d (0 + k) * 268435456 ^ k = 0 ↔ _
  rw [Nat.zero_add]
  have hp : 0 < 268435456 ^ k := Nat.pow_pos (by decide)
  constructor
  · intro h
    refine ⟨by omega, ?_⟩
    have h2 : d k * 268435456 ^ k = 0 := by omega
    rcases Nat.mul_eq_zero.mp h2 with h3 | h3
    · exact h3
    · omega
  · rintro ⟨h1, h2⟩
    rw [h1, h2, Nat.zero_mul]
/-- multiply -/
def li_prO (i a f : Nat) (pr d d2 : Nat → Nat) : Prop := li_ok 17 pr ∧ nb_val 268435456 pr 0 (i + 8) = nb_val 268435456 d a i * nb_val 268435456 d2 f 8
def li_prI (i j cy a f : Nat) (p0 pr d d2 : Nat → Nat) : Prop := li_ok 17 pr ∧ (∀ q, i + j ≤ q → pr q = p0 q) ∧ nb_val 268435456 pr 0 (i + j) + cy * 268435456 ^ (i + j) = nb_val 268435456 p0 0 (i + j) + d (a + i) * 268435456 ^ i * nb_val 268435456 d2 f j ∧ cy < 268435456
theorem li_prI0 {i a f : Nat} {pr d d2 : Nat → Nat} (h : li_ok 17 pr) : li_prI i 0 0 a f pr pr d d2 := ⟨h, fun _ _ => rfl, by rw [nb_0, Nat.mul_zero, Nat.zero_mul], by decide⟩
theorem li_pr_mul {x y cy z : Nat} (hx : x < 268435456) (hy : y < 268435456) (hc : cy < 268435456) (hz : z < 268435456) : cy + z + x * y < 268435456 * 268435456 := by
  have h1 : x * y ≤ 268435455 * 268435455 := Nat.mul_le_mul (by omega) (by omega)
  omega
theorem li_prIS {N N2 i j cy a f : Nat} {p0 pr d d2 : Nat → Nat} (h : li_prI i j cy a f p0 pr d d2) (h1 : li_ok N d) (h2 : li_ok N2 d2) (hi : i < 8) (hj : j < 8) (ha : a + 8 ≤ N) (hf : f + 8 ≤ N2) :
    li_prI i (j + 1) ((cy + pr (i + j) + d (a + i) * d2 (f + j)) / 268435456) a f p0 (va_up pr (i + j) ((cy + pr (i + j) + d (a + i) * d2 (f + j)) % 268435456)) d d2 := by
  have b0 := li_pr_mul (h1 (a + i) (by omega)) (h2 (f + j) (by omega)) h.2.2.2 (h.1 (i + j) (by omega))
  refine ⟨li_up h.1 (Nat.mod_lt _ (by decide)), fun q hq => ?_, ?_, (Nat.div_lt_iff_lt_mul (by decide)).mpr b0⟩
  · rw [va_up_ne _ _ (by omega)]; exact h.2.1 q (by omega)
  · have h3 := nb_carry (B := 268435456) pr 0 (i + j) (cy + pr (i + j) + d (a + i) * d2 (f + j))
    rw [Nat.zero_add] at h3
    show nb_val _ _ 0 (i + j + 1) + _ * _ ^ (i + j + 1) = nb_val _ _ 0 (i + j + 1) + _
    rw [h3, nb_s, nb_s, Nat.zero_add]
    have h4 := h.2.2.1
    have h5 := h.2.1 (i + j) (Nat.le_refl _)
    rw [h5]
    have h6 : d (a + i) * d2 (f + j) * 268435456 ^ (i + j) = d (a + i) * 268435456 ^ i * (d2 (f + j) * 268435456 ^ j) := by
      rw [Nat.pow_add]; simp only [Nat.mul_comm, Nat.mul_left_comm, Nat.mul_assoc]
    rw [Nat.add_mul, Nat.add_mul, h6, Nat.mul_add (d (a + i) * 268435456 ^ i)]
    omega
theorem li_prOS {i cy a f : Nat} {p0 pr d d2 : Nat → Nat} (h0 : li_prO i a f p0 d d2) (h : li_prI i 8 cy a f p0 pr d d2) : li_prO (i + 1) a f (va_up pr (i + 8) cy) d d2 := by
  refine ⟨li_up h.1 h.2.2.2, ?_⟩
  rw [show i + 1 + 8 = i + 8 + 1 by omega]
  show nb_val _ _ 0 (i + 8 + 1) = nb_val _ d a (i + 1) * _
  rw [nb_s 268435456 _ 0 (i + 8), nb_s 268435456 d a i, Nat.zero_add, va_up_self, nb_up_out (Or.inr (by omega)), Nat.add_mul, ← h0.2]
  exact h.2.2.1
theorem nb_hi (B : Nat) (d : Nat → Nat) (s k : Nat) : ∀ e, ∃ x, nb_val B d s (k + e) = nb_val B d s k + x * B ^ k := by
  intro e
  induction e with
  | zero => exact ⟨0, by rw [Nat.zero_mul]; rfl⟩
  | succ e ih =>
    obtain ⟨x, hx⟩ := ih
    refine ⟨x + d (s + (k + e)) * B ^ e, ?_⟩
    show nb_val B d s (k + e) + d (s + (k + e)) * B ^ (k + e) = _
    rw [hx, Nat.add_mul, Nat.mul_assoc (d _), ← Nat.pow_add, Nat.add_comm e k, Nat.add_assoc]
theorem li_prF {N N2 a f i j : Nat} {pr d d2 V V2 : Nat → Nat} (h : li_prO 8 a f pr d d2) (hR : li_R N d V) (hR2 : li_R N2 d2 V2) (ha : a = 8 * i) (hf : f = 8 * j) (hi : 8 * i + 8 ≤ N) (hj : 8 * j + 8 ≤ N2) (hl : V i * V2 j < 268435456 ^ 8) : li_R 17 pr (fun k => if k = 0 then V i * V2 j else nb_val 268435456 pr (8 * k) 8) := by
  refine ⟨h.1, fun k hk => ?_⟩
  by_cases e : k = 0
  · subst e
    show _ = if (0 : Nat) = 0 then _ else _
    rw [if_pos rfl]
    subst ha; subst hf
    have h1 := h.2
    rw [← hR.2 i hi, ← hR2.2 j hj] at hl ⊢
    obtain ⟨x, hx⟩ := nb_hi 268435456 pr 0 8 8
    exact nb_top (hx.symm.trans h1) hl
  · show _ = if k = 0 then _ else _
    rw [if_neg e]
theorem li_pr0 {a f : Nat} {pr d d2 : Nat → Nat} (h : ∀ q, q < 17 → pr q = 0) : li_prO 0 a f pr d d2 :=
  ⟨fun k hk => by rw [h k hk]; decide, by rw [nb_0, Nat.zero_mul]; exact nb_zero (fun j hj => h _ (by omega))⟩
theorem li_big : 2 ^ 223 < 268435456 ^ 8 := by decide +kernel
theorem li_lt {x k : Nat} (h : x ≤ 2 ^ k) (hk : k ≤ 223) : x < 268435456 ^ 8 := Nat.lt_of_le_of_lt (Nat.le_trans h (Nat.pow_le_pow_right (by decide) hk)) li_big
end
section
/-! The reference: what it keeps, and what that stands for. -/
/-- two letters as one number, the smaller first -/
def mo_cd (o t : Nat) : Nat := if o = 0 then 0 else if o < t then 10 * o + t else 10 * t + o
theorem mo_cd_le {o t : Nat} (ho : o ≤ 3) (ht : t ≤ 3) : mo_cd o t ≤ 33 := by
  unfold mo_cd
  by_cases h : o = 0
  · rw [if_pos h]; omega
  · by_cases h2 : o < t
    · rw [if_neg h, if_pos h2]; omega
    · rw [if_neg h, if_neg h2]; omega
theorem mo_cd0 {o t : Nat} : 0 < mo_cd o t ↔ o ≠ 0 := by
  unfold mo_cd
  by_cases h : o = 0
  · rw [if_pos h]; omega
  · by_cases h2 : o < t
    · rw [if_neg h, if_pos h2]; omega
    · rw [if_neg h, if_neg h2]; omega
theorem mo_cd_lt {o t : Nat} (h0 : o ≠ 0) (h : o < t) : mo_cd o t = 10 * o + t := by unfold mo_cd; rw [if_neg h0, if_pos h]
theorem mo_cd_ge {o t : Nat} (h0 : o ≠ 0) (h : t ≤ o) : mo_cd o t = 10 * t + o := by unfold mo_cd; rw [if_neg h0, if_neg (by omega)]
theorem mo_cd_eq {a b o t : Nat} (ha : 1 ≤ a ∧ a ≤ 3) (hb : 1 ≤ b ∧ b ≤ 3) (ho : 1 ≤ o ∧ o ≤ 3) (ht : 1 ≤ t ∧ t ≤ 3) : mo_cd a b = mo_cd o t ↔ (a = o ∧ b = t) ∨ (a = t ∧ b = o) := by
  unfold mo_cd
  rw [if_neg (show ¬ a = 0 by omega), if_neg (show ¬ o = 0 by omega)]
  by_cases h1 : a < b
  · by_cases h2 : o < t
    · rw [if_pos h1, if_pos h2]; omega
    · rw [if_pos h1, if_neg h2]; omega
  · by_cases h2 : o < t
    · rw [if_neg h1, if_pos h2]; omega
    · rw [if_neg h1, if_neg h2]; omega
/-- the persons below k have the letters that were seen -/
theorem ft_con_r {o t s0 s1 : Nat → Nat} {k : Nat} {a : Nat → Nat} : ft_con o t s0 s1 0 (k + 1) a ↔ ft_con o t s0 s1 0 k a ∧ (o k = 0 ∨ (a (s0 k) = o k ∧ a (s1 k) = t k) ∨ (a (s0 k) = t k ∧ a (s1 k) = o k)) := by
  constructor
  · intro h
    exact ⟨fun q h1 h2 => h q h1 (by omega), h k (Nat.zero_le _) (by omega)⟩
  · rintro ⟨h1, h2⟩ q a1 a2
    by_cases e : q = k
    · subst e; exact h2
    · exact h1 q a1 (by omega)
theorem ft_con_le {o t s0 s1 : Nat → Nat} {k n : Nat} {a : Nat → Nat} (h : k ≤ n) (hc : ft_con o t s0 s1 0 n a) : ft_con o t s0 s1 0 k a := fun q h1 h2 => hc q h1 (by omega)
theorem ft_con_cg {o t s0 s1 : Nat → Nat} {n K : Nat} {a b : Nat → Nat} (hq : ∀ q, q < n → s0 q < K ∧ s1 q < K) (h : ∀ k, k < K → a k = b k) : ft_con o t s0 s1 0 n a ↔ ft_con o t s0 s1 0 n b := by
  constructor
  · intro hc q h1 h2
    have := hq q (by omega)
    rw [← h _ this.1, ← h _ this.2]
    exact hc q h1 h2
  · intro hc q h1 h2
    have := hq q (by omega)
    rw [h _ this.1, h _ this.2]
    exact hc q h1 h2
theorem mo_c0 {o t s0 s1 a : Nat → Nat} : ft_c (ft_con o t s0 s1 0 0 a) = 1 := ft_c1 (fun q h1 h2 => by omega)
/-- isSo's answer at its end -/
theorem mo_so {o t s0 s1 : Nat → Nat} {k n x : Nat} {a : Nat → Nat} (hI : x = ft_c (ft_con o t s0 s1 0 k a)) (hk : k ≤ n) (he : n ≤ k ∨ x = 0) : x = ft_c (ft_con o t s0 s1 0 n a) := by
  rcases he with e | e
  · rw [hI, show k = n by omega]
  · subst e
    rw [ft_c0 (fun hc => by rw [ft_c1 (ft_con_le hk hc)] at hI; omega)]
/-- a step of isSo: nothing seen, the same letters, other letters -/
theorem mo_so0 {o t s0 s1 : Nat → Nat} {k x : Nat} {a : Nat → Nat} (hI : x = ft_c (ft_con o t s0 s1 0 k a)) (h : o k = 0) : x = ft_c (ft_con o t s0 s1 0 (k + 1) a) := by
  rw [hI]; exact ft_cc ⟨fun q => ft_con_r.mpr ⟨q, Or.inl h⟩, fun q => (ft_con_r.mp q).1⟩
theorem mo_so1 {o t s0 s1 : Nat → Nat} {k x : Nat} {a : Nat → Nat} (hI : x = ft_c (ft_con o t s0 s1 0 k a)) (hx : x ≠ 0) (h : (a (s0 k) = o k ∧ a (s1 k) = t k) ∨ (a (s0 k) = t k ∧ a (s1 k) = o k)) : 1 = ft_c (ft_con o t s0 s1 0 (k + 1) a) := by
  refine (ft_c1 (ft_con_r.mpr ⟨?_, Or.inr h⟩)).symm
  exact Classical.not_not.mp (fun q => hx (hI.trans (ft_c0 q)))
theorem mo_so2 {o t s0 s1 : Nat → Nat} {k : Nat} {a : Nat → Nat} (ho : o k ≠ 0) (h : ¬ ((a (s0 k) = o k ∧ a (s1 k) = t k) ∨ (a (s0 k) = t k ∧ a (s1 k) = o k))) : 0 = ft_c (ft_con o t s0 s1 0 (k + 1) a) :=
  (ft_c0 (fun q => by rcases (ft_con_r.mp q).2 with e | e; exact ho e; exact h e)).symm
/-- the letters' chance is small -/
theorem ft_p_le {wt a : Nat → Nat} {K : Nat} (h : ∀ k, k < K → wt (a k) ≤ 8) : ∀ k, k ≤ K → ft_p wt a k ≤ 8 ^ k := by
  intro k
  induction k with
  | zero => intro _; exact Nat.le_refl _
  | succ k ih =>
    intro hk
    rw [Nat.pow_succ]
    exact Nat.mul_le_mul (ih (by omega)) (h k (by omega))
theorem ft_dg_in (n j : Nat) : 1 ≤ ft_dg n j ∧ ft_dg n j ≤ 3 := by
  unfold ft_dg
  have := Nat.mod_lt (n / 3 ^ j) (show 0 < 3 by decide)
  omega
/-- how many of the bits below k are set -/
def li_bc (k w : Nat) : Nat := zs_sum k (fun i => w / 2 ^ i % 2)
theorem li_bc_le (k w : Nat) : li_bc k w ≤ k := by
  induction k with
  | zero => exact Nat.le_refl _
  | succ k ih =>
    have := Nat.mod_lt (w / 2 ^ k) (show 0 < 2 by decide)
    show li_bc k w + w / 2 ^ k % 2 ≤ k + 1
    omega
theorem li_bc_hi {B w : Nat} (hw : w < 2 ^ B) : ∀ e, li_bc (B + e) w = li_bc B w := by
  intro e
  induction e with
  | zero => rfl
  | succ e ih =>
    show li_bc (B + e) w + w / 2 ^ (B + e) % 2 = _
    rw [ih, Nat.div_eq_of_lt (Nat.lt_of_lt_of_le hw (Nat.pow_le_pow_right (by decide) (by omega)))]
    rfl
theorem li_kx (r x : Nat) : ∀ B, jn_kx r B x = r ^ li_bc B x * (16 - r) ^ (B - li_bc B x) := by
  intro B
  induction B with
  | zero => rfl
  | succ B ih =>
    have hb := li_bc_le B x
    show jn_kx r B x * (if x.testBit B = true then r else 16 - r) = _
    rw [ih]
    by_cases h : x.testBit B = true
    · have h1 : li_bc (B + 1) x = li_bc B x + 1 := by show li_bc B x + x / 2 ^ B % 2 = _; rw [mg_tb.mpr h]
      rw [if_pos h, h1, Nat.pow_succ, show B + 1 - (li_bc B x + 1) = B - li_bc B x by omega]
      simp only [Nat.mul_comm, Nat.mul_left_comm, Nat.mul_assoc]
    · have h2 : x.testBit B = false := by simpa using h
      have h1 : li_bc (B + 1) x = li_bc B x := by show li_bc B x + x / 2 ^ B % 2 = _; rw [mg_tb0.mpr h2]; rfl
      rw [if_neg h, h1, show B + 1 - li_bc B x = (B - li_bc B x) + 1 by omega, Nat.pow_succ, Nat.mul_assoc]
/-- the changes' weights by how many bits change -/
def mo_chg (r B d : Nat) : Nat := r ^ d * (16 - r) ^ (B - d)
theorem mo_kx {r B u w : Nat} (hB : B ≤ 6) (hu : u < 2 ^ B) (hw : w < 2 ^ B) : mo_chg r B (li_bc 6 (u ^^^ w)) = jn_kx r B (u ^^^ w) := by
  have hx : u ^^^ w < 2 ^ B := Nat.xor_lt_two_pow hu hw
  have h6 : li_bc 6 (u ^^^ w) = li_bc B (u ^^^ w) := by
    rw [show 6 = B + (6 - B) by omega, li_bc_hi hx]
  rw [h6, li_kx]
  rfl
def mo_ch (r d : Nat) : Nat → Nat
  | 0 => 1
  | k + 1 => mo_ch r d k * (if k < d then r else 16 - r)
theorem mo_ch_s1 {r d k : Nat} (h : k < d) : mo_ch r d (k + 1) = mo_ch r d k * r := by
  show mo_ch r d k * (if k < d then r else 16 - r) = _
  rw [if_pos h]
theorem mo_ch_s2 {r d k : Nat} (h : d ≤ k) : mo_ch r d (k + 1) = mo_ch r d k * (16 - r) := by
  show mo_ch r d k * (if k < d then r else 16 - r) = _
  rw [if_neg (by omega)]
theorem mo_ch_lo (r d : Nat) : ∀ k, k ≤ d → mo_ch r d k = r ^ k := by
  intro k
  induction k with
  | zero => intro _; rfl
  | succ k ih => intro h; rw [mo_ch_s1 (by omega), ih (by omega), Nat.pow_succ]
theorem mo_ch_hi (r d : Nat) : ∀ e, mo_ch r d (d + e) = r ^ d * (16 - r) ^ e := by
  intro e
  induction e with
  | zero => rw [Nat.add_zero, mo_ch_lo r d d (Nat.le_refl _), Nat.pow_zero, Nat.mul_one]
  | succ e ih => rw [← Nat.add_assoc, mo_ch_s2 (by omega), ih, Nat.pow_succ, Nat.mul_assoc]
theorem mo_ch_eq {r d B : Nat} (h : d ≤ B) : mo_ch r d B = mo_chg r B d := by
  obtain ⟨e, rfl⟩ : ∃ e, B = d + e := ⟨B - d, by omega⟩
  rw [mo_ch_hi]
  unfold mo_chg
  rw [show d + e - d = e by omega]
theorem mo_ch_le {r d : Nat} (hr : r ≤ 16) : ∀ k, mo_ch r d k ≤ 16 ^ k := by
  intro k
  induction k with
  | zero => exact Nat.le_refl _
  | succ k ih =>
    rw [Nat.pow_succ]
    refine Nat.mul_le_mul ih ?_
    by_cases h : k < d
    · rw [if_pos h]; exact hr
    · rw [if_neg h]; omega
/-- the table of FIT, where it is known -/
def mo_kn (nm W : Nat) (kn ftb : Nat → Nat) (F : Nat → Nat → Nat) : Prop := ∀ m, m < nm → kn m < 2 ∧ (kn m ≠ 0 → ∀ w, w < W → ftb (64 * m + w) = F m w)
theorem mo_kn_at {nm W : Nat} {kn ftb : Nat → Nat} {F : Nat → Nat → Nat} (h : mo_kn nm W kn ftb F) {m w : Nat} (hm : m < nm) (hk : kn m ≠ 0) (hw : w < W) : ftb (64 * m + w) = F m w := (h m hm).2 hk w hw
/-- one marker's row of it below k made anew -/
def mo_tb (tb F : Nat → Nat) (mk k : Nat) : Nat → Nat := fun i => if 64 * mk ≤ i ∧ i < 64 * mk + k then F (i - 64 * mk) else tb i
theorem mo_tb0 (tb F : Nat → Nat) (mk : Nat) : mo_tb tb F mk 0 = tb := by
  funext i; unfold mo_tb; rw [if_neg (by omega)]
theorem mo_tbS (tb F : Nat → Nat) (mk k : Nat) : va_up (mo_tb tb F mk k) (64 * mk + k) (F k) = mo_tb tb F mk (k + 1) := by
  funext i
  by_cases e : i = 64 * mk + k
  · subst e
    rw [va_up_self]
    unfold mo_tb
    rw [if_pos (by omega), show 64 * mk + k - 64 * mk = k by omega]
  · rw [va_up_ne _ _ e]
    unfold mo_tb
    by_cases h : 64 * mk ≤ i ∧ i < 64 * mk + k
    · rw [if_pos h, if_pos (by omega)]
    · rw [if_neg h, if_neg (by omega)]
theorem mo_kn_new {nm W : Nat} {kn ftb : Nat → Nat} {F : Nat → Nat → Nat} (h : mo_kn nm W kn ftb F) {mk : Nat} (hW : W ≤ 64) : mo_kn nm W (va_up kn mk 1) (mo_tb ftb (F mk) mk W) F := by
  intro m hm
  by_cases e : m = mk
  · subst e
    rw [va_up_self]
    refine ⟨by omega, fun _ w hw => ?_⟩
    unfold mo_tb
    rw [if_pos (by omega), show 64 * m + w - 64 * m = w by omega]
  · rw [va_up_ne _ _ e]
    refine ⟨(h m hm).1, fun hk w hw => ?_⟩
    unfold mo_tb
    rw [if_neg (by omega)]
    exact (h m hm).2 hk w hw
theorem mo_tb_at {tb F : Nat → Nat} {mk k w : Nat} (h : w < k) : mo_tb tb F mk k (64 * mk + w) = F w := by
  unfold mo_tb
  rw [if_pos (by omega), show 64 * mk + w - 64 * mk = w by omega]
theorem mo_zs {f : Nat → Nat} {k : Nat} {M : Nat} (h : ∀ i, i < k → f i ≤ M) : zs_sum k f ≤ k * M := by
  rw [← zs_const k M]; exact zs_le h
theorem mo_dn0 {nf nc : Nat} {fa mo rk : Nat → Nat} (h : fm_ok nf nc fa mo rk) {p : Nat} (hp : p < nf + nc) (hf : fa p ≠ 4294967295) : fa p < p := by
  rcases h.2.2 p hp with e | e
  · exact absurd e.1 hf
  · exact e.1
theorem mo_dn1 {nf nc : Nat} {fa mo rk : Nat → Nat} (h : fm_ok nf nc fa mo rk) {p : Nat} (hp : p < nf + nc) (hf : fa p ≠ 4294967295) : mo p < p := by
  rcases h.2.2 p hp with e | e
  · exact absurd e.1 hf
  · exact e.2.1
/-! Ints of which nothing is known, against a bound; counting down from a size; long shifts. -/
section MI
variable {p : Program} {l : Launch} {e : Env} {R : Room} {s : State} {m : MethodId} {args : Array Value} {below : List Frame} {meth : Method} {c : Code} {H : Heap} {locs : List Loc} {cells slots : Nat} {Q : State → Prop}
variable {cc : ByteArray} {nL pc : Nat} {own : String} {ls : Array Slot} {rest : List Value}
theorem mg_neg_lt {x : Int32} {b : Nat} (hb : b < 2 ^ 31) (h : x < 0) : x < nI b := by
  have h1 : (0 : Int32) ≤ nI b := Int32.not_lt.mp (nI_pos hb)
  exact Int32.lt_of_lt_of_le h h1
theorem mg_icl_r (X : CallFix p m c cc nL s args mg_T own) (tgt pc' : Nat) {x : Int32} {b : Nat} (hb : b < 2 ^ 31) {off : Int} (hdg : decode cc pc = .ok (.if_icmp .lt off, 3)) (ht : (pc : Int) + off = (tgt : Int)) (hq : pc + 3 = pc') (kt : (∀ j, b ≤ j → j < 2 ^ 31 → x ≠ nI j) → W p l e R s m args below meth c H locs cells slots Q (F0 m tgt ls rest)) (kf : ∀ j : Nat, b ≤ j → j < 2 ^ 31 → x = nI j → W p l e R s m args below meth c H locs cells slots Q (F0 m pc' ls rest)) : W p l e R s m args below meth c H locs cells slots Q (F0 m pc ls (.int (nI b) :: .int x :: rest)) := by
  subst hq
  refine lv_icmp_lt X.1 X.2.1 hdg ht (fun h => kt (fun j hj h31 e => ?_)) (fun h => ?_)
  · subst e
    exact absurd ((nI_leI hb h31).mpr hj) (Int32.not_le.mpr h)
  · by_cases hn : x < 0
    · exact absurd (mg_neg_lt hb hn) h
    · obtain ⟨j, hj, e⟩ := nI_of hn
      subst e
      exact kf j ((nI_leI hb hj).mp (Int32.not_lt.mp h)) hj rfl
/-- an int between two bounds -/
def mg_bt (x : Int32) (a b : Nat) : Prop := ∃ j, (a ≤ j ∧ j ≤ b) ∧ x = nI j
theorem mg_bt_no {x : Int32} {a b : Nat} (hb : b < 2 ^ 31) (h : ∀ j, a ≤ j → j < 2 ^ 31 → x ≠ nI j) : ¬ mg_bt x a b := fun ⟨j, hj, e⟩ => h j hj.1 (by omega) e
theorem mg_bt_gt {j a b : Nat} (hj : j < 2 ^ 31) (hb : b < 2 ^ 31) (h : b < j) : ¬ mg_bt (nI j) a b := fun ⟨i, hi, e⟩ => by
  have := (nI_eq hj (show i < 2 ^ 31 by omega)).mp e
  omega
theorem mg_bt_in {j a b : Nat} (h1 : a ≤ j) (h2 : j ≤ b) : mg_bt (nI j) a b := ⟨j, ⟨h1, h2⟩, rfl⟩
theorem mg_dn_lt {a j : Nat} (ha : a ≤ 2 ^ 31) (hj : j < 2 ^ 31) : mg_dn a ≤ nI j ↔ a ≤ j + 1 := by
  cases a with
  | zero =>
    refine ⟨fun _ => by omega, fun _ => ?_⟩
    exact Int32.le_of_lt (mg_neg_lt hj mg_m1)
  | succ i => exact (nI_leI (show i < 2 ^ 31 by omega) hj).trans (by omega)
theorem mg_icmpge_d (X : CallFix p m c cc nL s args mg_T own) (tgt pc' : Nat) {a b : Nat} (ha : a < 2 ^ 31) (hb : b ≤ 2 ^ 31) {off : Int} (hdg : decode cc pc = .ok (.if_icmp .ge off, 3)) (ht : (pc : Int) + off = (tgt : Int)) (hq : pc + 3 = pc') (kt : b ≤ a + 1 → W p l e R s m args below meth c H locs cells slots Q (F0 m tgt ls rest)) (kf : a + 1 < b → W p l e R s m args below meth c H locs cells slots Q (F0 m pc' ls rest)) : W p l e R s m args below meth c H locs cells slots Q (F0 m pc ls (.int (mg_dn b) :: .int (nI a) :: rest)) := by
  subst hq
  exact lv_icmp_ge X.1 X.2.1 hdg ht (fun h => kt ((mg_dn_lt hb ha).mp h)) (fun h => kf (Nat.not_le.mp (fun q => h ((mg_dn_lt hb ha).mpr q))))
theorem mg_sub1 (a : Nat) : nI a - nI 1 = mg_dn a := by
  rw [← mg_dn_eq a]
  cases a with
  | zero => decide +kernel
  | succ j => rw [pk_sub (show 1 ≤ j + 1 by omega), mg_dec1 (by omega)]
/-- a number that is -1 or small -/
theorem mg_iflt_w (X : CallFix p m c cc nL s args mg_T own) (tgt pc' : Nat) {a : Nat} (ha : a = 4294967295 ∨ a < 2 ^ 31) {off : Int} (hdg : decode cc pc = .ok (.ifCond .lt off, 3)) (ht : (pc : Int) + off = (tgt : Int)) (hq : pc + 3 = pc') (kt : a = 4294967295 → W p l e R s m args below meth c H locs cells slots Q (F0 m tgt ls rest)) (kf : a < 2 ^ 31 → W p l e R s m args below meth c H locs cells slots Q (F0 m pc' ls rest)) : W p l e R s m args below meth c H locs cells slots Q (F0 m pc ls (.int (nI a) :: rest)) := by
  subst hq
  refine lv_if_lt X.1 X.2.1 hdg ht (fun h => kt ?_) (fun h => kf ?_)
  · rcases ha with e | e
    · exact e
    · exact absurd h (nI_pos e)
  · rcases ha with e | e
    · subst e; exact absurd mg_m1 h
    · exact e
theorem mg_lshl (X : CallFix p m c cc nL s args mg_T own) (pc' : Nat) (v : Int64) {x : Int64} {y : Int32} (hdg : decode cc pc = .ok (.lshl, 1)) (hv : x <<< (y.toInt64 &&& 63) = v) (hq : pc + 1 = pc') (kk : W p l e R s m args below meth c H locs cells slots Q (F0 m pc' ls (.long v :: rest))) : W p l e R s m args below meth c H locs cells slots Q (F0 m pc ls (.int y :: .long x :: rest)) := by
  subst hq
  exact lv_lshl X.1 X.2.1 hdg hv kk
theorem mg_l1 : ∀ k, k < 31 → lN 1 <<< ((nI k).toInt64 &&& 63) = lN (2 ^ k) := by decide +kernel
end MI
end
section
theorem mg_cb_10 : (Int8.ofInt (10)).toInt32 = nI 10 := by decide +kernel
theorem mg_cb_24 : (Int8.ofInt (24)).toInt32 = nI 24 := by decide +kernel
theorem mg_ci_4 : Int32.ofInt (4) = nI 4 := by decide +kernel
theorem f_Mo_76 : mg_F "LinkedMarkersModel" 76 6 0 := ⟨R_Mo, T_Mo, 26, rfl, by decide, in_Mo, rfl, Or.inl (mg_in 655 (by decide +kernel) (by decide +kernel))⟩
theorem fp_Mo_76 : mg_Fp "LinkedMarkersModel" 76 6 0 (.int) false := ⟨R_Mo, T_Mo, 26, t_Mo, rfl, by decide, in_Mo, rfl, ty_Mo, nm_Mo, rfl, by decide +kernel, (fun h => by first | rfl | cases h), Or.inl (mg_in 655 (by decide +kernel) (by decide +kernel))⟩
theorem f_Mo_28 : mg_F "LinkedMarkersModel" 28 6 11 := ⟨R_Mo, T_Mo, 26, rfl, by decide, in_Mo, rfl, Or.inl (mg_in 666 (by decide +kernel) (by decide +kernel))⟩
theorem f_Mo_80 : mg_F "LinkedMarkersModel" 80 6 1 := ⟨R_Mo, T_Mo, 26, rfl, by decide, in_Mo, rfl, Or.inl (mg_in 656 (by decide +kernel) (by decide +kernel))⟩
theorem f_Mo_83 : mg_F "LinkedMarkersModel" 83 6 7 := ⟨R_Mo, T_Mo, 26, rfl, by decide, in_Mo, rfl, Or.inl (mg_in 662 (by decide +kernel) (by decide +kernel))⟩
theorem f_Mo_34 : mg_F "LinkedMarkersModel" 34 6 13 := ⟨R_Mo, T_Mo, 26, rfl, by decide, in_Mo, rfl, Or.inl (mg_in 668 (by decide +kernel) (by decide +kernel))⟩
theorem f_Mo_86 : mg_F "LinkedMarkersModel" 86 6 3 := ⟨R_Mo, T_Mo, 26, rfl, by decide, in_Mo, rfl, Or.inl (mg_in 658 (by decide +kernel) (by decide +kernel))⟩
theorem g_Mo_115 : mg_CV "LinkedMarkersModel" 115 y_Mo_ways b_Mo_ways 1 (some .int) 0 := ⟨Or.inl (mg_in 794 (by decide +kernel) (by decide +kernel)), (mg_in 796 (by decide +kernel) (by decide +kernel)), (mg_in 17 (by decide +kernel) (by decide +kernel)), (mg_in 40 (by decide +kernel) (by decide +kernel)), (mg_in 797 (by decide +kernel) (by decide +kernel)), by decide, by decide, by decide +kernel⟩
theorem f_Mo_13 : mg_F "LinkedMarkersModel" 13 6 5 := ⟨R_Mo, T_Mo, 26, rfl, by decide, in_Mo, rfl, Or.inl (mg_in 660 (by decide +kernel) (by decide +kernel))⟩
theorem f_Mo_7 : mg_F "LinkedMarkersModel" 7 6 4 := ⟨R_Mo, T_Mo, 26, rfl, by decide, in_Mo, rfl, Or.inl (mg_in 659 (by decide +kernel) (by decide +kernel))⟩
theorem f_Mo_16 : mg_F "LinkedMarkersModel" 16 6 6 := ⟨R_Mo, T_Mo, 26, rfl, by decide, in_Mo, rfl, Or.inl (mg_in 661 (by decide +kernel) (by decide +kernel))⟩
theorem f_Mo_31 : mg_F "LinkedMarkersModel" 31 6 12 := ⟨R_Mo, T_Mo, 26, rfl, by decide, in_Mo, rfl, Or.inl (mg_in 667 (by decide +kernel) (by decide +kernel))⟩
theorem g_Mo_122 : mg_CV "LinkedMarkersModel" 122 y_Mo_originOf b_Mo_originOf 7 (some .int) 3 := ⟨Or.inl (mg_in 806 (by decide +kernel) (by decide +kernel)), (mg_in 808 (by decide +kernel) (by decide +kernel)), (mg_in 19 (by decide +kernel) (by decide +kernel)), (mg_in 40 (by decide +kernel) (by decide +kernel)), (mg_in 809 (by decide +kernel) (by decide +kernel)), by decide, by decide, by decide +kernel⟩
end
section
theorem d_Mo_thrown_0 : decode b_Mo_thrown 0 = .ok (.aload_n 0, 1) := by decide +kernel
theorem d_Mo_thrown_1 : decode b_Mo_thrown 1 = .ok (.getfield 76, 3) := by decide +kernel
theorem d_Mo_thrown_4 : decode b_Mo_thrown 4 = .ok (.ireturn, 1) := by decide +kernel
theorem d_Mo_refused_0 : decode b_Mo_refused 0 = .ok (.aload_n 0, 1) := by decide +kernel
theorem d_Mo_refused_1 : decode b_Mo_refused 1 = .ok (.iload_n 1, 1) := by decide +kernel
theorem d_Mo_refused_2 : decode b_Mo_refused 2 = .ok (.putfield 76, 3) := by decide +kernel
theorem d_Mo_refused_5 : decode b_Mo_refused 5 = .ok (.iload_n 1, 1) := by decide +kernel
theorem d_Mo_refused_6 : decode b_Mo_refused 6 = .ok (.ifCond .le 7, 3) := by decide +kernel
theorem d_Mo_refused_9 : decode b_Mo_refused 9 = .ok (.iconst 1, 1) := by decide +kernel
theorem d_Mo_refused_10 : decode b_Mo_refused 10 = .ok (.goto 4, 3) := by decide +kernel
theorem d_Mo_refused_13 : decode b_Mo_refused 13 = .ok (.iconst 0, 1) := by decide +kernel
theorem d_Mo_refused_14 : decode b_Mo_refused 14 = .ok (.ireturn, 1) := by decide +kernel
theorem d_Mo_isAnySeen_0 : decode b_Mo_isAnySeen 0 = .ok (.iconst 0, 1) := by decide +kernel
theorem d_Mo_isAnySeen_1 : decode b_Mo_isAnySeen 1 = .ok (.istore_n 1, 1) := by decide +kernel
theorem d_Mo_isAnySeen_2 : decode b_Mo_isAnySeen 2 = .ok (.iconst 0, 1) := by decide +kernel
theorem d_Mo_isAnySeen_3 : decode b_Mo_isAnySeen 3 = .ok (.istore_n 2, 1) := by decide +kernel
theorem d_Mo_isAnySeen_4 : decode b_Mo_isAnySeen 4 = .ok (.iload_n 2, 1) := by decide +kernel
theorem d_Mo_isAnySeen_5 : decode b_Mo_isAnySeen 5 = .ok (.bipush 24, 2) := by decide +kernel
theorem d_Mo_isAnySeen_7 : decode b_Mo_isAnySeen 7 = .ok (.if_icmp .ge 28, 3) := by decide +kernel
theorem d_Mo_isAnySeen_10 : decode b_Mo_isAnySeen 10 = .ok (.iload_n 1, 1) := by decide +kernel
theorem d_Mo_isAnySeen_11 : decode b_Mo_isAnySeen 11 = .ok (.ifCond .ne 12, 3) := by decide +kernel
theorem d_Mo_isAnySeen_14 : decode b_Mo_isAnySeen 14 = .ok (.aload_n 0, 1) := by decide +kernel
theorem d_Mo_isAnySeen_15 : decode b_Mo_isAnySeen 15 = .ok (.getfield 28, 3) := by decide +kernel
theorem d_Mo_isAnySeen_18 : decode b_Mo_isAnySeen 18 = .ok (.iload_n 2, 1) := by decide +kernel
theorem d_Mo_isAnySeen_19 : decode b_Mo_isAnySeen 19 = .ok (.iaload, 1) := by decide +kernel
theorem d_Mo_isAnySeen_20 : decode b_Mo_isAnySeen 20 = .ok (.ifCond .le 7, 3) := by decide +kernel
theorem d_Mo_isAnySeen_23 : decode b_Mo_isAnySeen 23 = .ok (.iconst 1, 1) := by decide +kernel
theorem d_Mo_isAnySeen_24 : decode b_Mo_isAnySeen 24 = .ok (.goto 4, 3) := by decide +kernel
theorem d_Mo_isAnySeen_27 : decode b_Mo_isAnySeen 27 = .ok (.iconst 0, 1) := by decide +kernel
theorem d_Mo_isAnySeen_28 : decode b_Mo_isAnySeen 28 = .ok (.istore_n 1, 1) := by decide +kernel
theorem d_Mo_isAnySeen_29 : decode b_Mo_isAnySeen 29 = .ok (.iinc 2 1, 3) := by decide +kernel
theorem d_Mo_isAnySeen_32 : decode b_Mo_isAnySeen 32 = .ok (.goto (-28), 3) := by decide +kernel
theorem d_Mo_isAnySeen_35 : decode b_Mo_isAnySeen 35 = .ok (.iload_n 1, 1) := by decide +kernel
theorem d_Mo_isAnySeen_36 : decode b_Mo_isAnySeen 36 = .ok (.ireturn, 1) := by decide +kernel
theorem d_Mo_isPerson_0 : decode b_Mo_isPerson 0 = .ok (.iload_n 1, 1) := by decide +kernel
theorem d_Mo_isPerson_1 : decode b_Mo_isPerson 1 = .ok (.ifCond .lt 15, 3) := by decide +kernel
theorem d_Mo_isPerson_4 : decode b_Mo_isPerson 4 = .ok (.iload_n 1, 1) := by decide +kernel
theorem d_Mo_isPerson_5 : decode b_Mo_isPerson 5 = .ok (.aload_n 0, 1) := by decide +kernel
theorem d_Mo_isPerson_6 : decode b_Mo_isPerson 6 = .ok (.getfield 80, 3) := by decide +kernel
theorem d_Mo_isPerson_9 : decode b_Mo_isPerson 9 = .ok (.if_icmp .ge 7, 3) := by decide +kernel
theorem d_Mo_isPerson_12 : decode b_Mo_isPerson 12 = .ok (.iconst 1, 1) := by decide +kernel
theorem d_Mo_isPerson_13 : decode b_Mo_isPerson 13 = .ok (.goto 4, 3) := by decide +kernel
theorem d_Mo_isPerson_16 : decode b_Mo_isPerson 16 = .ok (.iconst 0, 1) := by decide +kernel
theorem d_Mo_isPerson_17 : decode b_Mo_isPerson 17 = .ok (.ireturn, 1) := by decide +kernel
theorem d_Mo_isMarker_0 : decode b_Mo_isMarker 0 = .ok (.iload_n 1, 1) := by decide +kernel
theorem d_Mo_isMarker_1 : decode b_Mo_isMarker 1 = .ok (.ifCond .lt 15, 3) := by decide +kernel
theorem d_Mo_isMarker_4 : decode b_Mo_isMarker 4 = .ok (.iload_n 1, 1) := by decide +kernel
theorem d_Mo_isMarker_5 : decode b_Mo_isMarker 5 = .ok (.aload_n 0, 1) := by decide +kernel
theorem d_Mo_isMarker_6 : decode b_Mo_isMarker 6 = .ok (.getfield 83, 3) := by decide +kernel
theorem d_Mo_isMarker_9 : decode b_Mo_isMarker 9 = .ok (.if_icmp .ge 7, 3) := by decide +kernel
theorem d_Mo_isMarker_12 : decode b_Mo_isMarker 12 = .ok (.iconst 1, 1) := by decide +kernel
theorem d_Mo_isMarker_13 : decode b_Mo_isMarker 13 = .ok (.goto 4, 3) := by decide +kernel
theorem d_Mo_isMarker_16 : decode b_Mo_isMarker 16 = .ok (.iconst 0, 1) := by decide +kernel
theorem d_Mo_isMarker_17 : decode b_Mo_isMarker 17 = .ok (.ireturn, 1) := by decide +kernel
theorem d_Mo_isGap_0 : decode b_Mo_isGap 0 = .ok (.iload_n 1, 1) := by decide +kernel
theorem d_Mo_isGap_1 : decode b_Mo_isGap 1 = .ok (.ifCond .lt 17, 3) := by decide +kernel
theorem d_Mo_isGap_4 : decode b_Mo_isGap 4 = .ok (.iload_n 1, 1) := by decide +kernel
theorem d_Mo_isGap_5 : decode b_Mo_isGap 5 = .ok (.aload_n 0, 1) := by decide +kernel
theorem d_Mo_isGap_6 : decode b_Mo_isGap 6 = .ok (.getfield 83, 3) := by decide +kernel
theorem d_Mo_isGap_9 : decode b_Mo_isGap 9 = .ok (.iconst 1, 1) := by decide +kernel
theorem d_Mo_isGap_10 : decode b_Mo_isGap 10 = .ok (.isub, 1) := by decide +kernel
theorem d_Mo_isGap_11 : decode b_Mo_isGap 11 = .ok (.if_icmp .ge 7, 3) := by decide +kernel
theorem d_Mo_isGap_14 : decode b_Mo_isGap 14 = .ok (.iconst 1, 1) := by decide +kernel
theorem d_Mo_isGap_15 : decode b_Mo_isGap 15 = .ok (.goto 4, 3) := by decide +kernel
theorem d_Mo_isGap_18 : decode b_Mo_isGap 18 = .ok (.iconst 0, 1) := by decide +kernel
theorem d_Mo_isGap_19 : decode b_Mo_isGap 19 = .ok (.ireturn, 1) := by decide +kernel
theorem d_Mo_forget_0 : decode b_Mo_forget 0 = .ok (.iconst 0, 1) := by decide +kernel
theorem d_Mo_forget_1 : decode b_Mo_forget 1 = .ok (.istore_n 1, 1) := by decide +kernel
theorem d_Mo_forget_2 : decode b_Mo_forget 2 = .ok (.iload_n 1, 1) := by decide +kernel
theorem d_Mo_forget_3 : decode b_Mo_forget 3 = .ok (.iconst 4, 1) := by decide +kernel
theorem d_Mo_forget_4 : decode b_Mo_forget 4 = .ok (.if_icmp .ge 16, 3) := by decide +kernel
theorem d_Mo_forget_7 : decode b_Mo_forget 7 = .ok (.aload_n 0, 1) := by decide +kernel
theorem d_Mo_forget_8 : decode b_Mo_forget 8 = .ok (.getfield 34, 3) := by decide +kernel
theorem d_Mo_forget_11 : decode b_Mo_forget 11 = .ok (.iload_n 1, 1) := by decide +kernel
theorem d_Mo_forget_12 : decode b_Mo_forget 12 = .ok (.iconst 0, 1) := by decide +kernel
theorem d_Mo_forget_13 : decode b_Mo_forget 13 = .ok (.bastore, 1) := by decide +kernel
theorem d_Mo_forget_14 : decode b_Mo_forget 14 = .ok (.iinc 1 1, 3) := by decide +kernel
theorem d_Mo_forget_17 : decode b_Mo_forget 17 = .ok (.goto (-15), 3) := by decide +kernel
theorem d_Mo_forget_20 : decode b_Mo_forget 20 = .ok (.return_, 1) := by decide +kernel
theorem d_Mo_ways_0 : decode b_Mo_ways 0 = .ok (.iconst 1, 1) := by decide +kernel
theorem d_Mo_ways_1 : decode b_Mo_ways 1 = .ok (.iconst 2, 1) := by decide +kernel
theorem d_Mo_ways_2 : decode b_Mo_ways 2 = .ok (.aload_n 0, 1) := by decide +kernel
theorem d_Mo_ways_3 : decode b_Mo_ways 3 = .ok (.getfield 86, 3) := by decide +kernel
theorem d_Mo_ways_6 : decode b_Mo_ways 6 = .ok (.imul, 1) := by decide +kernel
theorem d_Mo_ways_7 : decode b_Mo_ways 7 = .ok (.ishl, 1) := by decide +kernel
theorem d_Mo_ways_8 : decode b_Mo_ways 8 = .ok (.ireturn, 1) := by decide +kernel
theorem d_Mo_isWay_0 : decode b_Mo_isWay 0 = .ok (.iload_n 1, 1) := by decide +kernel
theorem d_Mo_isWay_1 : decode b_Mo_isWay 1 = .ok (.ifCond .lt 15, 3) := by decide +kernel
theorem d_Mo_isWay_4 : decode b_Mo_isWay 4 = .ok (.iload_n 1, 1) := by decide +kernel
theorem d_Mo_isWay_5 : decode b_Mo_isWay 5 = .ok (.aload_n 0, 1) := by decide +kernel
theorem d_Mo_isWay_6 : decode b_Mo_isWay 6 = .ok (.invokevirtual 115, 3) := by decide +kernel
theorem d_Mo_isWay_9 : decode b_Mo_isWay 9 = .ok (.if_icmp .ge 7, 3) := by decide +kernel
theorem d_Mo_isWay_12 : decode b_Mo_isWay 12 = .ok (.iconst 1, 1) := by decide +kernel
theorem d_Mo_isWay_13 : decode b_Mo_isWay 13 = .ok (.goto 4, 3) := by decide +kernel
theorem d_Mo_isWay_16 : decode b_Mo_isWay 16 = .ok (.iconst 0, 1) := by decide +kernel
theorem d_Mo_isWay_17 : decode b_Mo_isWay 17 = .ok (.ireturn, 1) := by decide +kernel
theorem d_Mo_originOf_0 : decode b_Mo_originOf 0 = .ok (.iload_n 1, 1) := by decide +kernel
theorem d_Mo_originOf_1 : decode b_Mo_originOf 1 = .ok (.istore 4, 2) := by decide +kernel
theorem d_Mo_originOf_3 : decode b_Mo_originOf 3 = .ok (.iload_n 2, 1) := by decide +kernel
theorem d_Mo_originOf_4 : decode b_Mo_originOf 4 = .ok (.istore 5, 2) := by decide +kernel
theorem d_Mo_originOf_6 : decode b_Mo_originOf 6 = .ok (.aload_n 0, 1) := by decide +kernel
theorem d_Mo_originOf_7 : decode b_Mo_originOf 7 = .ok (.getfield 13, 3) := by decide +kernel
theorem d_Mo_originOf_10 : decode b_Mo_originOf 10 = .ok (.iload 4, 2) := by decide +kernel
theorem d_Mo_originOf_12 : decode b_Mo_originOf 12 = .ok (.iaload, 1) := by decide +kernel
theorem d_Mo_originOf_13 : decode b_Mo_originOf 13 = .ok (.ifCond .lt 52, 3) := by decide +kernel
theorem d_Mo_originOf_16 : decode b_Mo_originOf 16 = .ok (.iload_n 3, 1) := by decide +kernel
theorem d_Mo_originOf_17 : decode b_Mo_originOf 17 = .ok (.iconst 2, 1) := by decide +kernel
theorem d_Mo_originOf_18 : decode b_Mo_originOf 18 = .ok (.aload_n 0, 1) := by decide +kernel
theorem d_Mo_originOf_19 : decode b_Mo_originOf 19 = .ok (.getfield 7, 3) := by decide +kernel
theorem d_Mo_originOf_22 : decode b_Mo_originOf 22 = .ok (.iload 4, 2) := by decide +kernel
theorem d_Mo_originOf_24 : decode b_Mo_originOf 24 = .ok (.iaload, 1) := by decide +kernel
theorem d_Mo_originOf_25 : decode b_Mo_originOf 25 = .ok (.imul, 1) := by decide +kernel
theorem d_Mo_originOf_26 : decode b_Mo_originOf 26 = .ok (.iload 5, 2) := by decide +kernel
theorem d_Mo_originOf_28 : decode b_Mo_originOf 28 = .ok (.iadd, 1) := by decide +kernel
theorem d_Mo_originOf_29 : decode b_Mo_originOf 29 = .ok (.ishr, 1) := by decide +kernel
theorem d_Mo_originOf_30 : decode b_Mo_originOf 30 = .ok (.iconst 1, 1) := by decide +kernel
theorem d_Mo_originOf_31 : decode b_Mo_originOf 31 = .ok (.iand, 1) := by decide +kernel
theorem d_Mo_originOf_32 : decode b_Mo_originOf 32 = .ok (.istore 6, 2) := by decide +kernel
theorem d_Mo_originOf_34 : decode b_Mo_originOf 34 = .ok (.iload 5, 2) := by decide +kernel
theorem d_Mo_originOf_36 : decode b_Mo_originOf 36 = .ok (.ifCond .ne 13, 3) := by decide +kernel
theorem d_Mo_originOf_39 : decode b_Mo_originOf 39 = .ok (.aload_n 0, 1) := by decide +kernel
theorem d_Mo_originOf_40 : decode b_Mo_originOf 40 = .ok (.getfield 13, 3) := by decide +kernel
theorem d_Mo_originOf_43 : decode b_Mo_originOf 43 = .ok (.iload 4, 2) := by decide +kernel
theorem d_Mo_originOf_45 : decode b_Mo_originOf 45 = .ok (.iaload, 1) := by decide +kernel
theorem d_Mo_originOf_46 : decode b_Mo_originOf 46 = .ok (.goto 10, 3) := by decide +kernel
theorem d_Mo_originOf_49 : decode b_Mo_originOf 49 = .ok (.aload_n 0, 1) := by decide +kernel
theorem d_Mo_originOf_50 : decode b_Mo_originOf 50 = .ok (.getfield 16, 3) := by decide +kernel
theorem d_Mo_originOf_53 : decode b_Mo_originOf 53 = .ok (.iload 4, 2) := by decide +kernel
theorem d_Mo_originOf_55 : decode b_Mo_originOf 55 = .ok (.iaload, 1) := by decide +kernel
theorem d_Mo_originOf_56 : decode b_Mo_originOf 56 = .ok (.istore 4, 2) := by decide +kernel
theorem d_Mo_originOf_58 : decode b_Mo_originOf 58 = .ok (.iload 6, 2) := by decide +kernel
theorem d_Mo_originOf_60 : decode b_Mo_originOf 60 = .ok (.istore 5, 2) := by decide +kernel
theorem d_Mo_originOf_62 : decode b_Mo_originOf 62 = .ok (.goto (-56), 3) := by decide +kernel
theorem d_Mo_originOf_65 : decode b_Mo_originOf 65 = .ok (.iconst 2, 1) := by decide +kernel
theorem d_Mo_originOf_66 : decode b_Mo_originOf 66 = .ok (.aload_n 0, 1) := by decide +kernel
theorem d_Mo_originOf_67 : decode b_Mo_originOf 67 = .ok (.getfield 7, 3) := by decide +kernel
theorem d_Mo_originOf_70 : decode b_Mo_originOf 70 = .ok (.iload 4, 2) := by decide +kernel
theorem d_Mo_originOf_72 : decode b_Mo_originOf 72 = .ok (.iaload, 1) := by decide +kernel
theorem d_Mo_originOf_73 : decode b_Mo_originOf 73 = .ok (.imul, 1) := by decide +kernel
theorem d_Mo_originOf_74 : decode b_Mo_originOf 74 = .ok (.iload 5, 2) := by decide +kernel
theorem d_Mo_originOf_76 : decode b_Mo_originOf 76 = .ok (.iadd, 1) := by decide +kernel
theorem d_Mo_originOf_77 : decode b_Mo_originOf 77 = .ok (.ireturn, 1) := by decide +kernel
theorem d_Mo_isSo_0 : decode b_Mo_isSo 0 = .ok (.iconst 1, 1) := by decide +kernel
theorem d_Mo_isSo_1 : decode b_Mo_isSo 1 = .ok (.istore_n 3, 1) := by decide +kernel
theorem d_Mo_isSo_2 : decode b_Mo_isSo 2 = .ok (.iconst 0, 1) := by decide +kernel
theorem d_Mo_isSo_3 : decode b_Mo_isSo 3 = .ok (.istore 4, 2) := by decide +kernel
theorem d_Mo_isSo_5 : decode b_Mo_isSo 5 = .ok (.iload 4, 2) := by decide +kernel
theorem d_Mo_isSo_7 : decode b_Mo_isSo 7 = .ok (.aload_n 0, 1) := by decide +kernel
theorem d_Mo_isSo_8 : decode b_Mo_isSo 8 = .ok (.getfield 80, 3) := by decide +kernel
theorem d_Mo_isSo_11 : decode b_Mo_isSo 11 = .ok (.if_icmp .ge 98, 3) := by decide +kernel
theorem d_Mo_isSo_14 : decode b_Mo_isSo 14 = .ok (.iload_n 3, 1) := by decide +kernel
theorem d_Mo_isSo_15 : decode b_Mo_isSo 15 = .ok (.ifCond .eq 94, 3) := by decide +kernel
theorem d_Mo_isSo_18 : decode b_Mo_isSo 18 = .ok (.aload_n 0, 1) := by decide +kernel
theorem d_Mo_isSo_19 : decode b_Mo_isSo 19 = .ok (.getfield 28, 3) := by decide +kernel
theorem d_Mo_isSo_22 : decode b_Mo_isSo 22 = .ok (.iconst 4, 1) := by decide +kernel
theorem d_Mo_isSo_23 : decode b_Mo_isSo 23 = .ok (.iload 4, 2) := by decide +kernel
theorem d_Mo_isSo_25 : decode b_Mo_isSo 25 = .ok (.imul, 1) := by decide +kernel
theorem d_Mo_isSo_26 : decode b_Mo_isSo 26 = .ok (.iload_n 1, 1) := by decide +kernel
theorem d_Mo_isSo_27 : decode b_Mo_isSo 27 = .ok (.iadd, 1) := by decide +kernel
theorem d_Mo_isSo_28 : decode b_Mo_isSo 28 = .ok (.iaload, 1) := by decide +kernel
theorem d_Mo_isSo_29 : decode b_Mo_isSo 29 = .ok (.istore 5, 2) := by decide +kernel
theorem d_Mo_isSo_31 : decode b_Mo_isSo 31 = .ok (.iload 5, 2) := by decide +kernel
theorem d_Mo_isSo_33 : decode b_Mo_isSo 33 = .ok (.ifCond .le 70, 3) := by decide +kernel
theorem d_Mo_isSo_36 : decode b_Mo_isSo 36 = .ok (.aload_n 0, 1) := by decide +kernel
theorem d_Mo_isSo_37 : decode b_Mo_isSo 37 = .ok (.getfield 31, 3) := by decide +kernel
theorem d_Mo_isSo_40 : decode b_Mo_isSo 40 = .ok (.aload_n 0, 1) := by decide +kernel
theorem d_Mo_isSo_41 : decode b_Mo_isSo 41 = .ok (.iload 4, 2) := by decide +kernel
theorem d_Mo_isSo_43 : decode b_Mo_isSo 43 = .ok (.iconst 0, 1) := by decide +kernel
theorem d_Mo_isSo_44 : decode b_Mo_isSo 44 = .ok (.iload_n 2, 1) := by decide +kernel
theorem d_Mo_isSo_45 : decode b_Mo_isSo 45 = .ok (.invokevirtual 122, 3) := by decide +kernel
theorem d_Mo_isSo_48 : decode b_Mo_isSo 48 = .ok (.iaload, 1) := by decide +kernel
theorem d_Mo_isSo_49 : decode b_Mo_isSo 49 = .ok (.istore 6, 2) := by decide +kernel
theorem d_Mo_isSo_51 : decode b_Mo_isSo 51 = .ok (.aload_n 0, 1) := by decide +kernel
theorem d_Mo_isSo_52 : decode b_Mo_isSo 52 = .ok (.getfield 31, 3) := by decide +kernel
theorem d_Mo_isSo_55 : decode b_Mo_isSo 55 = .ok (.aload_n 0, 1) := by decide +kernel
theorem d_Mo_isSo_56 : decode b_Mo_isSo 56 = .ok (.iload 4, 2) := by decide +kernel
theorem d_Mo_isSo_58 : decode b_Mo_isSo 58 = .ok (.iconst 1, 1) := by decide +kernel
theorem d_Mo_isSo_59 : decode b_Mo_isSo 59 = .ok (.iload_n 2, 1) := by decide +kernel
theorem d_Mo_isSo_60 : decode b_Mo_isSo 60 = .ok (.invokevirtual 122, 3) := by decide +kernel
theorem d_Mo_isSo_63 : decode b_Mo_isSo 63 = .ok (.iaload, 1) := by decide +kernel
theorem d_Mo_isSo_64 : decode b_Mo_isSo 64 = .ok (.istore 7, 2) := by decide +kernel
theorem d_Mo_isSo_66 : decode b_Mo_isSo 66 = .ok (.iload 6, 2) := by decide +kernel
theorem d_Mo_isSo_68 : decode b_Mo_isSo 68 = .ok (.iload 7, 2) := by decide +kernel
theorem d_Mo_isSo_70 : decode b_Mo_isSo 70 = .ok (.if_icmp .ge 14, 3) := by decide +kernel
theorem d_Mo_isSo_73 : decode b_Mo_isSo 73 = .ok (.bipush 10, 2) := by decide +kernel
theorem d_Mo_isSo_75 : decode b_Mo_isSo 75 = .ok (.iload 6, 2) := by decide +kernel
theorem d_Mo_isSo_77 : decode b_Mo_isSo 77 = .ok (.imul, 1) := by decide +kernel
theorem d_Mo_isSo_78 : decode b_Mo_isSo 78 = .ok (.iload 7, 2) := by decide +kernel
theorem d_Mo_isSo_80 : decode b_Mo_isSo 80 = .ok (.iadd, 1) := by decide +kernel
theorem d_Mo_isSo_81 : decode b_Mo_isSo 81 = .ok (.goto 11, 3) := by decide +kernel
theorem d_Mo_isSo_84 : decode b_Mo_isSo 84 = .ok (.bipush 10, 2) := by decide +kernel
theorem d_Mo_isSo_86 : decode b_Mo_isSo 86 = .ok (.iload 7, 2) := by decide +kernel
theorem d_Mo_isSo_88 : decode b_Mo_isSo 88 = .ok (.imul, 1) := by decide +kernel
theorem d_Mo_isSo_89 : decode b_Mo_isSo 89 = .ok (.iload 6, 2) := by decide +kernel
theorem d_Mo_isSo_91 : decode b_Mo_isSo 91 = .ok (.iadd, 1) := by decide +kernel
theorem d_Mo_isSo_92 : decode b_Mo_isSo 92 = .ok (.iload 5, 2) := by decide +kernel
theorem d_Mo_isSo_94 : decode b_Mo_isSo 94 = .ok (.if_icmp .ne 7, 3) := by decide +kernel
theorem d_Mo_isSo_97 : decode b_Mo_isSo 97 = .ok (.iconst 1, 1) := by decide +kernel
theorem d_Mo_isSo_98 : decode b_Mo_isSo 98 = .ok (.goto 4, 3) := by decide +kernel
theorem d_Mo_isSo_101 : decode b_Mo_isSo 101 = .ok (.iconst 0, 1) := by decide +kernel
theorem d_Mo_isSo_102 : decode b_Mo_isSo 102 = .ok (.istore_n 3, 1) := by decide +kernel
theorem d_Mo_isSo_103 : decode b_Mo_isSo 103 = .ok (.iinc 4 1, 3) := by decide +kernel
theorem d_Mo_isSo_106 : decode b_Mo_isSo 106 = .ok (.goto (-101), 3) := by decide +kernel
theorem d_Mo_isSo_109 : decode b_Mo_isSo 109 = .ok (.iload_n 3, 1) := by decide +kernel
theorem d_Mo_isSo_110 : decode b_Mo_isSo 110 = .ok (.ireturn, 1) := by decide +kernel
end
section
set_option maxRecDepth 100000 in
set_option maxHeartbeats 4000000 in
theorem k_Mo_thrown (l : Launch) (D : va_G) (K : Nat → ClassId) (mh : Nat) (qor : Nat) (qfa : Nat) (qmo : Nat) (qwt : Nat) (qrt : Nat) (qnw : Nat) (qsn : Nat) (qlt : Nat) (qkn : Nat) (qft : Nat) (qbf : Nat) (qbh : Nat) (qjt : Nat) (qot : Nat) (qsm : Nat) (qpt : Nat) (qpr : Nat) (qch : Nat) (qbt : Nat) (qpg : Nat) (flt : Nat) (np : Nat) (nf : Nat) (nc : Nat) (nm : Nat) (wr : Nat)  : mg_Mi l D K y_Mo_thrown b_Mo_thrown 1 (.int) ({ frames := 0, cells := 0, slots := 0, locals := 0 }) [.ref (mh)] [mg_ob mh 6 [.int (nI (flt)), .int (nI (np)), .int (nI (nf)), .int (nI (nc)), .ref (qor), .ref (qfa), .ref (qmo), .int (nI (nm)), .ref (qwt), .ref (qrt), .ref (qnw), .ref (qsn), .ref (qlt), .ref (qkn), .ref (qft), .ref (qbf), .ref (qbh), .ref (qjt), .ref (qot), .ref (qsm), .ref (qpt), .ref (qpr), .ref (qch), .ref (qbt), .int (nI (wr)), .ref (qpg)]] (fun (r : Int32) (_ : Unit) => r = nI (flt)) (fun (_ : Unit) => [mg_ob mh 6 [.int (nI (flt)), .int (nI (np)), .int (nI (nf)), .int (nI (nc)), .ref (qor), .ref (qfa), .ref (qmo), .int (nI (nm)), .ref (qwt), .ref (qrt), .ref (qnw), .ref (qsn), .ref (qlt), .ref (qkn), .ref (qft), .ref (qbf), .ref (qbh), .ref (qjt), .ref (qot), .ref (qsm), .ref (qpt), .ref (qpr), .ref (qch), .ref (qbt), .int (nI (wr)), .ref (qpg)]]) := by
  intro sz
  refine mg_entry (Qc := fun A => va_Qi (fun (r : Int32) (_ : Unit) => r = nI (flt)) (mg_B D A (fun (_ : Unit) => [mg_ob mh 6 [.int (nI (flt)), .int (nI (np)), .int (nI (nf)), .int (nI (nc)), .ref (qor), .ref (qfa), .ref (qmo), .int (nI (nm)), .ref (qwt), .ref (qrt), .ref (qnw), .ref (qsn), .ref (qlt), .ref (qkn), .ref (qft), .ref (qbf), .ref (qbh), .ref (qjt), .ref (qot), .ref (qsm), .ref (qpt), .ref (qpr), .ref (qch), .ref (qbt), .int (nI (wr)), .ref (qpg)]])) A) (by decide) (Nat.le_of_ble_eq_true rfl) ?_
  intro p e s m args below meth c A ls X hr hlk hnm hA hK hw hl
  have hl : lv_has ls 1 [(0, .ref (mh))] := hl
  refine mg_aload_n X 1 d_Mo_thrown_0 (lv_at hl 0 rfl) rfl ?_
  refine mg_get X hK hw 4 0 0 f_Mo_76 rfl rfl d_Mo_thrown_1 rfl ?_
  exact mg_iret X hr hlk (rfl) (()) (rfl) hw d_Mo_thrown_4

set_option maxRecDepth 100000 in
set_option maxHeartbeats 4000000 in
theorem k_Mo_refused (l : Launch) (D : va_G) (K : Nat → ClassId) (mh : Nat) (qor : Nat) (qfa : Nat) (qmo : Nat) (qwt : Nat) (qrt : Nat) (qnw : Nat) (qsn : Nat) (qlt : Nat) (qkn : Nat) (qft : Nat) (qbf : Nat) (qbh : Nat) (qjt : Nat) (qot : Nat) (qsm : Nat) (qpt : Nat) (qpr : Nat) (qch : Nat) (qbt : Nat) (qpg : Nat) (flt : Nat) (np : Nat) (nf : Nat) (nc : Nat) (nm : Nat) (wr : Nat) (wh : Nat) (hwh : wh < 3) : mg_Mi l D K y_Mo_refused b_Mo_refused 2 (.boolean) ({ frames := 0, cells := 0, slots := 0, locals := 0 }) [.ref (mh), .int (nI (wh))] [mg_ob mh 6 [.int (nI (flt)), .int (nI (np)), .int (nI (nf)), .int (nI (nc)), .ref (qor), .ref (qfa), .ref (qmo), .int (nI (nm)), .ref (qwt), .ref (qrt), .ref (qnw), .ref (qsn), .ref (qlt), .ref (qkn), .ref (qft), .ref (qbf), .ref (qbh), .ref (qjt), .ref (qot), .ref (qsm), .ref (qpt), .ref (qpr), .ref (qch), .ref (qbt), .int (nI (wr)), .ref (qpg)]] (fun (r : Int32) (_ : Unit) => r = nI (ft_c (0 < wh))) (fun (_ : Unit) => [mg_ob mh 6 [.int (nI (wh)), .int (nI (np)), .int (nI (nf)), .int (nI (nc)), .ref (qor), .ref (qfa), .ref (qmo), .int (nI (nm)), .ref (qwt), .ref (qrt), .ref (qnw), .ref (qsn), .ref (qlt), .ref (qkn), .ref (qft), .ref (qbf), .ref (qbh), .ref (qjt), .ref (qot), .ref (qsm), .ref (qpt), .ref (qpr), .ref (qch), .ref (qbt), .int (nI (wr)), .ref (qpg)]]) := by
  intro sz
  refine mg_entry (Qc := fun A => va_Qi (fun (r : Int32) (_ : Unit) => r = nI (ft_c (0 < wh))) (mg_B D A (fun (_ : Unit) => [mg_ob mh 6 [.int (nI (wh)), .int (nI (np)), .int (nI (nf)), .int (nI (nc)), .ref (qor), .ref (qfa), .ref (qmo), .int (nI (nm)), .ref (qwt), .ref (qrt), .ref (qnw), .ref (qsn), .ref (qlt), .ref (qkn), .ref (qft), .ref (qbf), .ref (qbh), .ref (qjt), .ref (qot), .ref (qsm), .ref (qpt), .ref (qpr), .ref (qch), .ref (qbt), .int (nI (wr)), .ref (qpg)]])) A) (by decide) (Nat.le_of_ble_eq_true rfl) ?_
  intro p e s m args below meth c A ls X hr hlk hnm hA hK hw hl
  have hl : lv_has ls 2 [(0, .ref (mh)), (1, .int (nI (wh)))] := hl
  refine mg_aload_n X 1 d_Mo_refused_0 (lv_at hl 0 rfl) rfl ?_
  refine mg_iload_n X 2 d_Mo_refused_1 (lv_at hl 1 rfl) rfl ?_
  refine mg_put X hK hw 5 0 0 [mg_ob mh 6 [.int (nI (wh)), .int (nI (np)), .int (nI (nf)), .int (nI (nc)), .ref (qor), .ref (qfa), .ref (qmo), .int (nI (nm)), .ref (qwt), .ref (qrt), .ref (qnw), .ref (qsn), .ref (qlt), .ref (qkn), .ref (qft), .ref (qbf), .ref (qbh), .ref (qjt), .ref (qot), .ref (qsm), .ref (qpt), .ref (qpr), .ref (qch), .ref (qbt), .int (nI (wr)), .ref (qpg)]] fp_Mo_76 rfl (Nat.le_of_ble_eq_true rfl) rfl rfl d_Mo_refused_2 rfl rfl (fun H locs hw => ?_)
  refine mg_iload_n X 6 d_Mo_refused_5 (lv_at hl 1 rfl) rfl ?_
  refine mg_if_le X 13 9 (by omega) d_Mo_refused_6 (by decide) rfl (fun hb => ?_) (fun hb => ?_)
  · -- pc 6 t
    refine mg_iconst X 14 0 d_Mo_refused_13 mg_ci_0 rfl ?_
    exact mg_iret X hr hlk (mg_nz (by omega)) (()) (by rw [ft_c0 (by omega)]) hw d_Mo_refused_14
  · -- pc 6 f
    refine mg_iconst X 10 1 d_Mo_refused_9 mg_ci_1 rfl ?_
    refine mg_goto X 14 d_Mo_refused_10 (by decide) ?_
    exact mg_iret X hr hlk (mg_nz (by omega)) (()) (by rw [ft_c1 hb]) hw d_Mo_refused_14

set_option maxRecDepth 100000 in
set_option maxHeartbeats 4000000 in
theorem k_Mo_isAnySeen (l : Launch) (D : va_G) (K : Nat → ClassId) (mh : Nat) (qor : Nat) (qfa : Nat) (qmo : Nat) (qwt : Nat) (qrt : Nat) (qnw : Nat) (qsn : Nat) (qlt : Nat) (qkn : Nat) (qft : Nat) (qbf : Nat) (qbh : Nat) (qjt : Nat) (qot : Nat) (qsm : Nat) (qpt : Nat) (qpr : Nat) (qch : Nat) (qbt : Nat) (qpg : Nat) (flt : Nat) (np : Nat) (nf : Nat) (nc : Nat) (nm : Nat) (wr : Nat) (sn : Nat → Nat) (hsn : ∀ k, k < 24 → sn k ≤ 33) : mg_Mi l D K y_Mo_isAnySeen b_Mo_isAnySeen 3 (.boolean) ({ frames := 0, cells := 0, slots := 0, locals := 0 }) [.ref (mh)] [mg_ob mh 6 [.int (nI (flt)), .int (nI (np)), .int (nI (nf)), .int (nI (nc)), .ref (qor), .ref (qfa), .ref (qmo), .int (nI (nm)), .ref (qwt), .ref (qrt), .ref (qnw), .ref (qsn), .ref (qlt), .ref (qkn), .ref (qft), .ref (qbf), .ref (qbh), .ref (qjt), .ref (qot), .ref (qsm), .ref (qpt), .ref (qpr), .ref (qch), .ref (qbt), .int (nI (wr)), .ref (qpg)], mg_ai K qsn 24 sn] (fun (r : Int32) (_ : Unit) => r = nI (ft_c (∃ j, j < 24 ∧ 0 < sn j))) (fun (_ : Unit) => [mg_ob mh 6 [.int (nI (flt)), .int (nI (np)), .int (nI (nf)), .int (nI (nc)), .ref (qor), .ref (qfa), .ref (qmo), .int (nI (nm)), .ref (qwt), .ref (qrt), .ref (qnw), .ref (qsn), .ref (qlt), .ref (qkn), .ref (qft), .ref (qbf), .ref (qbh), .ref (qjt), .ref (qot), .ref (qsm), .ref (qpt), .ref (qpr), .ref (qch), .ref (qbt), .int (nI (wr)), .ref (qpg)], mg_ai K qsn 24 sn]) := by
  intro sz
  refine mg_entry (Qc := fun A => va_Qi (fun (r : Int32) (_ : Unit) => r = nI (ft_c (∃ j, j < 24 ∧ 0 < sn j))) (mg_B D A (fun (_ : Unit) => [mg_ob mh 6 [.int (nI (flt)), .int (nI (np)), .int (nI (nf)), .int (nI (nc)), .ref (qor), .ref (qfa), .ref (qmo), .int (nI (nm)), .ref (qwt), .ref (qrt), .ref (qnw), .ref (qsn), .ref (qlt), .ref (qkn), .ref (qft), .ref (qbf), .ref (qbh), .ref (qjt), .ref (qot), .ref (qsm), .ref (qpt), .ref (qpr), .ref (qch), .ref (qbt), .int (nI (wr)), .ref (qpg)], mg_ai K qsn 24 sn])) A) (by decide) (Nat.le_of_ble_eq_true rfl) ?_
  intro p e s m args below meth c A ls X hr hlk hnm hA hK hw hl
  have hl : lv_has ls 3 [(0, .ref (mh))] := hl
  refine mg_iconst X 1 0 d_Mo_isAnySeen_0 mg_ci_0 rfl ?_
  refine mg_istore_n X 2 [(1, .int (nI (0))), (0, .ref (mh))] d_Mo_isAnySeen_1 hl (by decide) rfl rfl (fun ls hl => ?_)
  refine mg_iconst X 3 0 d_Mo_isAnySeen_2 mg_ci_0 rfl ?_
  refine mg_istore_n X 4 [(2, .int (nI (0))), (1, .int (nI (0))), (0, .ref (mh))] d_Mo_isAnySeen_3 hl (by decide) rfl rfl (fun ls hl => ?_)
  have L4 : ∀ (n0 : Nat) (k : Nat) (x : Nat), n0 = 24 - k → (x = ft_c (∃ j, j < k ∧ 0 < sn j)) → (k ≤ 24) → ∀ (ls : Array Slot) (H : Heap) (locs : List Loc), lv_has ls 3 [(0, .ref (mh)), (1, .int (nI (x))), (2, .int (nI (k)))] → mg_H D A s.heap H locs [mg_ob mh 6 [.int (nI (flt)), .int (nI (np)), .int (nI (nf)), .int (nI (nc)), .ref (qor), .ref (qfa), .ref (qmo), .int (nI (nm)), .ref (qwt), .ref (qrt), .ref (qnw), .ref (qsn), .ref (qlt), .ref (qkn), .ref (qft), .ref (qbf), .ref (qbh), .ref (qjt), .ref (qot), .ref (qsm), .ref (qpt), .ref (qpr), .ref (qch), .ref (qbt), .int (nI (wr)), .ref (qpg)], mg_ai K qsn 24 sn] → W p l e ({ frames := 0, cells := 0, slots := 0, locals := 0 }) s m args below meth c H locs 0 0 (MQ below (va_Qi (fun (r : Int32) (_ : Unit) => r = nI (ft_c (∃ j, j < 24 ∧ 0 < sn j))) (mg_B D A (fun (_ : Unit) => [mg_ob mh 6 [.int (nI (flt)), .int (nI (np)), .int (nI (nf)), .int (nI (nc)), .ref (qor), .ref (qfa), .ref (qmo), .int (nI (nm)), .ref (qwt), .ref (qrt), .ref (qnw), .ref (qsn), .ref (qlt), .ref (qkn), .ref (qft), .ref (qbf), .ref (qbh), .ref (qjt), .ref (qot), .ref (qsm), .ref (qpt), .ref (qpr), .ref (qch), .ref (qbt), .int (nI (wr)), .ref (qpg)], mg_ai K qsn 24 sn])) A) args s 0 0 A) (F0 m 4 ls []) := by
    intro n0
    induction n0 using Nat.strongRecOn with
    | ind n0 ih4 =>
    intro k x hm4 hx hk ls H locs hl hw
    have hx2 : x < 2 := by rw [hx]; exact mg_ft1 _
    refine mg_iload_n X 5 d_Mo_isAnySeen_4 (lv_at hl 2 rfl) rfl ?_
    refine mg_bipush X 7 24 d_Mo_isAnySeen_5 mg_cb_24 rfl ?_
    refine mg_icmp_ge X 35 10 (by omega) (by omega) d_Mo_isAnySeen_7 (by decide) rfl (fun hb => ?_) (fun hb => ?_)
    · -- pc 7 t
      refine mg_iload_n X 36 d_Mo_isAnySeen_35 (lv_at hl 1 rfl) rfl ?_
      exact mg_iret X hr hlk (mg_nz (by omega)) (()) (by rw [hx, show k = 24 by omega]) hw d_Mo_isAnySeen_36
    · -- pc 7 f
      refine mg_iload_n X 11 d_Mo_isAnySeen_10 (lv_at hl 1 rfl) rfl ?_
      refine mg_if_ne X 23 14 (by omega) d_Mo_isAnySeen_11 (by decide) rfl (fun hn => ?_) (fun hn => ?_)
      · -- pc 11 t
        refine mg_iconst X 24 1 d_Mo_isAnySeen_23 mg_ci_1 rfl ?_
        refine mg_goto X 28 d_Mo_isAnySeen_24 (by decide) ?_
        refine mg_istore_n X 29 [(1, .int (nI (1))), (0, .ref (mh)), (2, .int (nI (k)))] d_Mo_isAnySeen_28 hl (by decide) rfl rfl (fun ls hl => ?_)
        refine mg_iinc X 32 [(2, .int (nI (k + 1))), (1, .int (nI (1))), (0, .ref (mh))] (k + 1) d_Mo_isAnySeen_29 hl (k := 2) rfl (mg_inc1 _) (by decide) rfl rfl (fun ls hl => ?_)
        refine mg_goto X 4 d_Mo_isAnySeen_32 (by decide) ?_
        have hl : lv_has ls 3 [(0, .ref (mh)), (1, .int (nI (1))), (2, .int (nI (k + 1)))] := lv_sub hl [2, 1, 0] rfl
        exact ih4 _ (by omega) (k + 1) 1 rfl (by rw [ft_c1 (show ∃ j, j < (k + 1) ∧ 0 < sn j from Classical.byContradiction (fun q => hn (hx.trans (ft_c0 (fun ⟨j, h1, h2⟩ => q ⟨j, by omega, h2⟩)))))]) (by omega) ls _ _ hl hw
      · -- pc 11 f
        refine mg_aload_n X 15 d_Mo_isAnySeen_14 (lv_at hl 0 rfl) rfl ?_
        refine mg_get X hK hw 18 0 11 f_Mo_28 rfl rfl d_Mo_isAnySeen_15 rfl ?_
        refine mg_iload_n X 19 d_Mo_isAnySeen_18 (lv_at hl 2 rfl) rfl ?_
        refine mg_iald X hK hw 20 1 rfl (by omega) (by omega) d_Mo_isAnySeen_19 rfl ?_
        refine mg_if_le X 27 23 (by have := hsn k (by omega); omega) d_Mo_isAnySeen_20 (by decide) rfl (fun hs => ?_) (fun hs => ?_)
        · -- pc 20 t
          refine mg_iconst X 28 0 d_Mo_isAnySeen_27 mg_ci_0 rfl ?_
          refine mg_istore_n X 29 [(1, .int (nI (0))), (0, .ref (mh)), (2, .int (nI (k)))] d_Mo_isAnySeen_28 hl (by decide) rfl rfl (fun ls hl => ?_)
          refine mg_iinc X 32 [(2, .int (nI (k + 1))), (1, .int (nI (0))), (0, .ref (mh))] (k + 1) d_Mo_isAnySeen_29 hl (k := 2) rfl (mg_inc1 _) (by decide) rfl rfl (fun ls hl => ?_)
          refine mg_goto X 4 d_Mo_isAnySeen_32 (by decide) ?_
          have hl : lv_has ls 3 [(0, .ref (mh)), (1, .int (nI (0))), (2, .int (nI (k + 1)))] := lv_sub hl [2, 1, 0] rfl
          exact ih4 _ (by omega) (k + 1) 0 rfl (by rw [ft_c0 (fun ⟨j, h1, h2⟩ => by rcases (show j < k ∨ j = k by omega) with h3 | h3; exact absurd (hx.trans (ft_c1 (show ∃ j, j < k ∧ 0 < sn j from ⟨j, h3, h2⟩))) (by omega); subst h3; omega)]) (by omega) ls _ _ hl hw
        · -- pc 20 f
          refine mg_iconst X 24 1 d_Mo_isAnySeen_23 mg_ci_1 rfl ?_
          refine mg_goto X 28 d_Mo_isAnySeen_24 (by decide) ?_
          refine mg_istore_n X 29 [(1, .int (nI (1))), (0, .ref (mh)), (2, .int (nI (k)))] d_Mo_isAnySeen_28 hl (by decide) rfl rfl (fun ls hl => ?_)
          refine mg_iinc X 32 [(2, .int (nI (k + 1))), (1, .int (nI (1))), (0, .ref (mh))] (k + 1) d_Mo_isAnySeen_29 hl (k := 2) rfl (mg_inc1 _) (by decide) rfl rfl (fun ls hl => ?_)
          refine mg_goto X 4 d_Mo_isAnySeen_32 (by decide) ?_
          have hl : lv_has ls 3 [(0, .ref (mh)), (1, .int (nI (1))), (2, .int (nI (k + 1)))] := lv_sub hl [2, 1, 0] rfl
          exact ih4 _ (by omega) (k + 1) 1 rfl (by rw [ft_c1 (show ∃ j, j < (k + 1) ∧ 0 < sn j from ⟨k, by omega, hs⟩)]) (by omega) ls _ _ hl hw
  have hl : lv_has ls 3 [(0, .ref (mh)), (1, .int (nI (0))), (2, .int (nI (0)))] := lv_sub hl [2, 1, 0] rfl
  exact L4 _ 0 0 rfl ((ft_c0 (fun ⟨j, h1, _⟩ => by omega)).symm) (by omega) ls _ _ hl hw

set_option maxRecDepth 100000 in
set_option maxHeartbeats 4000000 in
theorem k_Mo_isPerson (l : Launch) (D : va_G) (K : Nat → ClassId) (mh : Nat) (qor : Nat) (qfa : Nat) (qmo : Nat) (qwt : Nat) (qrt : Nat) (qnw : Nat) (qsn : Nat) (qlt : Nat) (qkn : Nat) (qft : Nat) (qbf : Nat) (qbh : Nat) (qjt : Nat) (qot : Nat) (qsm : Nat) (qpt : Nat) (qpr : Nat) (qch : Nat) (qbt : Nat) (qpg : Nat) (flt : Nat) (np : Nat) (nf : Nat) (nc : Nat) (nm : Nat) (wr : Nat) (x : Int32) (hnp : np ≤ 6) : mg_Mi l D K y_Mo_isPerson b_Mo_isPerson 2 (.boolean) ({ frames := 0, cells := 0, slots := 0, locals := 0 }) [.ref (mh), .int (x)] [mg_ob mh 6 [.int (nI (flt)), .int (nI (np)), .int (nI (nf)), .int (nI (nc)), .ref (qor), .ref (qfa), .ref (qmo), .int (nI (nm)), .ref (qwt), .ref (qrt), .ref (qnw), .ref (qsn), .ref (qlt), .ref (qkn), .ref (qft), .ref (qbf), .ref (qbh), .ref (qjt), .ref (qot), .ref (qsm), .ref (qpt), .ref (qpr), .ref (qch), .ref (qbt), .int (nI (wr)), .ref (qpg)]] (fun (r : Int32) (_ : Unit) => r = nI (ft_c (mg_lt x (np)))) (fun (_ : Unit) => [mg_ob mh 6 [.int (nI (flt)), .int (nI (np)), .int (nI (nf)), .int (nI (nc)), .ref (qor), .ref (qfa), .ref (qmo), .int (nI (nm)), .ref (qwt), .ref (qrt), .ref (qnw), .ref (qsn), .ref (qlt), .ref (qkn), .ref (qft), .ref (qbf), .ref (qbh), .ref (qjt), .ref (qot), .ref (qsm), .ref (qpt), .ref (qpr), .ref (qch), .ref (qbt), .int (nI (wr)), .ref (qpg)]]) := by
  intro sz
  refine mg_entry (Qc := fun A => va_Qi (fun (r : Int32) (_ : Unit) => r = nI (ft_c (mg_lt x (np)))) (mg_B D A (fun (_ : Unit) => [mg_ob mh 6 [.int (nI (flt)), .int (nI (np)), .int (nI (nf)), .int (nI (nc)), .ref (qor), .ref (qfa), .ref (qmo), .int (nI (nm)), .ref (qwt), .ref (qrt), .ref (qnw), .ref (qsn), .ref (qlt), .ref (qkn), .ref (qft), .ref (qbf), .ref (qbh), .ref (qjt), .ref (qot), .ref (qsm), .ref (qpt), .ref (qpr), .ref (qch), .ref (qbt), .int (nI (wr)), .ref (qpg)]])) A) (by decide) (Nat.le_of_ble_eq_true rfl) ?_
  intro p e s m args below meth c A ls X hr hlk hnm hA hK hw hl
  have hl : lv_has ls 2 [(0, .ref (mh)), (1, .int (x))] := hl
  refine mg_iload_n X 1 d_Mo_isPerson_0 (lv_at hl 1 rfl) rfl ?_
  refine mg_iflt_r X 16 4 d_Mo_isPerson_1 (by decide) rfl (fun hneg => ?_) (fun j hj ej => ?_)
  · -- pc 1 t
    refine mg_iconst X 17 0 d_Mo_isPerson_16 mg_ci_0 rfl ?_
    exact mg_iret X hr hlk (mg_nz (by omega)) (()) (by rw [ft_c0 (mg_lt_neg hneg (by omega))]) hw d_Mo_isPerson_17
  · -- pc 1 f
    subst ej
    refine mg_iload_n X 5 d_Mo_isPerson_4 (lv_at hl 1 rfl) rfl ?_
    refine mg_aload_n X 6 d_Mo_isPerson_5 (lv_at hl 0 rfl) rfl ?_
    refine mg_get X hK hw 9 0 1 f_Mo_80 rfl rfl d_Mo_isPerson_6 rfl ?_
    refine mg_icmp_ge X 16 12 (by omega) (by omega) d_Mo_isPerson_9 (by decide) rfl (fun hc => ?_) (fun hc => ?_)
    · -- pc 9 t
      refine mg_iconst X 17 0 d_Mo_isPerson_16 mg_ci_0 rfl ?_
      exact mg_iret X hr hlk (mg_nz (by omega)) (()) (by rw [ft_c0 (mg_lt_ge hj (by omega))]) hw d_Mo_isPerson_17
    · -- pc 9 f
      refine mg_iconst X 13 1 d_Mo_isPerson_12 mg_ci_1 rfl ?_
      refine mg_goto X 17 d_Mo_isPerson_13 (by decide) ?_
      exact mg_iret X hr hlk (mg_nz (by omega)) (()) (by rw [ft_c1 (mg_lt_in (by omega))]) hw d_Mo_isPerson_17

set_option maxRecDepth 100000 in
set_option maxHeartbeats 4000000 in
theorem k_Mo_isMarker (l : Launch) (D : va_G) (K : Nat → ClassId) (mh : Nat) (qor : Nat) (qfa : Nat) (qmo : Nat) (qwt : Nat) (qrt : Nat) (qnw : Nat) (qsn : Nat) (qlt : Nat) (qkn : Nat) (qft : Nat) (qbf : Nat) (qbh : Nat) (qjt : Nat) (qot : Nat) (qsm : Nat) (qpt : Nat) (qpr : Nat) (qch : Nat) (qbt : Nat) (qpg : Nat) (flt : Nat) (np : Nat) (nf : Nat) (nc : Nat) (nm : Nat) (wr : Nat) (x : Int32) (hnm4 : nm ≤ 4) : mg_Mi l D K y_Mo_isMarker b_Mo_isMarker 2 (.boolean) ({ frames := 0, cells := 0, slots := 0, locals := 0 }) [.ref (mh), .int (x)] [mg_ob mh 6 [.int (nI (flt)), .int (nI (np)), .int (nI (nf)), .int (nI (nc)), .ref (qor), .ref (qfa), .ref (qmo), .int (nI (nm)), .ref (qwt), .ref (qrt), .ref (qnw), .ref (qsn), .ref (qlt), .ref (qkn), .ref (qft), .ref (qbf), .ref (qbh), .ref (qjt), .ref (qot), .ref (qsm), .ref (qpt), .ref (qpr), .ref (qch), .ref (qbt), .int (nI (wr)), .ref (qpg)]] (fun (r : Int32) (_ : Unit) => r = nI (ft_c (mg_lt x (nm)))) (fun (_ : Unit) => [mg_ob mh 6 [.int (nI (flt)), .int (nI (np)), .int (nI (nf)), .int (nI (nc)), .ref (qor), .ref (qfa), .ref (qmo), .int (nI (nm)), .ref (qwt), .ref (qrt), .ref (qnw), .ref (qsn), .ref (qlt), .ref (qkn), .ref (qft), .ref (qbf), .ref (qbh), .ref (qjt), .ref (qot), .ref (qsm), .ref (qpt), .ref (qpr), .ref (qch), .ref (qbt), .int (nI (wr)), .ref (qpg)]]) := by
  intro sz
  refine mg_entry (Qc := fun A => va_Qi (fun (r : Int32) (_ : Unit) => r = nI (ft_c (mg_lt x (nm)))) (mg_B D A (fun (_ : Unit) => [mg_ob mh 6 [.int (nI (flt)), .int (nI (np)), .int (nI (nf)), .int (nI (nc)), .ref (qor), .ref (qfa), .ref (qmo), .int (nI (nm)), .ref (qwt), .ref (qrt), .ref (qnw), .ref (qsn), .ref (qlt), .ref (qkn), .ref (qft), .ref (qbf), .ref (qbh), .ref (qjt), .ref (qot), .ref (qsm), .ref (qpt), .ref (qpr), .ref (qch), .ref (qbt), .int (nI (wr)), .ref (qpg)]])) A) (by decide) (Nat.le_of_ble_eq_true rfl) ?_
  intro p e s m args below meth c A ls X hr hlk hnm hA hK hw hl
  have hl : lv_has ls 2 [(0, .ref (mh)), (1, .int (x))] := hl
  refine mg_iload_n X 1 d_Mo_isMarker_0 (lv_at hl 1 rfl) rfl ?_
  refine mg_iflt_r X 16 4 d_Mo_isMarker_1 (by decide) rfl (fun hneg => ?_) (fun j hj ej => ?_)
  · -- pc 1 t
    refine mg_iconst X 17 0 d_Mo_isMarker_16 mg_ci_0 rfl ?_
    exact mg_iret X hr hlk (mg_nz (by omega)) (()) (by rw [ft_c0 (mg_lt_neg hneg (by omega))]) hw d_Mo_isMarker_17
  · -- pc 1 f
    subst ej
    refine mg_iload_n X 5 d_Mo_isMarker_4 (lv_at hl 1 rfl) rfl ?_
    refine mg_aload_n X 6 d_Mo_isMarker_5 (lv_at hl 0 rfl) rfl ?_
    refine mg_get X hK hw 9 0 7 f_Mo_83 rfl rfl d_Mo_isMarker_6 rfl ?_
    refine mg_icmp_ge X 16 12 (by omega) (by omega) d_Mo_isMarker_9 (by decide) rfl (fun hc => ?_) (fun hc => ?_)
    · -- pc 9 t
      refine mg_iconst X 17 0 d_Mo_isMarker_16 mg_ci_0 rfl ?_
      exact mg_iret X hr hlk (mg_nz (by omega)) (()) (by rw [ft_c0 (mg_lt_ge hj (by omega))]) hw d_Mo_isMarker_17
    · -- pc 9 f
      refine mg_iconst X 13 1 d_Mo_isMarker_12 mg_ci_1 rfl ?_
      refine mg_goto X 17 d_Mo_isMarker_13 (by decide) ?_
      exact mg_iret X hr hlk (mg_nz (by omega)) (()) (by rw [ft_c1 (mg_lt_in (by omega))]) hw d_Mo_isMarker_17

set_option maxRecDepth 100000 in
set_option maxHeartbeats 4000000 in
theorem k_Mo_isGap (l : Launch) (D : va_G) (K : Nat → ClassId) (mh : Nat) (qor : Nat) (qfa : Nat) (qmo : Nat) (qwt : Nat) (qrt : Nat) (qnw : Nat) (qsn : Nat) (qlt : Nat) (qkn : Nat) (qft : Nat) (qbf : Nat) (qbh : Nat) (qjt : Nat) (qot : Nat) (qsm : Nat) (qpt : Nat) (qpr : Nat) (qch : Nat) (qbt : Nat) (qpg : Nat) (flt : Nat) (np : Nat) (nf : Nat) (nc : Nat) (nm : Nat) (wr : Nat) (x : Int32) (hnm4 : nm ≤ 4) : mg_Mi l D K y_Mo_isGap b_Mo_isGap 2 (.boolean) ({ frames := 0, cells := 0, slots := 0, locals := 0 }) [.ref (mh), .int (x)] [mg_ob mh 6 [.int (nI (flt)), .int (nI (np)), .int (nI (nf)), .int (nI (nc)), .ref (qor), .ref (qfa), .ref (qmo), .int (nI (nm)), .ref (qwt), .ref (qrt), .ref (qnw), .ref (qsn), .ref (qlt), .ref (qkn), .ref (qft), .ref (qbf), .ref (qbh), .ref (qjt), .ref (qot), .ref (qsm), .ref (qpt), .ref (qpr), .ref (qch), .ref (qbt), .int (nI (wr)), .ref (qpg)]] (fun (r : Int32) (_ : Unit) => r = nI (ft_c (mg_lt x (nm - 1)))) (fun (_ : Unit) => [mg_ob mh 6 [.int (nI (flt)), .int (nI (np)), .int (nI (nf)), .int (nI (nc)), .ref (qor), .ref (qfa), .ref (qmo), .int (nI (nm)), .ref (qwt), .ref (qrt), .ref (qnw), .ref (qsn), .ref (qlt), .ref (qkn), .ref (qft), .ref (qbf), .ref (qbh), .ref (qjt), .ref (qot), .ref (qsm), .ref (qpt), .ref (qpr), .ref (qch), .ref (qbt), .int (nI (wr)), .ref (qpg)]]) := by
  intro sz
  refine mg_entry (Qc := fun A => va_Qi (fun (r : Int32) (_ : Unit) => r = nI (ft_c (mg_lt x (nm - 1)))) (mg_B D A (fun (_ : Unit) => [mg_ob mh 6 [.int (nI (flt)), .int (nI (np)), .int (nI (nf)), .int (nI (nc)), .ref (qor), .ref (qfa), .ref (qmo), .int (nI (nm)), .ref (qwt), .ref (qrt), .ref (qnw), .ref (qsn), .ref (qlt), .ref (qkn), .ref (qft), .ref (qbf), .ref (qbh), .ref (qjt), .ref (qot), .ref (qsm), .ref (qpt), .ref (qpr), .ref (qch), .ref (qbt), .int (nI (wr)), .ref (qpg)]])) A) (by decide) (Nat.le_of_ble_eq_true rfl) ?_
  intro p e s m args below meth c A ls X hr hlk hnm hA hK hw hl
  have hl : lv_has ls 2 [(0, .ref (mh)), (1, .int (x))] := hl
  refine mg_iload_n X 1 d_Mo_isGap_0 (lv_at hl 1 rfl) rfl ?_
  refine mg_iflt_r X 18 4 d_Mo_isGap_1 (by decide) rfl (fun hneg => ?_) (fun j hj ej => ?_)
  · -- pc 1 t
    refine mg_iconst X 19 0 d_Mo_isGap_18 mg_ci_0 rfl ?_
    exact mg_iret X hr hlk (mg_nz (by omega)) (()) (by rw [ft_c0 (mg_lt_neg hneg (by omega))]) hw d_Mo_isGap_19
  · -- pc 1 f
    subst ej
    refine mg_iload_n X 5 d_Mo_isGap_4 (lv_at hl 1 rfl) rfl ?_
    refine mg_aload_n X 6 d_Mo_isGap_5 (lv_at hl 0 rfl) rfl ?_
    refine mg_get X hK hw 9 0 7 f_Mo_83 rfl rfl d_Mo_isGap_6 rfl ?_
    refine mg_iconst X 10 1 d_Mo_isGap_9 mg_ci_1 rfl ?_
    refine mg_isub X 11 (mg_dn nm) d_Mo_isGap_10 (mg_sub1 _) rfl ?_
    refine mg_icmpge_d X 18 14 (by omega) (by omega) d_Mo_isGap_11 (by decide) rfl (fun hc => ?_) (fun hc => ?_)
    · -- pc 11 t
      refine mg_iconst X 19 0 d_Mo_isGap_18 mg_ci_0 rfl ?_
      exact mg_iret X hr hlk (mg_nz (by omega)) (()) (by rw [ft_c0 (mg_lt_ge hj (by omega))]) hw d_Mo_isGap_19
    · -- pc 11 f
      refine mg_iconst X 15 1 d_Mo_isGap_14 mg_ci_1 rfl ?_
      refine mg_goto X 19 d_Mo_isGap_15 (by decide) ?_
      exact mg_iret X hr hlk (mg_nz (by omega)) (()) (by rw [ft_c1 (mg_lt_in (by omega))]) hw d_Mo_isGap_19

set_option maxRecDepth 100000 in
set_option maxHeartbeats 4000000 in
theorem k_Mo_forget (l : Launch) (D : va_G) (K : Nat → ClassId) (mh : Nat) (qor : Nat) (qfa : Nat) (qmo : Nat) (qwt : Nat) (qrt : Nat) (qnw : Nat) (qsn : Nat) (qlt : Nat) (qkn : Nat) (qft : Nat) (qbf : Nat) (qbh : Nat) (qjt : Nat) (qot : Nat) (qsm : Nat) (qpt : Nat) (qpr : Nat) (qch : Nat) (qbt : Nat) (qpg : Nat) (flt : Nat) (np : Nat) (nf : Nat) (nc : Nat) (nm : Nat) (wr : Nat) (kn : Nat → Nat)  : mg_Mv l D K y_Mo_forget b_Mo_forget 2 ({ frames := 0, cells := 0, slots := 0, locals := 0 }) [.ref (mh)] [mg_ob mh 6 [.int (nI (flt)), .int (nI (np)), .int (nI (nf)), .int (nI (nc)), .ref (qor), .ref (qfa), .ref (qmo), .int (nI (nm)), .ref (qwt), .ref (qrt), .ref (qnw), .ref (qsn), .ref (qlt), .ref (qkn), .ref (qft), .ref (qbf), .ref (qbh), .ref (qjt), .ref (qot), .ref (qsm), .ref (qpt), .ref (qpr), .ref (qch), .ref (qbt), .int (nI (wr)), .ref (qpg)], mg_az K qkn 4 kn] (fun (_ : Unit) => True) (fun (_ : Unit) => [mg_ob mh 6 [.int (nI (flt)), .int (nI (np)), .int (nI (nf)), .int (nI (nc)), .ref (qor), .ref (qfa), .ref (qmo), .int (nI (nm)), .ref (qwt), .ref (qrt), .ref (qnw), .ref (qsn), .ref (qlt), .ref (qkn), .ref (qft), .ref (qbf), .ref (qbh), .ref (qjt), .ref (qot), .ref (qsm), .ref (qpt), .ref (qpr), .ref (qch), .ref (qbt), .int (nI (wr)), .ref (qpg)], mg_az K qkn 4 (su_pt (fun _ => 0) kn 4)]) := by
  intro sz
  refine mg_entry (Qc := fun A => va_Qv (fun (_ : Unit) => True) (mg_B D A (fun (_ : Unit) => [mg_ob mh 6 [.int (nI (flt)), .int (nI (np)), .int (nI (nf)), .int (nI (nc)), .ref (qor), .ref (qfa), .ref (qmo), .int (nI (nm)), .ref (qwt), .ref (qrt), .ref (qnw), .ref (qsn), .ref (qlt), .ref (qkn), .ref (qft), .ref (qbf), .ref (qbh), .ref (qjt), .ref (qot), .ref (qsm), .ref (qpt), .ref (qpr), .ref (qch), .ref (qbt), .int (nI (wr)), .ref (qpg)], mg_az K qkn 4 (su_pt (fun _ => 0) kn 4)])) A) (by decide) (Nat.le_of_ble_eq_true rfl) ?_
  intro p e s m args below meth c A ls X hr hlk hnm hA hK hw hl
  have hl : lv_has ls 2 [(0, .ref (mh))] := hl
  rw [← su_pt0 (fun _ => 0) kn] at hw
  refine mg_iconst X 1 0 d_Mo_forget_0 mg_ci_0 rfl ?_
  refine mg_istore_n X 2 [(1, .int (nI (0))), (0, .ref (mh))] d_Mo_forget_1 hl (by decide) rfl rfl (fun ls hl => ?_)
  have L2 : ∀ (n0 : Nat) (k : Nat), n0 = 4 - k → (k ≤ 4) → ∀ (ls : Array Slot) (H : Heap) (locs : List Loc), lv_has ls 2 [(0, .ref (mh)), (1, .int (nI (k)))] → mg_H D A s.heap H locs [mg_ob mh 6 [.int (nI (flt)), .int (nI (np)), .int (nI (nf)), .int (nI (nc)), .ref (qor), .ref (qfa), .ref (qmo), .int (nI (nm)), .ref (qwt), .ref (qrt), .ref (qnw), .ref (qsn), .ref (qlt), .ref (qkn), .ref (qft), .ref (qbf), .ref (qbh), .ref (qjt), .ref (qot), .ref (qsm), .ref (qpt), .ref (qpr), .ref (qch), .ref (qbt), .int (nI (wr)), .ref (qpg)], mg_az K qkn 4 (su_pt (fun _ => 0) kn k)] → W p l e ({ frames := 0, cells := 0, slots := 0, locals := 0 }) s m args below meth c H locs 0 0 (MQ below (va_Qv (fun (_ : Unit) => True) (mg_B D A (fun (_ : Unit) => [mg_ob mh 6 [.int (nI (flt)), .int (nI (np)), .int (nI (nf)), .int (nI (nc)), .ref (qor), .ref (qfa), .ref (qmo), .int (nI (nm)), .ref (qwt), .ref (qrt), .ref (qnw), .ref (qsn), .ref (qlt), .ref (qkn), .ref (qft), .ref (qbf), .ref (qbh), .ref (qjt), .ref (qot), .ref (qsm), .ref (qpt), .ref (qpr), .ref (qch), .ref (qbt), .int (nI (wr)), .ref (qpg)], mg_az K qkn 4 (su_pt (fun _ => 0) kn 4)])) A) args s 0 0 A) (F0 m 2 ls []) := by
    intro n0
    induction n0 using Nat.strongRecOn with
    | ind n0 ih2 =>
    intro k hm2 hk ls H locs hl hw
    refine mg_iload_n X 3 d_Mo_forget_2 (lv_at hl 1 rfl) rfl ?_
    refine mg_iconst X 4 4 d_Mo_forget_3 mg_ci_4 rfl ?_
    refine mg_icmp_ge X 20 7 (by omega) (by omega) d_Mo_forget_4 (by decide) rfl (fun hb => ?_) (fun hb => ?_)
    · -- pc 4 t
      obtain rfl : k = 4 := by omega
      exact mg_vret X hr hlk (()) (trivial) hw d_Mo_forget_20
    · -- pc 4 f
      refine mg_aload_n X 8 d_Mo_forget_7 (lv_at hl 0 rfl) rfl ?_
      refine mg_get X hK hw 11 0 13 f_Mo_34 rfl rfl d_Mo_forget_8 rfl ?_
      refine mg_iload_n X 12 d_Mo_forget_11 (lv_at hl 1 rfl) rfl ?_
      refine mg_iconst X 13 0 d_Mo_forget_12 mg_ci_0 rfl ?_
      refine mg_zast X hK hw 14 1 [mg_ob mh 6 [.int (nI (flt)), .int (nI (np)), .int (nI (nf)), .int (nI (nc)), .ref (qor), .ref (qfa), .ref (qmo), .int (nI (nm)), .ref (qwt), .ref (qrt), .ref (qnw), .ref (qsn), .ref (qlt), .ref (qkn), .ref (qft), .ref (qbf), .ref (qbh), .ref (qjt), .ref (qot), .ref (qsm), .ref (qpt), .ref (qpr), .ref (qch), .ref (qbt), .int (nI (wr)), .ref (qpg)], mg_az K qkn 4 (va_up (su_pt (fun _ => 0) kn k) k 0)] rfl (by omega) (by omega) (by omega) d_Mo_forget_13 rfl rfl (fun H locs hw => ?_)
      refine mg_iinc X 17 [(1, .int (nI (k + 1))), (0, .ref (mh))] (k + 1) d_Mo_forget_14 hl (k := 1) rfl (mg_inc1 _) (by decide) rfl rfl (fun ls hl => ?_)
      refine mg_goto X 2 d_Mo_forget_17 (by decide) ?_
      have hl : lv_has ls 2 [(0, .ref (mh)), (1, .int (nI (k + 1)))] := lv_sub hl [1, 0] rfl
      rw [su_ptS (fun _ => 0)] at hw
      exact ih2 _ (by omega) (k + 1) rfl (by omega) ls _ _ hl hw
  have hl : lv_has ls 2 [(0, .ref (mh)), (1, .int (nI (0)))] := lv_sub hl [1, 0] rfl
  exact L2 _ 0 rfl (Nat.zero_le _) ls _ _ hl hw

set_option maxRecDepth 100000 in
set_option maxHeartbeats 4000000 in
theorem k_Mo_ways (l : Launch) (D : va_G) (K : Nat → ClassId) (mh : Nat) (qor : Nat) (qfa : Nat) (qmo : Nat) (qwt : Nat) (qrt : Nat) (qnw : Nat) (qsn : Nat) (qlt : Nat) (qkn : Nat) (qft : Nat) (qbf : Nat) (qbh : Nat) (qjt : Nat) (qot : Nat) (qsm : Nat) (qpt : Nat) (qpr : Nat) (qch : Nat) (qbt : Nat) (qpg : Nat) (flt : Nat) (np : Nat) (nf : Nat) (nc : Nat) (nm : Nat) (wr : Nat) (hnc : nc ≤ 3) : mg_Mi l D K y_Mo_ways b_Mo_ways 1 (.int) ({ frames := 0, cells := 0, slots := 0, locals := 0 }) [.ref (mh)] [mg_ob mh 6 [.int (nI (flt)), .int (nI (np)), .int (nI (nf)), .int (nI (nc)), .ref (qor), .ref (qfa), .ref (qmo), .int (nI (nm)), .ref (qwt), .ref (qrt), .ref (qnw), .ref (qsn), .ref (qlt), .ref (qkn), .ref (qft), .ref (qbf), .ref (qbh), .ref (qjt), .ref (qot), .ref (qsm), .ref (qpt), .ref (qpr), .ref (qch), .ref (qbt), .int (nI (wr)), .ref (qpg)]] (fun (r : Int32) (_ : Unit) => r = nI (2 ^ (2 * nc))) (fun (_ : Unit) => [mg_ob mh 6 [.int (nI (flt)), .int (nI (np)), .int (nI (nf)), .int (nI (nc)), .ref (qor), .ref (qfa), .ref (qmo), .int (nI (nm)), .ref (qwt), .ref (qrt), .ref (qnw), .ref (qsn), .ref (qlt), .ref (qkn), .ref (qft), .ref (qbf), .ref (qbh), .ref (qjt), .ref (qot), .ref (qsm), .ref (qpt), .ref (qpr), .ref (qch), .ref (qbt), .int (nI (wr)), .ref (qpg)]]) := by
  intro sz
  refine mg_entry (Qc := fun A => va_Qi (fun (r : Int32) (_ : Unit) => r = nI (2 ^ (2 * nc))) (mg_B D A (fun (_ : Unit) => [mg_ob mh 6 [.int (nI (flt)), .int (nI (np)), .int (nI (nf)), .int (nI (nc)), .ref (qor), .ref (qfa), .ref (qmo), .int (nI (nm)), .ref (qwt), .ref (qrt), .ref (qnw), .ref (qsn), .ref (qlt), .ref (qkn), .ref (qft), .ref (qbf), .ref (qbh), .ref (qjt), .ref (qot), .ref (qsm), .ref (qpt), .ref (qpr), .ref (qch), .ref (qbt), .int (nI (wr)), .ref (qpg)]])) A) (by decide) (Nat.le_of_ble_eq_true rfl) ?_
  intro p e s m args below meth c A ls X hr hlk hnm hA hK hw hl
  have hl : lv_has ls 1 [(0, .ref (mh))] := hl
  refine mg_iconst X 1 1 d_Mo_ways_0 mg_ci_1 rfl ?_
  refine mg_iconst X 2 2 d_Mo_ways_1 mg_ci_2 rfl ?_
  refine mg_aload_n X 3 d_Mo_ways_2 (lv_at hl 0 rfl) rfl ?_
  refine mg_get X hK hw 6 0 3 f_Mo_86 rfl rfl d_Mo_ways_3 rfl ?_
  refine mg_imul X 7 (nI (2 * nc)) d_Mo_ways_6 (pk_mul _ _) rfl ?_
  refine mg_ishl X 8 ((nI (2 ^ (2 * nc)))) d_Mo_ways_7 (mg_shl (by omega)) rfl ?_
  exact mg_iret X hr hlk (rfl) (()) (rfl) hw d_Mo_ways_8

set_option maxRecDepth 100000 in
set_option maxHeartbeats 4000000 in
theorem k_Mo_isWay (l : Launch) (D : va_G) (K : Nat → ClassId) (mh : Nat) (qor : Nat) (qfa : Nat) (qmo : Nat) (qwt : Nat) (qrt : Nat) (qnw : Nat) (qsn : Nat) (qlt : Nat) (qkn : Nat) (qft : Nat) (qbf : Nat) (qbh : Nat) (qjt : Nat) (qot : Nat) (qsm : Nat) (qpt : Nat) (qpr : Nat) (qch : Nat) (qbt : Nat) (qpg : Nat) (flt : Nat) (np : Nat) (nf : Nat) (nc : Nat) (nm : Nat) (wr : Nat) (x : Int32) (hnc : nc ≤ 3) : mg_Mi l D K y_Mo_isWay b_Mo_isWay 2 (.boolean) ({ frames := 1, cells := 0, slots := 0, locals := 20 }) [.ref (mh), .int (x)] [mg_ob mh 6 [.int (nI (flt)), .int (nI (np)), .int (nI (nf)), .int (nI (nc)), .ref (qor), .ref (qfa), .ref (qmo), .int (nI (nm)), .ref (qwt), .ref (qrt), .ref (qnw), .ref (qsn), .ref (qlt), .ref (qkn), .ref (qft), .ref (qbf), .ref (qbh), .ref (qjt), .ref (qot), .ref (qsm), .ref (qpt), .ref (qpr), .ref (qch), .ref (qbt), .int (nI (wr)), .ref (qpg)]] (fun (r : Int32) (_ : Unit) => r = nI (ft_c (mg_lt x (2 ^ (2 * nc))))) (fun (_ : Unit) => [mg_ob mh 6 [.int (nI (flt)), .int (nI (np)), .int (nI (nf)), .int (nI (nc)), .ref (qor), .ref (qfa), .ref (qmo), .int (nI (nm)), .ref (qwt), .ref (qrt), .ref (qnw), .ref (qsn), .ref (qlt), .ref (qkn), .ref (qft), .ref (qbf), .ref (qbh), .ref (qjt), .ref (qot), .ref (qsm), .ref (qpt), .ref (qpr), .ref (qch), .ref (qbt), .int (nI (wr)), .ref (qpg)]]) := by
  intro sz
  refine mg_entry (Qc := fun A => va_Qi (fun (r : Int32) (_ : Unit) => r = nI (ft_c (mg_lt x (2 ^ (2 * nc))))) (mg_B D A (fun (_ : Unit) => [mg_ob mh 6 [.int (nI (flt)), .int (nI (np)), .int (nI (nf)), .int (nI (nc)), .ref (qor), .ref (qfa), .ref (qmo), .int (nI (nm)), .ref (qwt), .ref (qrt), .ref (qnw), .ref (qsn), .ref (qlt), .ref (qkn), .ref (qft), .ref (qbf), .ref (qbh), .ref (qjt), .ref (qot), .ref (qsm), .ref (qpt), .ref (qpr), .ref (qch), .ref (qbt), .int (nI (wr)), .ref (qpg)]])) A) (by decide) (Nat.le_of_ble_eq_true rfl) ?_
  intro p e s m args below meth c A ls X hr hlk hnm hA hK hw hl
  have hl : lv_has ls 2 [(0, .ref (mh)), (1, .int (x))] := hl
  have hw6 := mg_ways hnc
  refine mg_iload_n X 1 d_Mo_isWay_0 (lv_at hl 1 rfl) rfl ?_
  refine mg_iflt_r X 16 4 d_Mo_isWay_1 (by decide) rfl (fun hneg => ?_) (fun j hj ej => ?_)
  · -- pc 1 t
    refine mg_iconst X 17 0 d_Mo_isWay_16 mg_ci_0 rfl ?_
    exact mg_iret X hr hlk (mg_nz (by omega)) (()) (by rw [ft_c0 (mg_lt_neg hneg (by omega))]) hw d_Mo_isWay_17
  · -- pc 1 f
    subst ej
    refine mg_iload_n X 5 d_Mo_isWay_4 (lv_at hl 1 rfl) rfl ?_
    refine mg_aload_n X 6 d_Mo_isWay_5 (lv_at hl 0 rfl) rfl ?_
    refine mg_callVi X hK hw hA 9 [0] 0 (fun _ => [mg_ob mh 6 [.int (nI (flt)), .int (nI (np)), .int (nI (nf)), .int (nI (nc)), .ref (qor), .ref (qfa), .ref (qmo), .int (nI (nm)), .ref (qwt), .ref (qrt), .ref (qnw), .ref (qsn), .ref (qlt), .ref (qkn), .ref (qft), .ref (qbf), .ref (qbh), .ref (qjt), .ref (qot), .ref (qsm), .ref (qpt), .ref (qpr), .ref (qch), .ref (qbt), .int (nI (wr)), .ref (qpg)]]) rfl rfl (k_Mo_ways l D K mh qor qfa qmo qwt qrt qnw qsn qlt qkn qft qbf qbh qjt qot qsm qpt qpr qch qbt qpg flt np nf nc nm wr (by omega)) g_Mo_115 ⟨by decide, by decide⟩ ⟨rfl, rfl⟩ rfl rfl rfl hl.1 (rest := [.int (nI (j))]) (As := []) rfl (Nat.le_of_ble_eq_true rfl) d_Mo_isWay_6 ⟨Nat.zero_le _, Nat.zero_le _⟩ (fun _ => rfl) (fun _ => rfl) rfl ?_
    intro r _ H locs hp2 hw
    subst hp2
    refine mg_icmp_ge X 16 12 (by omega) (by omega) d_Mo_isWay_9 (by decide) rfl (fun hc => ?_) (fun hc => ?_)
    · -- pc 9 t
      refine mg_iconst X 17 0 d_Mo_isWay_16 mg_ci_0 rfl ?_
      exact mg_iret X hr hlk (mg_nz (by omega)) (()) (by rw [ft_c0 (mg_lt_ge hj (by omega))]) hw d_Mo_isWay_17
    · -- pc 9 f
      refine mg_iconst X 13 1 d_Mo_isWay_12 mg_ci_1 rfl ?_
      refine mg_goto X 17 d_Mo_isWay_13 (by decide) ?_
      exact mg_iret X hr hlk (mg_nz (by omega)) (()) (by rw [ft_c1 (mg_lt_in (by omega))]) hw d_Mo_isWay_17

set_option maxRecDepth 100000 in
set_option maxHeartbeats 4000000 in
theorem k_Mo_originOf (l : Launch) (D : va_G) (K : Nat → ClassId) (mh : Nat) (qor : Nat) (qfa : Nat) (qmo : Nat) (qwt : Nat) (qrt : Nat) (qnw : Nat) (qsn : Nat) (qlt : Nat) (qkn : Nat) (qft : Nat) (qbf : Nat) (qbh : Nat) (qjt : Nat) (qot : Nat) (qsm : Nat) (qpt : Nat) (qpr : Nat) (qch : Nat) (qbt : Nat) (qpg : Nat) (flt : Nat) (np : Nat) (nf : Nat) (nc : Nat) (nm : Nat) (wr : Nat) (rk : Nat → Nat) (fa : Nat → Nat) (mo : Nat → Nat) (p0 : Nat) (c0 : Nat) (w : Nat) (hF : fm_ok nf nc fa mo rk) (hp : p0 < nf + nc) (hc : c0 < 2) (hw1 : w < 64) : mg_Mi l D K y_Mo_originOf b_Mo_originOf 7 (.int) ({ frames := 0, cells := 0, slots := 0, locals := 0 }) [.ref (mh), .int (nI (p0)), .int (nI (c0)), .int (nI (w))] [mg_ob mh 6 [.int (nI (flt)), .int (nI (np)), .int (nI (nf)), .int (nI (nc)), .ref (qor), .ref (qfa), .ref (qmo), .int (nI (nm)), .ref (qwt), .ref (qrt), .ref (qnw), .ref (qsn), .ref (qlt), .ref (qkn), .ref (qft), .ref (qbf), .ref (qbh), .ref (qjt), .ref (qot), .ref (qsm), .ref (qpt), .ref (qpr), .ref (qch), .ref (qbt), .int (nI (wr)), .ref (qpg)], mg_ai K qor 6 rk, mg_ai K qfa 6 fa, mg_ai K qmo 6 mo] (fun (r : Int32) (_ : Unit) => r = nI (fm_src fa mo rk w 3 p0 c0)) (fun (_ : Unit) => [mg_ob mh 6 [.int (nI (flt)), .int (nI (np)), .int (nI (nf)), .int (nI (nc)), .ref (qor), .ref (qfa), .ref (qmo), .int (nI (nm)), .ref (qwt), .ref (qrt), .ref (qnw), .ref (qsn), .ref (qlt), .ref (qkn), .ref (qft), .ref (qbf), .ref (qbh), .ref (qjt), .ref (qot), .ref (qsm), .ref (qpt), .ref (qpr), .ref (qch), .ref (qbt), .int (nI (wr)), .ref (qpg)], mg_ai K qor 6 rk, mg_ai K qfa 6 fa, mg_ai K qmo 6 mo]) := by
  intro sz
  refine mg_entry (Qc := fun A => va_Qi (fun (r : Int32) (_ : Unit) => r = nI (fm_src fa mo rk w 3 p0 c0)) (mg_B D A (fun (_ : Unit) => [mg_ob mh 6 [.int (nI (flt)), .int (nI (np)), .int (nI (nf)), .int (nI (nc)), .ref (qor), .ref (qfa), .ref (qmo), .int (nI (nm)), .ref (qwt), .ref (qrt), .ref (qnw), .ref (qsn), .ref (qlt), .ref (qkn), .ref (qft), .ref (qbf), .ref (qbh), .ref (qjt), .ref (qot), .ref (qsm), .ref (qpt), .ref (qpr), .ref (qch), .ref (qbt), .int (nI (wr)), .ref (qpg)], mg_ai K qor 6 rk, mg_ai K qfa 6 fa, mg_ai K qmo 6 mo])) A) (by decide) (Nat.le_of_ble_eq_true rfl) ?_
  intro p e s m args below meth c A ls X hr hlk hnm hA hK hw hl
  have hl : lv_has ls 7 [(0, .ref (mh)), (1, .int (nI (p0))), (2, .int (nI (c0))), (3, .int (nI (w)))] := hl
  have hF1 := hF.1
  have hF2 := hF.2.1
  refine mg_iload_n X 1 d_Mo_originOf_0 (lv_at hl 1 rfl) rfl ?_
  refine mg_istore X 3 [(4, .int (nI (p0))), (0, .ref (mh)), (1, .int (nI (p0))), (2, .int (nI (c0))), (3, .int (nI (w)))] d_Mo_originOf_1 hl (by decide) rfl rfl (fun ls hl => ?_)
  refine mg_iload_n X 4 d_Mo_originOf_3 (lv_at hl 3 rfl) rfl ?_
  refine mg_istore X 6 [(5, .int (nI (c0))), (4, .int (nI (p0))), (0, .ref (mh)), (1, .int (nI (p0))), (2, .int (nI (c0))), (3, .int (nI (w)))] d_Mo_originOf_4 hl (by decide) rfl rfl (fun ls hl => ?_)
  have L6 : ∀ (n0 : Nat) (p1 : Nat) (c1 : Nat), n0 = p1 → (fm_src fa mo rk w 3 p1 c1 = fm_src fa mo rk w 3 p0 c0) → (p1 < nf + nc) → (c1 < 2) → ∀ (ls : Array Slot) (H : Heap) (locs : List Loc), lv_has ls 7 [(0, .ref (mh)), (1, .int (nI (p0))), (2, .int (nI (c0))), (3, .int (nI (w))), (4, .int (nI (p1))), (5, .int (nI (c1)))] → mg_H D A s.heap H locs [mg_ob mh 6 [.int (nI (flt)), .int (nI (np)), .int (nI (nf)), .int (nI (nc)), .ref (qor), .ref (qfa), .ref (qmo), .int (nI (nm)), .ref (qwt), .ref (qrt), .ref (qnw), .ref (qsn), .ref (qlt), .ref (qkn), .ref (qft), .ref (qbf), .ref (qbh), .ref (qjt), .ref (qot), .ref (qsm), .ref (qpt), .ref (qpr), .ref (qch), .ref (qbt), .int (nI (wr)), .ref (qpg)], mg_ai K qor 6 rk, mg_ai K qfa 6 fa, mg_ai K qmo 6 mo] → W p l e ({ frames := 0, cells := 0, slots := 0, locals := 0 }) s m args below meth c H locs 0 0 (MQ below (va_Qi (fun (r : Int32) (_ : Unit) => r = nI (fm_src fa mo rk w 3 p0 c0)) (mg_B D A (fun (_ : Unit) => [mg_ob mh 6 [.int (nI (flt)), .int (nI (np)), .int (nI (nf)), .int (nI (nc)), .ref (qor), .ref (qfa), .ref (qmo), .int (nI (nm)), .ref (qwt), .ref (qrt), .ref (qnw), .ref (qsn), .ref (qlt), .ref (qkn), .ref (qft), .ref (qbf), .ref (qbh), .ref (qjt), .ref (qot), .ref (qsm), .ref (qpt), .ref (qpr), .ref (qch), .ref (qbt), .int (nI (wr)), .ref (qpg)], mg_ai K qor 6 rk, mg_ai K qfa 6 fa, mg_ai K qmo 6 mo])) A) args s 0 0 A) (F0 m 6 ls []) := by
    intro n0
    induction n0 using Nat.strongRecOn with
    | ind n0 ih6 =>
    intro p1 c1 hm6 hI hp1 hc1 ls H locs hl hw
    have hrk := fm_rk hF hp1
    have hfa := fm_fa hF hp1
    refine mg_aload_n X 7 d_Mo_originOf_6 (lv_at hl 0 rfl) rfl ?_
    refine mg_get X hK hw 10 0 5 f_Mo_13 rfl rfl d_Mo_originOf_7 rfl ?_
    refine mg_iload X 12 d_Mo_originOf_10 (lv_at hl 4 rfl) rfl ?_
    refine mg_iald X hK hw 13 2 rfl (by omega) (by omega) d_Mo_originOf_12 rfl ?_
    refine mg_iflt_w X 65 16 (by omega) d_Mo_originOf_13 (by decide) rfl (fun hn => ?_) (fun hn => ?_)
    · -- pc 13 t
      refine mg_iconst X 66 2 d_Mo_originOf_65 mg_ci_2 rfl ?_
      refine mg_aload_n X 67 d_Mo_originOf_66 (lv_at hl 0 rfl) rfl ?_
      refine mg_get X hK hw 70 0 4 f_Mo_7 rfl rfl d_Mo_originOf_67 rfl ?_
      refine mg_iload X 72 d_Mo_originOf_70 (lv_at hl 4 rfl) rfl ?_
      refine mg_iald X hK hw 73 1 rfl (by omega) (by omega) d_Mo_originOf_72 rfl ?_
      refine mg_imul X 74 (nI (2 * (rk p1))) d_Mo_originOf_73 (pk_mul _ _) rfl ?_
      refine mg_iload X 76 d_Mo_originOf_74 (lv_at hl 5 rfl) rfl ?_
      refine mg_iadd X 77 (nI ((2 * (rk p1)) + c1)) d_Mo_originOf_76 (nI_add _ _) rfl ?_
      exact mg_iret X hr hlk (rfl) (()) (by rw [← hI]; exact congrArg nI (fm_end hn).symm) hw d_Mo_originOf_77
    · -- pc 13 f
      refine mg_iload_n X 17 d_Mo_originOf_16 (lv_at hl 3 rfl) rfl ?_
      refine mg_iconst X 18 2 d_Mo_originOf_17 mg_ci_2 rfl ?_
      refine mg_aload_n X 19 d_Mo_originOf_18 (lv_at hl 0 rfl) rfl ?_
      refine mg_get X hK hw 22 0 4 f_Mo_7 rfl rfl d_Mo_originOf_19 rfl ?_
      refine mg_iload X 24 d_Mo_originOf_22 (lv_at hl 4 rfl) rfl ?_
      refine mg_iald X hK hw 25 1 rfl (by omega) (by omega) d_Mo_originOf_24 rfl ?_
      refine mg_imul X 26 (nI (2 * (rk p1))) d_Mo_originOf_25 (pk_mul _ _) rfl ?_
      refine mg_iload X 28 d_Mo_originOf_26 (lv_at hl 5 rfl) rfl ?_
      refine mg_iadd X 29 (nI ((2 * (rk p1)) + c1)) d_Mo_originOf_28 (nI_add _ _) rfl ?_
      refine mg_ishr X 30 ((nI (w / 2 ^ ((2 * (rk p1)) + c1)))) d_Mo_originOf_29 (mg_shr (by omega) (by omega)) rfl ?_
      refine mg_iconst X 31 1 d_Mo_originOf_30 mg_ci_1 rfl ?_
      refine mg_iand X 32 ((nI ((w / 2 ^ ((2 * (rk p1)) + c1)) % 2))) d_Mo_originOf_31 (mg_and1 (Nat.lt_of_le_of_lt (Nat.div_le_self _ _) (by omega))) rfl ?_
      refine mg_istore X 34 [(6, .int (nI ((w / 2 ^ ((2 * (rk p1)) + c1)) % 2))), (0, .ref (mh)), (1, .int (nI (p0))), (2, .int (nI (c0))), (3, .int (nI (w))), (4, .int (nI (p1))), (5, .int (nI (c1)))] d_Mo_originOf_32 hl (by decide) rfl rfl (fun ls hl => ?_)
      refine mg_iload X 36 d_Mo_originOf_34 (lv_at hl 6 rfl) rfl ?_
      refine mg_if_ne X 49 39 (by omega) d_Mo_originOf_36 (by decide) rfl (fun hz => ?_) (fun hz => ?_)
      · -- pc 36 t
        refine mg_aload_n X 50 d_Mo_originOf_49 (lv_at hl 1 rfl) rfl ?_
        refine mg_get X hK hw 53 0 6 f_Mo_16 rfl rfl d_Mo_originOf_50 rfl ?_
        refine mg_iload X 55 d_Mo_originOf_53 (lv_at hl 5 rfl) rfl ?_
        refine mg_iald X hK hw 56 3 rfl (by omega) (by omega) d_Mo_originOf_55 rfl ?_
        refine mg_istore X 58 [(4, .int (nI (mo p1))), (6, .int (nI ((w / 2 ^ ((2 * (rk p1)) + c1)) % 2))), (0, .ref (mh)), (1, .int (nI (p0))), (2, .int (nI (c0))), (3, .int (nI (w))), (5, .int (nI (c1)))] d_Mo_originOf_56 hl (by decide) rfl rfl (fun ls hl => ?_)
        refine mg_iload X 60 d_Mo_originOf_58 (lv_at hl 1 rfl) rfl ?_
        refine mg_istore X 62 [(5, .int (nI ((w / 2 ^ ((2 * (rk p1)) + c1)) % 2))), (4, .int (nI (mo p1))), (6, .int (nI ((w / 2 ^ ((2 * (rk p1)) + c1)) % 2))), (0, .ref (mh)), (1, .int (nI (p0))), (2, .int (nI (c0))), (3, .int (nI (w)))] d_Mo_originOf_60 hl (by decide) rfl rfl (fun ls hl => ?_)
        refine mg_goto X 6 d_Mo_originOf_62 (by decide) ?_
        have hl : lv_has ls 7 [(0, .ref (mh)), (1, .int (nI (p0))), (2, .int (nI (c0))), (3, .int (nI (w))), (4, .int (nI (mo p1))), (5, .int (nI ((w / 2 ^ ((2 * (rk p1)) + c1)) % 2)))] := lv_sub hl [3, 4, 5, 6, 1, 0] rfl
        exact ih6 _ (by first | (have h9 := mo_dn0 hF hp1 (by omega); omega) | (have h9 := mo_dn1 hF hp1 (by omega); omega)) (mo p1) ((w / 2 ^ ((2 * (rk p1)) + c1)) % 2) rfl (by have h9 := fm_up hF w (c := c1) hp1 (show fa p1 ≠ 4294967295 by omega); rw [if_neg hz] at h9; rw [← h9]; exact hI) (fm_lo1 hF hp1 (by omega)) (Nat.mod_lt _ (by decide)) ls _ _ hl hw
      · -- pc 36 f
        refine mg_aload_n X 40 d_Mo_originOf_39 (lv_at hl 1 rfl) rfl ?_
        refine mg_get X hK hw 43 0 5 f_Mo_13 rfl rfl d_Mo_originOf_40 rfl ?_
        refine mg_iload X 45 d_Mo_originOf_43 (lv_at hl 5 rfl) rfl ?_
        refine mg_iald X hK hw 46 2 rfl (by omega) (by omega) d_Mo_originOf_45 rfl ?_
        refine mg_goto X 56 d_Mo_originOf_46 (by decide) ?_
        refine mg_istore X 58 [(4, .int (nI (fa p1))), (6, .int (nI ((w / 2 ^ ((2 * (rk p1)) + c1)) % 2))), (0, .ref (mh)), (1, .int (nI (p0))), (2, .int (nI (c0))), (3, .int (nI (w))), (5, .int (nI (c1)))] d_Mo_originOf_56 hl (by decide) rfl rfl (fun ls hl => ?_)
        refine mg_iload X 60 d_Mo_originOf_58 (lv_at hl 1 rfl) rfl ?_
        refine mg_istore X 62 [(5, .int (nI ((w / 2 ^ ((2 * (rk p1)) + c1)) % 2))), (4, .int (nI (fa p1))), (6, .int (nI ((w / 2 ^ ((2 * (rk p1)) + c1)) % 2))), (0, .ref (mh)), (1, .int (nI (p0))), (2, .int (nI (c0))), (3, .int (nI (w)))] d_Mo_originOf_60 hl (by decide) rfl rfl (fun ls hl => ?_)
        refine mg_goto X 6 d_Mo_originOf_62 (by decide) ?_
        have hl : lv_has ls 7 [(0, .ref (mh)), (1, .int (nI (p0))), (2, .int (nI (c0))), (3, .int (nI (w))), (4, .int (nI (fa p1))), (5, .int (nI ((w / 2 ^ ((2 * (rk p1)) + c1)) % 2)))] := lv_sub hl [3, 4, 5, 6, 1, 0] rfl
        exact ih6 _ (by first | (have h9 := mo_dn0 hF hp1 (by omega); omega) | (have h9 := mo_dn1 hF hp1 (by omega); omega)) (fa p1) ((w / 2 ^ ((2 * (rk p1)) + c1)) % 2) rfl (by have h9 := fm_up hF w (c := c1) hp1 (show fa p1 ≠ 4294967295 by omega); rw [if_pos hz] at h9; rw [← h9]; exact hI) (fm_lo0 hF hp1 (by omega)) (Nat.mod_lt _ (by decide)) ls _ _ hl hw
  have hl : lv_has ls 7 [(0, .ref (mh)), (1, .int (nI (p0))), (2, .int (nI (c0))), (3, .int (nI (w))), (4, .int (nI (p0))), (5, .int (nI (c0)))] := lv_sub hl [2, 3, 4, 5, 1, 0] rfl
  exact L6 _ p0 c0 rfl (rfl) (hp) (hc) ls _ _ hl hw

set_option maxRecDepth 100000 in
set_option maxHeartbeats 4000000 in
theorem k_Mo_isSo (l : Launch) (D : va_G) (K : Nat → ClassId) (mh : Nat) (qor : Nat) (qfa : Nat) (qmo : Nat) (qwt : Nat) (qrt : Nat) (qnw : Nat) (qsn : Nat) (qlt : Nat) (qkn : Nat) (qft : Nat) (qbf : Nat) (qbh : Nat) (qjt : Nat) (qot : Nat) (qsm : Nat) (qpt : Nat) (qpr : Nat) (qch : Nat) (qbt : Nat) (qpg : Nat) (flt : Nat) (np : Nat) (nf : Nat) (nc : Nat) (nm : Nat) (wr : Nat) (rk : Nat → Nat) (fa : Nat → Nat) (mo : Nat → Nat) (sn : Nat → Nat) (lt : Nat → Nat) (ol : Nat → Nat) (tl : Nat → Nat) (mk : Nat) (w : Nat) (hF0 : fm_ok nf nc fa mo rk) (hnp : np = nf + nc) (hS : sn_ok ol tl) (hcd : ∀ q i, q < 6 → i < 4 → sn (4 * q + i) = mo_cd (ol (i * 6 + q)) (tl (i * 6 + q))) (hm : mk < 4) (hw1 : w < 64) (hlt : ∀ k, k < 2 * nf → 1 ≤ lt k ∧ lt k ≤ 3) : mg_Mi l D K y_Mo_isSo b_Mo_isSo 8 (.boolean) ({ frames := 1, cells := 0, slots := 0, locals := 26 }) [.ref (mh), .int (nI (mk)), .int (nI (w))] [mg_ob mh 6 [.int (nI (flt)), .int (nI (np)), .int (nI (nf)), .int (nI (nc)), .ref (qor), .ref (qfa), .ref (qmo), .int (nI (nm)), .ref (qwt), .ref (qrt), .ref (qnw), .ref (qsn), .ref (qlt), .ref (qkn), .ref (qft), .ref (qbf), .ref (qbh), .ref (qjt), .ref (qot), .ref (qsm), .ref (qpt), .ref (qpr), .ref (qch), .ref (qbt), .int (nI (wr)), .ref (qpg)], mg_ai K qor 6 rk, mg_ai K qfa 6 fa, mg_ai K qmo 6 mo, mg_ai K qsn 24 sn, mg_ai K qlt 6 lt] (fun (r : Int32) (_ : Unit) => r = nI (ft_c (ft_con (fun q => ol (mk * 6 + q)) (fun q => tl (mk * 6 + q)) (fun q => fm_src fa mo rk w 3 q 0) (fun q => fm_src fa mo rk w 3 q 1) 0 (nf + nc) lt))) (fun (_ : Unit) => [mg_ob mh 6 [.int (nI (flt)), .int (nI (np)), .int (nI (nf)), .int (nI (nc)), .ref (qor), .ref (qfa), .ref (qmo), .int (nI (nm)), .ref (qwt), .ref (qrt), .ref (qnw), .ref (qsn), .ref (qlt), .ref (qkn), .ref (qft), .ref (qbf), .ref (qbh), .ref (qjt), .ref (qot), .ref (qsm), .ref (qpt), .ref (qpr), .ref (qch), .ref (qbt), .int (nI (wr)), .ref (qpg)], mg_ai K qor 6 rk, mg_ai K qfa 6 fa, mg_ai K qmo 6 mo, mg_ai K qsn 24 sn, mg_ai K qlt 6 lt]) := by
  intro sz
  refine mg_entry (Qc := fun A => va_Qi (fun (r : Int32) (_ : Unit) => r = nI (ft_c (ft_con (fun q => ol (mk * 6 + q)) (fun q => tl (mk * 6 + q)) (fun q => fm_src fa mo rk w 3 q 0) (fun q => fm_src fa mo rk w 3 q 1) 0 (nf + nc) lt))) (mg_B D A (fun (_ : Unit) => [mg_ob mh 6 [.int (nI (flt)), .int (nI (np)), .int (nI (nf)), .int (nI (nc)), .ref (qor), .ref (qfa), .ref (qmo), .int (nI (nm)), .ref (qwt), .ref (qrt), .ref (qnw), .ref (qsn), .ref (qlt), .ref (qkn), .ref (qft), .ref (qbf), .ref (qbh), .ref (qjt), .ref (qot), .ref (qsm), .ref (qpt), .ref (qpr), .ref (qch), .ref (qbt), .int (nI (wr)), .ref (qpg)], mg_ai K qor 6 rk, mg_ai K qfa 6 fa, mg_ai K qmo 6 mo, mg_ai K qsn 24 sn, mg_ai K qlt 6 lt])) A) (by decide) (Nat.le_of_ble_eq_true rfl) ?_
  intro p e s m args below meth c A ls X hr hlk hnm hA hK hw hl
  have hl : lv_has ls 8 [(0, .ref (mh)), (1, .int (nI (mk))), (2, .int (nI (w)))] := hl
  have hf1 := hF0.1
  have hf2 := hF0.2.1
  refine mg_iconst X 1 1 d_Mo_isSo_0 mg_ci_1 rfl ?_
  refine mg_istore_n X 2 [(3, .int (nI (1))), (0, .ref (mh)), (1, .int (nI (mk))), (2, .int (nI (w)))] d_Mo_isSo_1 hl (by decide) rfl rfl (fun ls hl => ?_)
  refine mg_iconst X 3 0 d_Mo_isSo_2 mg_ci_0 rfl ?_
  refine mg_istore X 5 [(4, .int (nI (0))), (3, .int (nI (1))), (0, .ref (mh)), (1, .int (nI (mk))), (2, .int (nI (w)))] d_Mo_isSo_3 hl (by decide) rfl rfl (fun ls hl => ?_)
  have L5 : ∀ (n0 : Nat) (k : Nat) (x : Nat), n0 = nf + nc - k → (x = ft_c (ft_con (fun q => ol (mk * 6 + q)) (fun q => tl (mk * 6 + q)) (fun q => fm_src fa mo rk w 3 q 0) (fun q => fm_src fa mo rk w 3 q 1) 0 k lt)) → (k ≤ nf + nc) → ∀ (ls : Array Slot) (H : Heap) (locs : List Loc), lv_has ls 8 [(0, .ref (mh)), (1, .int (nI (mk))), (2, .int (nI (w))), (3, .int (nI (x))), (4, .int (nI (k)))] → mg_H D A s.heap H locs [mg_ob mh 6 [.int (nI (flt)), .int (nI (np)), .int (nI (nf)), .int (nI (nc)), .ref (qor), .ref (qfa), .ref (qmo), .int (nI (nm)), .ref (qwt), .ref (qrt), .ref (qnw), .ref (qsn), .ref (qlt), .ref (qkn), .ref (qft), .ref (qbf), .ref (qbh), .ref (qjt), .ref (qot), .ref (qsm), .ref (qpt), .ref (qpr), .ref (qch), .ref (qbt), .int (nI (wr)), .ref (qpg)], mg_ai K qor 6 rk, mg_ai K qfa 6 fa, mg_ai K qmo 6 mo, mg_ai K qsn 24 sn, mg_ai K qlt 6 lt] → W p l e ({ frames := 1, cells := 0, slots := 0, locals := 26 }) s m args below meth c H locs 0 0 (MQ below (va_Qi (fun (r : Int32) (_ : Unit) => r = nI (ft_c (ft_con (fun q => ol (mk * 6 + q)) (fun q => tl (mk * 6 + q)) (fun q => fm_src fa mo rk w 3 q 0) (fun q => fm_src fa mo rk w 3 q 1) 0 (nf + nc) lt))) (mg_B D A (fun (_ : Unit) => [mg_ob mh 6 [.int (nI (flt)), .int (nI (np)), .int (nI (nf)), .int (nI (nc)), .ref (qor), .ref (qfa), .ref (qmo), .int (nI (nm)), .ref (qwt), .ref (qrt), .ref (qnw), .ref (qsn), .ref (qlt), .ref (qkn), .ref (qft), .ref (qbf), .ref (qbh), .ref (qjt), .ref (qot), .ref (qsm), .ref (qpt), .ref (qpr), .ref (qch), .ref (qbt), .int (nI (wr)), .ref (qpg)], mg_ai K qor 6 rk, mg_ai K qfa 6 fa, mg_ai K qmo 6 mo, mg_ai K qsn 24 sn, mg_ai K qlt 6 lt])) A) args s 0 0 A) (F0 m 5 ls []) := by
    intro n0
    induction n0 using Nat.strongRecOn with
    | ind n0 ih5 =>
    intro k x hm5 hx hk ls H locs hl hw
    have hx2 : x < 2 := by rw [hx]; exact mg_ft1 _
    refine mg_iload X 7 d_Mo_isSo_5 (lv_at hl 4 rfl) rfl ?_
    refine mg_aload_n X 8 d_Mo_isSo_7 (lv_at hl 0 rfl) rfl ?_
    refine mg_get X hK hw 11 0 1 f_Mo_80 rfl rfl d_Mo_isSo_8 rfl ?_
    refine mg_icmp_ge X 109 14 (by omega) (by omega) d_Mo_isSo_11 (by decide) rfl (fun hb => ?_) (fun hb => ?_)
    · -- pc 11 t
      refine mg_iload_n X 110 d_Mo_isSo_109 (lv_at hl 3 rfl) rfl ?_
      exact mg_iret X hr hlk (mg_nz (by omega)) (()) (by rw [mo_so hx hk (by omega)]) hw d_Mo_isSo_110
    · -- pc 11 f
      have q0 := fm_lt3 hF0 w (p := k) (by omega) (show 0 < 2 by omega)
      have q1 := fm_lt3 hF0 w (p := k) (by omega) (show 1 < 2 by omega)
      have l0 := hlt _ q0
      have l1 := hlt _ q1
      have o3 := hS.1 (mk * 6 + k) (by omega)
      have t3 := hS.2.1 (mk * 6 + k) (by omega)
      have ot := hS.2.2 (mk * 6 + k) (by omega)
      have hsk := hcd k mk (by omega) hm
      have hs33 := mo_cd_le o3 t3
      refine mg_iload_n X 15 d_Mo_isSo_14 (lv_at hl 3 rfl) rfl ?_
      refine mg_if_eq X 109 18 (by omega) d_Mo_isSo_15 (by decide) rfl (fun hx0 => ?_) (fun hx0 => ?_)
      · -- pc 15 t
        refine mg_iload_n X 110 d_Mo_isSo_109 (lv_at hl 3 rfl) rfl ?_
        exact mg_iret X hr hlk (mg_nz (by omega)) (()) (by rw [mo_so hx hk (by omega)]) hw d_Mo_isSo_110
      · -- pc 15 f
        refine mg_aload_n X 19 d_Mo_isSo_18 (lv_at hl 0 rfl) rfl ?_
        refine mg_get X hK hw 22 0 11 f_Mo_28 rfl rfl d_Mo_isSo_19 rfl ?_
        refine mg_iconst X 23 4 d_Mo_isSo_22 mg_ci_4 rfl ?_
        refine mg_iload X 25 d_Mo_isSo_23 (lv_at hl 4 rfl) rfl ?_
        refine mg_imul X 26 (nI (4 * k)) d_Mo_isSo_25 (pk_mul _ _) rfl ?_
        refine mg_iload_n X 27 d_Mo_isSo_26 (lv_at hl 1 rfl) rfl ?_
        refine mg_iadd X 28 (nI ((4 * k) + mk)) d_Mo_isSo_27 (nI_add _ _) rfl ?_
        refine mg_iald X hK hw 29 4 rfl (by omega) (by omega) d_Mo_isSo_28 rfl ?_
        refine mg_istore X 31 [(5, .int (nI (sn ((4 * k) + mk)))), (0, .ref (mh)), (1, .int (nI (mk))), (2, .int (nI (w))), (3, .int (nI (x))), (4, .int (nI (k)))] d_Mo_isSo_29 hl (by decide) rfl rfl (fun ls hl => ?_)
        refine mg_iload X 33 d_Mo_isSo_31 (lv_at hl 0 rfl) rfl ?_
        refine mg_if_le X 103 36 (by omega) d_Mo_isSo_33 (by decide) rfl (fun hs => ?_) (fun hs => ?_)
        · -- pc 33 t
          refine mg_iinc X 106 [(4, .int (nI (k + 1))), (5, .int (nI (sn ((4 * k) + mk)))), (0, .ref (mh)), (1, .int (nI (mk))), (2, .int (nI (w))), (3, .int (nI (x)))] (k + 1) d_Mo_isSo_103 hl (k := 5) rfl (mg_inc1 _) (by decide) rfl rfl (fun ls hl => ?_)
          refine mg_goto X 5 d_Mo_isSo_106 (by decide) ?_
          have hl : lv_has ls 8 [(0, .ref (mh)), (1, .int (nI (mk))), (2, .int (nI (w))), (3, .int (nI (x))), (4, .int (nI (k + 1)))] := lv_sub hl [2, 3, 4, 5, 0] rfl
          exact ih5 _ (by omega) (k + 1) x rfl (mo_so0 hx (show ol (mk * 6 + k) = 0 from Classical.not_not.mp (fun q => absurd (mo_cd0 (t := tl (mk * 6 + k)).mpr q) (by omega)))) (by omega) ls _ _ hl hw
        · -- pc 33 f
          have ho := mo_cd0.mp (show 0 < mo_cd (ol (mk * 6 + k)) (tl (mk * 6 + k)) by omega)
          refine mg_aload_n X 37 d_Mo_isSo_36 (lv_at hl 1 rfl) rfl ?_
          refine mg_get X hK hw 40 0 12 f_Mo_31 rfl rfl d_Mo_isSo_37 rfl ?_
          refine mg_aload_n X 41 d_Mo_isSo_40 (lv_at hl 1 rfl) rfl ?_
          refine mg_iload X 43 d_Mo_isSo_41 (lv_at hl 5 rfl) rfl ?_
          refine mg_iconst X 44 0 d_Mo_isSo_43 mg_ci_0 rfl ?_
          refine mg_iload_n X 45 d_Mo_isSo_44 (lv_at hl 3 rfl) rfl ?_
          refine mg_callVi X hK hw hA 48 [0, 1, 2, 3] 0 (fun _ => [mg_ob mh 6 [.int (nI (flt)), .int (nI (np)), .int (nI (nf)), .int (nI (nc)), .ref (qor), .ref (qfa), .ref (qmo), .int (nI (nm)), .ref (qwt), .ref (qrt), .ref (qnw), .ref (qsn), .ref (qlt), .ref (qkn), .ref (qft), .ref (qbf), .ref (qbh), .ref (qjt), .ref (qot), .ref (qsm), .ref (qpt), .ref (qpr), .ref (qch), .ref (qbt), .int (nI (wr)), .ref (qpg)], mg_ai K qor 6 rk, mg_ai K qfa 6 fa, mg_ai K qmo 6 mo, mg_ai K qsn 24 sn, mg_ai K qlt 6 lt]) rfl rfl (k_Mo_originOf l D K mh qor qfa qmo qwt qrt qnw qsn qlt qkn qft qbf qbh qjt qot qsm qpt qpr qch qbt qpg flt np nf nc nm wr rk fa mo k 0 w (hF0) (by omega) (by omega) (by omega)) g_Mo_122 ⟨by decide, by decide⟩ ⟨rfl, rfl⟩ rfl rfl rfl hl.1 (rest := [.ref (qlt)]) (As := [.int (nI (k)), .int (nI (0)), .int (nI (w))]) rfl (Nat.le_of_ble_eq_true rfl) d_Mo_isSo_45 ⟨Nat.zero_le _, Nat.zero_le _⟩ (fun _ => rfl) (fun _ => rfl) rfl ?_
          intro r _ H locs hp2 hw
          subst hp2
          refine mg_iald X hK hw 49 5 rfl (by omega) (by omega) d_Mo_isSo_48 rfl ?_
          refine mg_istore X 51 [(6, .int (nI (lt (fm_src fa mo rk w 3 k 0)))), (5, .int (nI (sn ((4 * k) + mk)))), (0, .ref (mh)), (1, .int (nI (mk))), (2, .int (nI (w))), (3, .int (nI (x))), (4, .int (nI (k)))] d_Mo_isSo_49 hl (by decide) rfl rfl (fun ls hl => ?_)
          refine mg_aload_n X 52 d_Mo_isSo_51 (lv_at hl 2 rfl) rfl ?_
          refine mg_get X hK hw 55 0 12 f_Mo_31 rfl rfl d_Mo_isSo_52 rfl ?_
          refine mg_aload_n X 56 d_Mo_isSo_55 (lv_at hl 2 rfl) rfl ?_
          refine mg_iload X 58 d_Mo_isSo_56 (lv_at hl 6 rfl) rfl ?_
          refine mg_iconst X 59 1 d_Mo_isSo_58 mg_ci_1 rfl ?_
          refine mg_iload_n X 60 d_Mo_isSo_59 (lv_at hl 4 rfl) rfl ?_
          refine mg_callVi X hK hw hA 63 [0, 1, 2, 3] 0 (fun _ => [mg_ob mh 6 [.int (nI (flt)), .int (nI (np)), .int (nI (nf)), .int (nI (nc)), .ref (qor), .ref (qfa), .ref (qmo), .int (nI (nm)), .ref (qwt), .ref (qrt), .ref (qnw), .ref (qsn), .ref (qlt), .ref (qkn), .ref (qft), .ref (qbf), .ref (qbh), .ref (qjt), .ref (qot), .ref (qsm), .ref (qpt), .ref (qpr), .ref (qch), .ref (qbt), .int (nI (wr)), .ref (qpg)], mg_ai K qor 6 rk, mg_ai K qfa 6 fa, mg_ai K qmo 6 mo, mg_ai K qsn 24 sn, mg_ai K qlt 6 lt]) rfl rfl (k_Mo_originOf l D K mh qor qfa qmo qwt qrt qnw qsn qlt qkn qft qbf qbh qjt qot qsm qpt qpr qch qbt qpg flt np nf nc nm wr rk fa mo k 1 w (hF0) (by omega) (by omega) (by omega)) g_Mo_122 ⟨by decide, by decide⟩ ⟨rfl, rfl⟩ rfl rfl rfl hl.1 (rest := [.ref (qlt)]) (As := [.int (nI (k)), .int (nI (1)), .int (nI (w))]) rfl (Nat.le_of_ble_eq_true rfl) d_Mo_isSo_60 ⟨Nat.zero_le _, Nat.zero_le _⟩ (fun _ => rfl) (fun _ => rfl) rfl ?_
          intro r _ H locs hp4 hw
          subst hp4
          refine mg_iald X hK hw 64 5 rfl (by omega) (by omega) d_Mo_isSo_63 rfl ?_
          refine mg_istore X 66 [(7, .int (nI (lt (fm_src fa mo rk w 3 k 1)))), (6, .int (nI (lt (fm_src fa mo rk w 3 k 0)))), (5, .int (nI (sn ((4 * k) + mk)))), (0, .ref (mh)), (1, .int (nI (mk))), (2, .int (nI (w))), (3, .int (nI (x))), (4, .int (nI (k)))] d_Mo_isSo_64 hl (by decide) rfl rfl (fun ls hl => ?_)
          refine mg_iload X 68 d_Mo_isSo_66 (lv_at hl 1 rfl) rfl ?_
          refine mg_iload X 70 d_Mo_isSo_68 (lv_at hl 0 rfl) rfl ?_
          refine mg_icmp_ge X 84 73 (by omega) (by omega) d_Mo_isSo_70 (by decide) rfl (fun hab => ?_) (fun hab => ?_)
          · -- pc 70 t
            refine mg_bipush X 86 10 d_Mo_isSo_84 mg_cb_10 rfl ?_
            refine mg_iload X 88 d_Mo_isSo_86 (lv_at hl 0 rfl) rfl ?_
            refine mg_imul X 89 (nI (10 * (lt (fm_src fa mo rk w 3 k 1)))) d_Mo_isSo_88 (pk_mul _ _) rfl ?_
            refine mg_iload X 91 d_Mo_isSo_89 (lv_at hl 1 rfl) rfl ?_
            refine mg_iadd X 92 (nI ((10 * (lt (fm_src fa mo rk w 3 k 1))) + (lt (fm_src fa mo rk w 3 k 0)))) d_Mo_isSo_91 (nI_add _ _) rfl ?_
            refine mg_iload X 94 d_Mo_isSo_92 (lv_at hl 2 rfl) rfl ?_
            refine mg_icmp_ne X 101 97 (by omega) (by omega) d_Mo_isSo_94 (by decide) rfl (fun he => ?_) (fun he => ?_)
            · -- pc 94 t
              refine mg_iconst X 102 0 d_Mo_isSo_101 mg_ci_0 rfl ?_
              refine mg_istore_n X 103 [(3, .int (nI (0))), (7, .int (nI (lt (fm_src fa mo rk w 3 k 1)))), (6, .int (nI (lt (fm_src fa mo rk w 3 k 0)))), (5, .int (nI (sn ((4 * k) + mk)))), (0, .ref (mh)), (1, .int (nI (mk))), (2, .int (nI (w))), (4, .int (nI (k)))] d_Mo_isSo_102 hl (by decide) rfl rfl (fun ls hl => ?_)
              refine mg_iinc X 106 [(4, .int (nI (k + 1))), (3, .int (nI (0))), (7, .int (nI (lt (fm_src fa mo rk w 3 k 1)))), (6, .int (nI (lt (fm_src fa mo rk w 3 k 0)))), (5, .int (nI (sn ((4 * k) + mk)))), (0, .ref (mh)), (1, .int (nI (mk))), (2, .int (nI (w)))] (k + 1) d_Mo_isSo_103 hl (k := 7) rfl (mg_inc1 _) (by decide) rfl rfl (fun ls hl => ?_)
              refine mg_goto X 5 d_Mo_isSo_106 (by decide) ?_
              have hl : lv_has ls 8 [(0, .ref (mh)), (1, .int (nI (mk))), (2, .int (nI (w))), (3, .int (nI (0))), (4, .int (nI (k + 1)))] := lv_sub hl [5, 6, 7, 1, 0] rfl
              exact ih5 _ (by omega) (k + 1) 0 rfl (mo_so2 (show ol (mk * 6 + k) ≠ 0 by omega) (fun q => he (by rw [hcd k mk (by omega) hm, ← (mo_cd_eq (hlt _ q0) (hlt _ q1) (show 1 ≤ ol (mk * 6 + k) ∧ ol (mk * 6 + k) ≤ 3 by omega) (show 1 ≤ tl (mk * 6 + k) ∧ tl (mk * 6 + k) ≤ 3 by omega)).mpr q]; exact (mo_cd_ge (by have := hlt _ q0; omega) (by omega)).symm))) (by omega) ls _ _ hl hw
            · -- pc 94 f
              refine mg_iconst X 98 1 d_Mo_isSo_97 mg_ci_1 rfl ?_
              refine mg_goto X 102 d_Mo_isSo_98 (by decide) ?_
              refine mg_istore_n X 103 [(3, .int (nI (1))), (7, .int (nI (lt (fm_src fa mo rk w 3 k 1)))), (6, .int (nI (lt (fm_src fa mo rk w 3 k 0)))), (5, .int (nI (sn ((4 * k) + mk)))), (0, .ref (mh)), (1, .int (nI (mk))), (2, .int (nI (w))), (4, .int (nI (k)))] d_Mo_isSo_102 hl (by decide) rfl rfl (fun ls hl => ?_)
              refine mg_iinc X 106 [(4, .int (nI (k + 1))), (3, .int (nI (1))), (7, .int (nI (lt (fm_src fa mo rk w 3 k 1)))), (6, .int (nI (lt (fm_src fa mo rk w 3 k 0)))), (5, .int (nI (sn ((4 * k) + mk)))), (0, .ref (mh)), (1, .int (nI (mk))), (2, .int (nI (w)))] (k + 1) d_Mo_isSo_103 hl (k := 7) rfl (mg_inc1 _) (by decide) rfl rfl (fun ls hl => ?_)
              refine mg_goto X 5 d_Mo_isSo_106 (by decide) ?_
              have hl : lv_has ls 8 [(0, .ref (mh)), (1, .int (nI (mk))), (2, .int (nI (w))), (3, .int (nI (1))), (4, .int (nI (k + 1)))] := lv_sub hl [5, 6, 7, 1, 0] rfl
              exact ih5 _ (by omega) (k + 1) 1 rfl (mo_so1 hx hx0 ((mo_cd_eq (hlt _ q0) (hlt _ q1) (show 1 ≤ ol (mk * 6 + k) ∧ ol (mk * 6 + k) ≤ 3 by omega) (show 1 ≤ tl (mk * 6 + k) ∧ tl (mk * 6 + k) ≤ 3 by omega)).mp (by rw [← hcd k mk (by omega) hm]; exact (show mo_cd (lt (fm_src fa mo rk w 3 k 0)) (lt (fm_src fa mo rk w 3 k 1)) = sn (4 * k + mk) from (mo_cd_ge (by have := hlt _ q0; omega) (by omega)).trans he)))) (by omega) ls _ _ hl hw
          · -- pc 70 f
            refine mg_bipush X 75 10 d_Mo_isSo_73 mg_cb_10 rfl ?_
            refine mg_iload X 77 d_Mo_isSo_75 (lv_at hl 1 rfl) rfl ?_
            refine mg_imul X 78 (nI (10 * (lt (fm_src fa mo rk w 3 k 0)))) d_Mo_isSo_77 (pk_mul _ _) rfl ?_
            refine mg_iload X 80 d_Mo_isSo_78 (lv_at hl 0 rfl) rfl ?_
            refine mg_iadd X 81 (nI ((10 * (lt (fm_src fa mo rk w 3 k 0))) + (lt (fm_src fa mo rk w 3 k 1)))) d_Mo_isSo_80 (nI_add _ _) rfl ?_
            refine mg_goto X 92 d_Mo_isSo_81 (by decide) ?_
            refine mg_iload X 94 d_Mo_isSo_92 (lv_at hl 2 rfl) rfl ?_
            refine mg_icmp_ne X 101 97 (by omega) (by omega) d_Mo_isSo_94 (by decide) rfl (fun he => ?_) (fun he => ?_)
            · -- pc 94 t
              refine mg_iconst X 102 0 d_Mo_isSo_101 mg_ci_0 rfl ?_
              refine mg_istore_n X 103 [(3, .int (nI (0))), (7, .int (nI (lt (fm_src fa mo rk w 3 k 1)))), (6, .int (nI (lt (fm_src fa mo rk w 3 k 0)))), (5, .int (nI (sn ((4 * k) + mk)))), (0, .ref (mh)), (1, .int (nI (mk))), (2, .int (nI (w))), (4, .int (nI (k)))] d_Mo_isSo_102 hl (by decide) rfl rfl (fun ls hl => ?_)
              refine mg_iinc X 106 [(4, .int (nI (k + 1))), (3, .int (nI (0))), (7, .int (nI (lt (fm_src fa mo rk w 3 k 1)))), (6, .int (nI (lt (fm_src fa mo rk w 3 k 0)))), (5, .int (nI (sn ((4 * k) + mk)))), (0, .ref (mh)), (1, .int (nI (mk))), (2, .int (nI (w)))] (k + 1) d_Mo_isSo_103 hl (k := 7) rfl (mg_inc1 _) (by decide) rfl rfl (fun ls hl => ?_)
              refine mg_goto X 5 d_Mo_isSo_106 (by decide) ?_
              have hl : lv_has ls 8 [(0, .ref (mh)), (1, .int (nI (mk))), (2, .int (nI (w))), (3, .int (nI (0))), (4, .int (nI (k + 1)))] := lv_sub hl [5, 6, 7, 1, 0] rfl
              exact ih5 _ (by omega) (k + 1) 0 rfl (mo_so2 (show ol (mk * 6 + k) ≠ 0 by omega) (fun q => he (by rw [hcd k mk (by omega) hm, ← (mo_cd_eq (hlt _ q0) (hlt _ q1) (show 1 ≤ ol (mk * 6 + k) ∧ ol (mk * 6 + k) ≤ 3 by omega) (show 1 ≤ tl (mk * 6 + k) ∧ tl (mk * 6 + k) ≤ 3 by omega)).mpr q]; exact (mo_cd_lt (by have := hlt _ q0; omega) (by omega)).symm))) (by omega) ls _ _ hl hw
            · -- pc 94 f
              refine mg_iconst X 98 1 d_Mo_isSo_97 mg_ci_1 rfl ?_
              refine mg_goto X 102 d_Mo_isSo_98 (by decide) ?_
              refine mg_istore_n X 103 [(3, .int (nI (1))), (7, .int (nI (lt (fm_src fa mo rk w 3 k 1)))), (6, .int (nI (lt (fm_src fa mo rk w 3 k 0)))), (5, .int (nI (sn ((4 * k) + mk)))), (0, .ref (mh)), (1, .int (nI (mk))), (2, .int (nI (w))), (4, .int (nI (k)))] d_Mo_isSo_102 hl (by decide) rfl rfl (fun ls hl => ?_)
              refine mg_iinc X 106 [(4, .int (nI (k + 1))), (3, .int (nI (1))), (7, .int (nI (lt (fm_src fa mo rk w 3 k 1)))), (6, .int (nI (lt (fm_src fa mo rk w 3 k 0)))), (5, .int (nI (sn ((4 * k) + mk)))), (0, .ref (mh)), (1, .int (nI (mk))), (2, .int (nI (w)))] (k + 1) d_Mo_isSo_103 hl (k := 7) rfl (mg_inc1 _) (by decide) rfl rfl (fun ls hl => ?_)
              refine mg_goto X 5 d_Mo_isSo_106 (by decide) ?_
              have hl : lv_has ls 8 [(0, .ref (mh)), (1, .int (nI (mk))), (2, .int (nI (w))), (3, .int (nI (1))), (4, .int (nI (k + 1)))] := lv_sub hl [5, 6, 7, 1, 0] rfl
              exact ih5 _ (by omega) (k + 1) 1 rfl (mo_so1 hx hx0 ((mo_cd_eq (hlt _ q0) (hlt _ q1) (show 1 ≤ ol (mk * 6 + k) ∧ ol (mk * 6 + k) ≤ 3 by omega) (show 1 ≤ tl (mk * 6 + k) ∧ tl (mk * 6 + k) ≤ 3 by omega)).mp (by rw [← hcd k mk (by omega) hm]; exact (show mo_cd (lt (fm_src fa mo rk w 3 k 0)) (lt (fm_src fa mo rk w 3 k 1)) = sn (4 * k + mk) from (mo_cd_lt (by have := hlt _ q0; omega) (by omega)).trans he)))) (by omega) ls _ _ hl hw
  have hl : lv_has ls 8 [(0, .ref (mh)), (1, .int (nI (mk))), (2, .int (nI (w))), (3, .int (nI (1))), (4, .int (nI (0)))] := lv_sub hl [2, 3, 4, 1, 0] rfl
  exact L5 _ 0 1 rfl (mo_c0.symm) (by omega) ls _ _ hl hw
end
section
theorem mg_cb_17 : (Int8.ofInt (17)).toInt32 = nI 17 := by decide +kernel
theorem f_Mo_89 : mg_F "LinkedMarkersModel" 89 6 2 := ⟨R_Mo, T_Mo, 26, rfl, by decide, in_Mo, rfl, Or.inl (mg_in 657 (by decide +kernel) (by decide +kernel))⟩
theorem g_Mo_126 : mg_CV "LinkedMarkersModel" 126 y_Mo_isSo b_Mo_isSo 8 (some .boolean) 2 := ⟨Or.inl (mg_in 822 (by decide +kernel) (by decide +kernel)), (mg_in 824 (by decide +kernel) (by decide +kernel)), (mg_in 22 (by decide +kernel) (by decide +kernel)), (mg_in 40 (by decide +kernel) (by decide +kernel)), (mg_in 825 (by decide +kernel) (by decide +kernel)), by decide, by decide, by decide +kernel⟩
theorem f_Mo_19 : mg_F "LinkedMarkersModel" 19 6 8 := ⟨R_Mo, T_Mo, 26, rfl, by decide, in_Mo, rfl, Or.inl (mg_in 663 (by decide +kernel) (by decide +kernel))⟩
theorem f_Mo_38 : mg_F "LinkedMarkersModel" 38 6 14 := ⟨R_Mo, T_Mo, 26, rfl, by decide, in_Mo, rfl, Or.inl (mg_in 669 (by decide +kernel) (by decide +kernel))⟩
theorem g_Mo_130 : mg_CV "LinkedMarkersModel" 130 y_Mo_reckonFit b_Mo_reckonFit 9 (some .int) 2 := ⟨Or.inl (mg_in 818 (by decide +kernel) (by decide +kernel)), (mg_in 820 (by decide +kernel) (by decide +kernel)), (mg_in 21 (by decide +kernel) (by decide +kernel)), (mg_in 40 (by decide +kernel) (by decide +kernel)), (mg_in 821 (by decide +kernel) (by decide +kernel)), by decide, by decide, by decide +kernel⟩
theorem cw_Mo_137 : Cond.constantLong "LinkedMarkersModel" 137 268435456 ∈ mg_T := mg_in 852 (by decide +kernel) (by decide +kernel)
theorem f_Mo_60 : mg_F "LinkedMarkersModel" 60 6 21 := ⟨R_Mo, T_Mo, 26, rfl, by decide, in_Mo, rfl, Or.inl (mg_in 676 (by decide +kernel) (by decide +kernel))⟩
theorem f_Mo_63 : mg_F "LinkedMarkersModel" 63 6 22 := ⟨R_Mo, T_Mo, 26, rfl, by decide, in_Mo, rfl, Or.inl (mg_in 677 (by decide +kernel) (by decide +kernel))⟩
theorem f_Mo_25 : mg_F "LinkedMarkersModel" 25 6 10 := ⟨R_Mo, T_Mo, 26, rfl, by decide, in_Mo, rfl, Or.inl (mg_in 665 (by decide +kernel) (by decide +kernel))⟩
end
section
theorem d_Mo_reckonFit_0 : decode b_Mo_reckonFit 0 = .ok (.iconst 1, 1) := by decide +kernel
theorem d_Mo_reckonFit_1 : decode b_Mo_reckonFit 1 = .ok (.istore_n 3, 1) := by decide +kernel
theorem d_Mo_reckonFit_2 : decode b_Mo_reckonFit 2 = .ok (.iconst 0, 1) := by decide +kernel
theorem d_Mo_reckonFit_3 : decode b_Mo_reckonFit 3 = .ok (.istore 4, 2) := by decide +kernel
theorem d_Mo_reckonFit_5 : decode b_Mo_reckonFit 5 = .ok (.iload 4, 2) := by decide +kernel
theorem d_Mo_reckonFit_7 : decode b_Mo_reckonFit 7 = .ok (.iconst 2, 1) := by decide +kernel
theorem d_Mo_reckonFit_8 : decode b_Mo_reckonFit 8 = .ok (.aload_n 0, 1) := by decide +kernel
theorem d_Mo_reckonFit_9 : decode b_Mo_reckonFit 9 = .ok (.getfield 89, 3) := by decide +kernel
theorem d_Mo_reckonFit_12 : decode b_Mo_reckonFit 12 = .ok (.imul, 1) := by decide +kernel
theorem d_Mo_reckonFit_13 : decode b_Mo_reckonFit 13 = .ok (.if_icmp .ge 13, 3) := by decide +kernel
theorem d_Mo_reckonFit_16 : decode b_Mo_reckonFit 16 = .ok (.iconst 3, 1) := by decide +kernel
theorem d_Mo_reckonFit_17 : decode b_Mo_reckonFit 17 = .ok (.iload_n 3, 1) := by decide +kernel
theorem d_Mo_reckonFit_18 : decode b_Mo_reckonFit 18 = .ok (.imul, 1) := by decide +kernel
theorem d_Mo_reckonFit_19 : decode b_Mo_reckonFit 19 = .ok (.istore_n 3, 1) := by decide +kernel
theorem d_Mo_reckonFit_20 : decode b_Mo_reckonFit 20 = .ok (.iinc 4 1, 3) := by decide +kernel
theorem d_Mo_reckonFit_23 : decode b_Mo_reckonFit 23 = .ok (.goto (-18), 3) := by decide +kernel
theorem d_Mo_reckonFit_26 : decode b_Mo_reckonFit 26 = .ok (.iconst 0, 1) := by decide +kernel
theorem d_Mo_reckonFit_27 : decode b_Mo_reckonFit 27 = .ok (.istore 4, 2) := by decide +kernel
theorem d_Mo_reckonFit_29 : decode b_Mo_reckonFit 29 = .ok (.iconst 0, 1) := by decide +kernel
theorem d_Mo_reckonFit_30 : decode b_Mo_reckonFit 30 = .ok (.istore 5, 2) := by decide +kernel
theorem d_Mo_reckonFit_32 : decode b_Mo_reckonFit 32 = .ok (.iload 5, 2) := by decide +kernel
theorem d_Mo_reckonFit_34 : decode b_Mo_reckonFit 34 = .ok (.iload_n 3, 1) := by decide +kernel
theorem d_Mo_reckonFit_35 : decode b_Mo_reckonFit 35 = .ok (.if_icmp .ge 102, 3) := by decide +kernel
theorem d_Mo_reckonFit_38 : decode b_Mo_reckonFit 38 = .ok (.iload 5, 2) := by decide +kernel
theorem d_Mo_reckonFit_40 : decode b_Mo_reckonFit 40 = .ok (.istore 6, 2) := by decide +kernel
theorem d_Mo_reckonFit_42 : decode b_Mo_reckonFit 42 = .ok (.iconst 1, 1) := by decide +kernel
theorem d_Mo_reckonFit_43 : decode b_Mo_reckonFit 43 = .ok (.istore 7, 2) := by decide +kernel
theorem d_Mo_reckonFit_45 : decode b_Mo_reckonFit 45 = .ok (.iconst 0, 1) := by decide +kernel
theorem d_Mo_reckonFit_46 : decode b_Mo_reckonFit 46 = .ok (.istore 8, 2) := by decide +kernel
theorem d_Mo_reckonFit_48 : decode b_Mo_reckonFit 48 = .ok (.iload 8, 2) := by decide +kernel
theorem d_Mo_reckonFit_50 : decode b_Mo_reckonFit 50 = .ok (.iconst 2, 1) := by decide +kernel
theorem d_Mo_reckonFit_51 : decode b_Mo_reckonFit 51 = .ok (.aload_n 0, 1) := by decide +kernel
theorem d_Mo_reckonFit_52 : decode b_Mo_reckonFit 52 = .ok (.getfield 89, 3) := by decide +kernel
theorem d_Mo_reckonFit_55 : decode b_Mo_reckonFit 55 = .ok (.imul, 1) := by decide +kernel
theorem d_Mo_reckonFit_56 : decode b_Mo_reckonFit 56 = .ok (.if_icmp .ge 49, 3) := by decide +kernel
theorem d_Mo_reckonFit_59 : decode b_Mo_reckonFit 59 = .ok (.aload_n 0, 1) := by decide +kernel
theorem d_Mo_reckonFit_60 : decode b_Mo_reckonFit 60 = .ok (.getfield 31, 3) := by decide +kernel
theorem d_Mo_reckonFit_63 : decode b_Mo_reckonFit 63 = .ok (.iload 8, 2) := by decide +kernel
theorem d_Mo_reckonFit_65 : decode b_Mo_reckonFit 65 = .ok (.iconst 1, 1) := by decide +kernel
theorem d_Mo_reckonFit_66 : decode b_Mo_reckonFit 66 = .ok (.iload 6, 2) := by decide +kernel
theorem d_Mo_reckonFit_68 : decode b_Mo_reckonFit 68 = .ok (.iconst 3, 1) := by decide +kernel
theorem d_Mo_reckonFit_69 : decode b_Mo_reckonFit 69 = .ok (.irem, 1) := by decide +kernel
theorem d_Mo_reckonFit_70 : decode b_Mo_reckonFit 70 = .ok (.iadd, 1) := by decide +kernel
theorem d_Mo_reckonFit_71 : decode b_Mo_reckonFit 71 = .ok (.iastore, 1) := by decide +kernel
theorem d_Mo_reckonFit_72 : decode b_Mo_reckonFit 72 = .ok (.iload 6, 2) := by decide +kernel
theorem d_Mo_reckonFit_74 : decode b_Mo_reckonFit 74 = .ok (.iconst 3, 1) := by decide +kernel
theorem d_Mo_reckonFit_75 : decode b_Mo_reckonFit 75 = .ok (.idiv, 1) := by decide +kernel
theorem d_Mo_reckonFit_76 : decode b_Mo_reckonFit 76 = .ok (.istore 6, 2) := by decide +kernel
theorem d_Mo_reckonFit_78 : decode b_Mo_reckonFit 78 = .ok (.iload 7, 2) := by decide +kernel
theorem d_Mo_reckonFit_80 : decode b_Mo_reckonFit 80 = .ok (.aload_n 0, 1) := by decide +kernel
theorem d_Mo_reckonFit_81 : decode b_Mo_reckonFit 81 = .ok (.getfield 19, 3) := by decide +kernel
theorem d_Mo_reckonFit_84 : decode b_Mo_reckonFit 84 = .ok (.iconst 4, 1) := by decide +kernel
theorem d_Mo_reckonFit_85 : decode b_Mo_reckonFit 85 = .ok (.iload_n 1, 1) := by decide +kernel
theorem d_Mo_reckonFit_86 : decode b_Mo_reckonFit 86 = .ok (.imul, 1) := by decide +kernel
theorem d_Mo_reckonFit_87 : decode b_Mo_reckonFit 87 = .ok (.aload_n 0, 1) := by decide +kernel
theorem d_Mo_reckonFit_88 : decode b_Mo_reckonFit 88 = .ok (.getfield 31, 3) := by decide +kernel
theorem d_Mo_reckonFit_91 : decode b_Mo_reckonFit 91 = .ok (.iload 8, 2) := by decide +kernel
theorem d_Mo_reckonFit_93 : decode b_Mo_reckonFit 93 = .ok (.iaload, 1) := by decide +kernel
theorem d_Mo_reckonFit_94 : decode b_Mo_reckonFit 94 = .ok (.iadd, 1) := by decide +kernel
theorem d_Mo_reckonFit_95 : decode b_Mo_reckonFit 95 = .ok (.iaload, 1) := by decide +kernel
theorem d_Mo_reckonFit_96 : decode b_Mo_reckonFit 96 = .ok (.imul, 1) := by decide +kernel
theorem d_Mo_reckonFit_97 : decode b_Mo_reckonFit 97 = .ok (.istore 7, 2) := by decide +kernel
theorem d_Mo_reckonFit_99 : decode b_Mo_reckonFit 99 = .ok (.iinc 8 1, 3) := by decide +kernel
theorem d_Mo_reckonFit_102 : decode b_Mo_reckonFit 102 = .ok (.goto (-54), 3) := by decide +kernel
theorem d_Mo_reckonFit_105 : decode b_Mo_reckonFit 105 = .ok (.iload 7, 2) := by decide +kernel
theorem d_Mo_reckonFit_107 : decode b_Mo_reckonFit 107 = .ok (.ifCond .le 20, 3) := by decide +kernel
theorem d_Mo_reckonFit_110 : decode b_Mo_reckonFit 110 = .ok (.aload_n 0, 1) := by decide +kernel
theorem d_Mo_reckonFit_111 : decode b_Mo_reckonFit 111 = .ok (.iload_n 1, 1) := by decide +kernel
theorem d_Mo_reckonFit_112 : decode b_Mo_reckonFit 112 = .ok (.iload_n 2, 1) := by decide +kernel
theorem d_Mo_reckonFit_113 : decode b_Mo_reckonFit 113 = .ok (.invokevirtual 126, 3) := by decide +kernel
theorem d_Mo_reckonFit_116 : decode b_Mo_reckonFit 116 = .ok (.ifCond .eq 11, 3) := by decide +kernel
theorem d_Mo_reckonFit_119 : decode b_Mo_reckonFit 119 = .ok (.iload 4, 2) := by decide +kernel
theorem d_Mo_reckonFit_121 : decode b_Mo_reckonFit 121 = .ok (.iload 7, 2) := by decide +kernel
theorem d_Mo_reckonFit_123 : decode b_Mo_reckonFit 123 = .ok (.iadd, 1) := by decide +kernel
theorem d_Mo_reckonFit_124 : decode b_Mo_reckonFit 124 = .ok (.goto 5, 3) := by decide +kernel
theorem d_Mo_reckonFit_127 : decode b_Mo_reckonFit 127 = .ok (.iload 4, 2) := by decide +kernel
theorem d_Mo_reckonFit_129 : decode b_Mo_reckonFit 129 = .ok (.istore 4, 2) := by decide +kernel
theorem d_Mo_reckonFit_131 : decode b_Mo_reckonFit 131 = .ok (.iinc 5 1, 3) := by decide +kernel
theorem d_Mo_reckonFit_134 : decode b_Mo_reckonFit 134 = .ok (.goto (-102), 3) := by decide +kernel
theorem d_Mo_reckonFit_137 : decode b_Mo_reckonFit 137 = .ok (.iload 4, 2) := by decide +kernel
theorem d_Mo_reckonFit_139 : decode b_Mo_reckonFit 139 = .ok (.ireturn, 1) := by decide +kernel
theorem d_Mo_fitOf_0 : decode b_Mo_fitOf 0 = .ok (.aload_n 0, 1) := by decide +kernel
theorem d_Mo_fitOf_1 : decode b_Mo_fitOf 1 = .ok (.getfield 34, 3) := by decide +kernel
theorem d_Mo_fitOf_4 : decode b_Mo_fitOf 4 = .ok (.iload_n 1, 1) := by decide +kernel
theorem d_Mo_fitOf_5 : decode b_Mo_fitOf 5 = .ok (.baload, 1) := by decide +kernel
theorem d_Mo_fitOf_6 : decode b_Mo_fitOf 6 = .ok (.ifCond .ne 43, 3) := by decide +kernel
theorem d_Mo_fitOf_9 : decode b_Mo_fitOf 9 = .ok (.iconst 0, 1) := by decide +kernel
theorem d_Mo_fitOf_10 : decode b_Mo_fitOf 10 = .ok (.istore_n 3, 1) := by decide +kernel
theorem d_Mo_fitOf_11 : decode b_Mo_fitOf 11 = .ok (.iload_n 3, 1) := by decide +kernel
theorem d_Mo_fitOf_12 : decode b_Mo_fitOf 12 = .ok (.aload_n 0, 1) := by decide +kernel
theorem d_Mo_fitOf_13 : decode b_Mo_fitOf 13 = .ok (.invokevirtual 115, 3) := by decide +kernel
theorem d_Mo_fitOf_16 : decode b_Mo_fitOf 16 = .ok (.if_icmp .ge 26, 3) := by decide +kernel
theorem d_Mo_fitOf_19 : decode b_Mo_fitOf 19 = .ok (.aload_n 0, 1) := by decide +kernel
theorem d_Mo_fitOf_20 : decode b_Mo_fitOf 20 = .ok (.getfield 38, 3) := by decide +kernel
theorem d_Mo_fitOf_23 : decode b_Mo_fitOf 23 = .ok (.bipush 64, 2) := by decide +kernel
theorem d_Mo_fitOf_25 : decode b_Mo_fitOf 25 = .ok (.iload_n 1, 1) := by decide +kernel
theorem d_Mo_fitOf_26 : decode b_Mo_fitOf 26 = .ok (.imul, 1) := by decide +kernel
theorem d_Mo_fitOf_27 : decode b_Mo_fitOf 27 = .ok (.iload_n 3, 1) := by decide +kernel
theorem d_Mo_fitOf_28 : decode b_Mo_fitOf 28 = .ok (.iadd, 1) := by decide +kernel
theorem d_Mo_fitOf_29 : decode b_Mo_fitOf 29 = .ok (.aload_n 0, 1) := by decide +kernel
theorem d_Mo_fitOf_30 : decode b_Mo_fitOf 30 = .ok (.iload_n 1, 1) := by decide +kernel
theorem d_Mo_fitOf_31 : decode b_Mo_fitOf 31 = .ok (.iload_n 3, 1) := by decide +kernel
theorem d_Mo_fitOf_32 : decode b_Mo_fitOf 32 = .ok (.invokevirtual 130, 3) := by decide +kernel
theorem d_Mo_fitOf_35 : decode b_Mo_fitOf 35 = .ok (.iastore, 1) := by decide +kernel
theorem d_Mo_fitOf_36 : decode b_Mo_fitOf 36 = .ok (.iinc 3 1, 3) := by decide +kernel
theorem d_Mo_fitOf_39 : decode b_Mo_fitOf 39 = .ok (.goto (-28), 3) := by decide +kernel
theorem d_Mo_fitOf_42 : decode b_Mo_fitOf 42 = .ok (.aload_n 0, 1) := by decide +kernel
theorem d_Mo_fitOf_43 : decode b_Mo_fitOf 43 = .ok (.getfield 34, 3) := by decide +kernel
theorem d_Mo_fitOf_46 : decode b_Mo_fitOf 46 = .ok (.iload_n 1, 1) := by decide +kernel
theorem d_Mo_fitOf_47 : decode b_Mo_fitOf 47 = .ok (.iconst 1, 1) := by decide +kernel
theorem d_Mo_fitOf_48 : decode b_Mo_fitOf 48 = .ok (.bastore, 1) := by decide +kernel
theorem d_Mo_fitOf_49 : decode b_Mo_fitOf 49 = .ok (.aload_n 0, 1) := by decide +kernel
theorem d_Mo_fitOf_50 : decode b_Mo_fitOf 50 = .ok (.getfield 38, 3) := by decide +kernel
theorem d_Mo_fitOf_53 : decode b_Mo_fitOf 53 = .ok (.bipush 64, 2) := by decide +kernel
theorem d_Mo_fitOf_55 : decode b_Mo_fitOf 55 = .ok (.iload_n 1, 1) := by decide +kernel
theorem d_Mo_fitOf_56 : decode b_Mo_fitOf 56 = .ok (.imul, 1) := by decide +kernel
theorem d_Mo_fitOf_57 : decode b_Mo_fitOf 57 = .ok (.iload_n 2, 1) := by decide +kernel
theorem d_Mo_fitOf_58 : decode b_Mo_fitOf 58 = .ok (.iadd, 1) := by decide +kernel
theorem d_Mo_fitOf_59 : decode b_Mo_fitOf 59 = .ok (.iaload, 1) := by decide +kernel
theorem d_Mo_fitOf_60 : decode b_Mo_fitOf 60 = .ok (.ireturn, 1) := by decide +kernel
theorem d_Mo_clear_0 : decode b_Mo_clear 0 = .ok (.iconst 0, 1) := by decide +kernel
theorem d_Mo_clear_1 : decode b_Mo_clear 1 = .ok (.istore_n 2, 1) := by decide +kernel
theorem d_Mo_clear_2 : decode b_Mo_clear 2 = .ok (.iload_n 2, 1) := by decide +kernel
theorem d_Mo_clear_3 : decode b_Mo_clear 3 = .ok (.bipush 8, 2) := by decide +kernel
theorem d_Mo_clear_5 : decode b_Mo_clear 5 = .ok (.if_icmp .ge 15, 3) := by decide +kernel
theorem d_Mo_clear_8 : decode b_Mo_clear 8 = .ok (.aload_n 0, 1) := by decide +kernel
theorem d_Mo_clear_9 : decode b_Mo_clear 9 = .ok (.iload_n 1, 1) := by decide +kernel
theorem d_Mo_clear_10 : decode b_Mo_clear 10 = .ok (.iload_n 2, 1) := by decide +kernel
theorem d_Mo_clear_11 : decode b_Mo_clear 11 = .ok (.iadd, 1) := by decide +kernel
theorem d_Mo_clear_12 : decode b_Mo_clear 12 = .ok (.lconst 0, 1) := by decide +kernel
theorem d_Mo_clear_13 : decode b_Mo_clear 13 = .ok (.lastore, 1) := by decide +kernel
theorem d_Mo_clear_14 : decode b_Mo_clear 14 = .ok (.iinc 2 1, 3) := by decide +kernel
theorem d_Mo_clear_17 : decode b_Mo_clear 17 = .ok (.goto (-15), 3) := by decide +kernel
theorem d_Mo_clear_20 : decode b_Mo_clear 20 = .ok (.return_, 1) := by decide +kernel
theorem d_Mo_addTimes_0 : decode b_Mo_addTimes 0 = .ok (.lconst 0, 1) := by decide +kernel
theorem d_Mo_addTimes_1 : decode b_Mo_addTimes 1 = .ok (.lstore 6, 2) := by decide +kernel
theorem d_Mo_addTimes_3 : decode b_Mo_addTimes 3 = .ok (.iconst 0, 1) := by decide +kernel
theorem d_Mo_addTimes_4 : decode b_Mo_addTimes 4 = .ok (.istore 8, 2) := by decide +kernel
theorem d_Mo_addTimes_6 : decode b_Mo_addTimes 6 = .ok (.iload 8, 2) := by decide +kernel
theorem d_Mo_addTimes_8 : decode b_Mo_addTimes 8 = .ok (.bipush 8, 2) := by decide +kernel
theorem d_Mo_addTimes_10 : decode b_Mo_addTimes 10 = .ok (.if_icmp .ge 50, 3) := by decide +kernel
theorem d_Mo_addTimes_13 : decode b_Mo_addTimes 13 = .ok (.lload 6, 2) := by decide +kernel
theorem d_Mo_addTimes_15 : decode b_Mo_addTimes 15 = .ok (.aload_n 0, 1) := by decide +kernel
theorem d_Mo_addTimes_16 : decode b_Mo_addTimes 16 = .ok (.iload_n 1, 1) := by decide +kernel
theorem d_Mo_addTimes_17 : decode b_Mo_addTimes 17 = .ok (.iload 8, 2) := by decide +kernel
theorem d_Mo_addTimes_19 : decode b_Mo_addTimes 19 = .ok (.iadd, 1) := by decide +kernel
theorem d_Mo_addTimes_20 : decode b_Mo_addTimes 20 = .ok (.laload, 1) := by decide +kernel
theorem d_Mo_addTimes_21 : decode b_Mo_addTimes 21 = .ok (.ladd, 1) := by decide +kernel
theorem d_Mo_addTimes_22 : decode b_Mo_addTimes 22 = .ok (.aload_n 2, 1) := by decide +kernel
theorem d_Mo_addTimes_23 : decode b_Mo_addTimes 23 = .ok (.iload_n 3, 1) := by decide +kernel
theorem d_Mo_addTimes_24 : decode b_Mo_addTimes 24 = .ok (.iload 8, 2) := by decide +kernel
theorem d_Mo_addTimes_26 : decode b_Mo_addTimes 26 = .ok (.iadd, 1) := by decide +kernel
theorem d_Mo_addTimes_27 : decode b_Mo_addTimes 27 = .ok (.laload, 1) := by decide +kernel
theorem d_Mo_addTimes_28 : decode b_Mo_addTimes 28 = .ok (.lload 4, 2) := by decide +kernel
theorem d_Mo_addTimes_30 : decode b_Mo_addTimes 30 = .ok (.lmul, 1) := by decide +kernel
theorem d_Mo_addTimes_31 : decode b_Mo_addTimes 31 = .ok (.ladd, 1) := by decide +kernel
theorem d_Mo_addTimes_32 : decode b_Mo_addTimes 32 = .ok (.lstore 6, 2) := by decide +kernel
theorem d_Mo_addTimes_34 : decode b_Mo_addTimes 34 = .ok (.aload_n 0, 1) := by decide +kernel
theorem d_Mo_addTimes_35 : decode b_Mo_addTimes 35 = .ok (.iload_n 1, 1) := by decide +kernel
theorem d_Mo_addTimes_36 : decode b_Mo_addTimes 36 = .ok (.iload 8, 2) := by decide +kernel
theorem d_Mo_addTimes_38 : decode b_Mo_addTimes 38 = .ok (.iadd, 1) := by decide +kernel
theorem d_Mo_addTimes_39 : decode b_Mo_addTimes 39 = .ok (.lload 6, 2) := by decide +kernel
theorem d_Mo_addTimes_41 : decode b_Mo_addTimes 41 = .ok (.ldc2_w 137, 3) := by decide +kernel
theorem d_Mo_addTimes_44 : decode b_Mo_addTimes 44 = .ok (.lrem, 1) := by decide +kernel
theorem d_Mo_addTimes_45 : decode b_Mo_addTimes 45 = .ok (.lastore, 1) := by decide +kernel
theorem d_Mo_addTimes_46 : decode b_Mo_addTimes 46 = .ok (.lload 6, 2) := by decide +kernel
theorem d_Mo_addTimes_48 : decode b_Mo_addTimes 48 = .ok (.ldc2_w 137, 3) := by decide +kernel
theorem d_Mo_addTimes_51 : decode b_Mo_addTimes 51 = .ok (.ldiv, 1) := by decide +kernel
theorem d_Mo_addTimes_52 : decode b_Mo_addTimes 52 = .ok (.lstore 6, 2) := by decide +kernel
theorem d_Mo_addTimes_54 : decode b_Mo_addTimes 54 = .ok (.iinc 8 1, 3) := by decide +kernel
theorem d_Mo_addTimes_57 : decode b_Mo_addTimes 57 = .ok (.goto (-51), 3) := by decide +kernel
theorem d_Mo_addTimes_60 : decode b_Mo_addTimes 60 = .ok (.return_, 1) := by decide +kernel
theorem d_Mo_times_0 : decode b_Mo_times 0 = .ok (.lconst 0, 1) := by decide +kernel
theorem d_Mo_times_1 : decode b_Mo_times 1 = .ok (.lstore 4, 2) := by decide +kernel
theorem d_Mo_times_3 : decode b_Mo_times 3 = .ok (.iconst 0, 1) := by decide +kernel
theorem d_Mo_times_4 : decode b_Mo_times 4 = .ok (.istore 6, 2) := by decide +kernel
theorem d_Mo_times_6 : decode b_Mo_times 6 = .ok (.iload 6, 2) := by decide +kernel
theorem d_Mo_times_8 : decode b_Mo_times 8 = .ok (.bipush 8, 2) := by decide +kernel
theorem d_Mo_times_10 : decode b_Mo_times 10 = .ok (.if_icmp .ge 42, 3) := by decide +kernel
theorem d_Mo_times_13 : decode b_Mo_times 13 = .ok (.lload 4, 2) := by decide +kernel
theorem d_Mo_times_15 : decode b_Mo_times 15 = .ok (.aload_n 0, 1) := by decide +kernel
theorem d_Mo_times_16 : decode b_Mo_times 16 = .ok (.iload_n 1, 1) := by decide +kernel
theorem d_Mo_times_17 : decode b_Mo_times 17 = .ok (.iload 6, 2) := by decide +kernel
theorem d_Mo_times_19 : decode b_Mo_times 19 = .ok (.iadd, 1) := by decide +kernel
theorem d_Mo_times_20 : decode b_Mo_times 20 = .ok (.laload, 1) := by decide +kernel
theorem d_Mo_times_21 : decode b_Mo_times 21 = .ok (.lload_n 2, 1) := by decide +kernel
theorem d_Mo_times_22 : decode b_Mo_times 22 = .ok (.lmul, 1) := by decide +kernel
theorem d_Mo_times_23 : decode b_Mo_times 23 = .ok (.ladd, 1) := by decide +kernel
theorem d_Mo_times_24 : decode b_Mo_times 24 = .ok (.lstore 4, 2) := by decide +kernel
theorem d_Mo_times_26 : decode b_Mo_times 26 = .ok (.aload_n 0, 1) := by decide +kernel
theorem d_Mo_times_27 : decode b_Mo_times 27 = .ok (.iload_n 1, 1) := by decide +kernel
theorem d_Mo_times_28 : decode b_Mo_times 28 = .ok (.iload 6, 2) := by decide +kernel
theorem d_Mo_times_30 : decode b_Mo_times 30 = .ok (.iadd, 1) := by decide +kernel
theorem d_Mo_times_31 : decode b_Mo_times 31 = .ok (.lload 4, 2) := by decide +kernel
theorem d_Mo_times_33 : decode b_Mo_times 33 = .ok (.ldc2_w 137, 3) := by decide +kernel
theorem d_Mo_times_36 : decode b_Mo_times 36 = .ok (.lrem, 1) := by decide +kernel
theorem d_Mo_times_37 : decode b_Mo_times 37 = .ok (.lastore, 1) := by decide +kernel
theorem d_Mo_times_38 : decode b_Mo_times 38 = .ok (.lload 4, 2) := by decide +kernel
theorem d_Mo_times_40 : decode b_Mo_times 40 = .ok (.ldc2_w 137, 3) := by decide +kernel
theorem d_Mo_times_43 : decode b_Mo_times 43 = .ok (.ldiv, 1) := by decide +kernel
theorem d_Mo_times_44 : decode b_Mo_times 44 = .ok (.lstore 4, 2) := by decide +kernel
theorem d_Mo_times_46 : decode b_Mo_times 46 = .ok (.iinc 6 1, 3) := by decide +kernel
theorem d_Mo_times_49 : decode b_Mo_times 49 = .ok (.goto (-43), 3) := by decide +kernel
theorem d_Mo_times_52 : decode b_Mo_times 52 = .ok (.return_, 1) := by decide +kernel
theorem d_Mo_compare_0 : decode b_Mo_compare 0 = .ok (.iconst 0, 1) := by decide +kernel
theorem d_Mo_compare_1 : decode b_Mo_compare 1 = .ok (.istore 4, 2) := by decide +kernel
theorem d_Mo_compare_3 : decode b_Mo_compare 3 = .ok (.iconst 0, 1) := by decide +kernel
theorem d_Mo_compare_4 : decode b_Mo_compare 4 = .ok (.istore 5, 2) := by decide +kernel
theorem d_Mo_compare_6 : decode b_Mo_compare 6 = .ok (.iload 5, 2) := by decide +kernel
theorem d_Mo_compare_8 : decode b_Mo_compare 8 = .ok (.bipush 8, 2) := by decide +kernel
theorem d_Mo_compare_10 : decode b_Mo_compare 10 = .ok (.if_icmp .ge 53, 3) := by decide +kernel
theorem d_Mo_compare_13 : decode b_Mo_compare 13 = .ok (.aload_n 0, 1) := by decide +kernel
theorem d_Mo_compare_14 : decode b_Mo_compare 14 = .ok (.iload_n 1, 1) := by decide +kernel
theorem d_Mo_compare_15 : decode b_Mo_compare 15 = .ok (.iload 5, 2) := by decide +kernel
theorem d_Mo_compare_17 : decode b_Mo_compare 17 = .ok (.iadd, 1) := by decide +kernel
theorem d_Mo_compare_18 : decode b_Mo_compare 18 = .ok (.laload, 1) := by decide +kernel
theorem d_Mo_compare_19 : decode b_Mo_compare 19 = .ok (.aload_n 2, 1) := by decide +kernel
theorem d_Mo_compare_20 : decode b_Mo_compare 20 = .ok (.iload_n 3, 1) := by decide +kernel
theorem d_Mo_compare_21 : decode b_Mo_compare 21 = .ok (.iload 5, 2) := by decide +kernel
theorem d_Mo_compare_23 : decode b_Mo_compare 23 = .ok (.iadd, 1) := by decide +kernel
theorem d_Mo_compare_24 : decode b_Mo_compare 24 = .ok (.laload, 1) := by decide +kernel
theorem d_Mo_compare_25 : decode b_Mo_compare 25 = .ok (.lcmp, 1) := by decide +kernel
theorem d_Mo_compare_26 : decode b_Mo_compare 26 = .ok (.ifCond .ge 7, 3) := by decide +kernel
theorem d_Mo_compare_29 : decode b_Mo_compare 29 = .ok (.iconst (-1), 1) := by decide +kernel
theorem d_Mo_compare_30 : decode b_Mo_compare 30 = .ok (.goto 25, 3) := by decide +kernel
theorem d_Mo_compare_33 : decode b_Mo_compare 33 = .ok (.aload_n 0, 1) := by decide +kernel
theorem d_Mo_compare_34 : decode b_Mo_compare 34 = .ok (.iload_n 1, 1) := by decide +kernel
theorem d_Mo_compare_35 : decode b_Mo_compare 35 = .ok (.iload 5, 2) := by decide +kernel
theorem d_Mo_compare_37 : decode b_Mo_compare 37 = .ok (.iadd, 1) := by decide +kernel
theorem d_Mo_compare_38 : decode b_Mo_compare 38 = .ok (.laload, 1) := by decide +kernel
theorem d_Mo_compare_39 : decode b_Mo_compare 39 = .ok (.aload_n 2, 1) := by decide +kernel
theorem d_Mo_compare_40 : decode b_Mo_compare 40 = .ok (.iload_n 3, 1) := by decide +kernel
theorem d_Mo_compare_41 : decode b_Mo_compare 41 = .ok (.iload 5, 2) := by decide +kernel
theorem d_Mo_compare_43 : decode b_Mo_compare 43 = .ok (.iadd, 1) := by decide +kernel
theorem d_Mo_compare_44 : decode b_Mo_compare 44 = .ok (.laload, 1) := by decide +kernel
theorem d_Mo_compare_45 : decode b_Mo_compare 45 = .ok (.lcmp, 1) := by decide +kernel
theorem d_Mo_compare_46 : decode b_Mo_compare 46 = .ok (.ifCond .le 7, 3) := by decide +kernel
theorem d_Mo_compare_49 : decode b_Mo_compare 49 = .ok (.iconst 1, 1) := by decide +kernel
theorem d_Mo_compare_50 : decode b_Mo_compare 50 = .ok (.goto 5, 3) := by decide +kernel
theorem d_Mo_compare_53 : decode b_Mo_compare 53 = .ok (.iload 4, 2) := by decide +kernel
theorem d_Mo_compare_55 : decode b_Mo_compare 55 = .ok (.istore 4, 2) := by decide +kernel
theorem d_Mo_compare_57 : decode b_Mo_compare 57 = .ok (.iinc 5 1, 3) := by decide +kernel
theorem d_Mo_compare_60 : decode b_Mo_compare 60 = .ok (.goto (-54), 3) := by decide +kernel
theorem d_Mo_compare_63 : decode b_Mo_compare 63 = .ok (.iload 4, 2) := by decide +kernel
theorem d_Mo_compare_65 : decode b_Mo_compare 65 = .ok (.ireturn, 1) := by decide +kernel
theorem d_Mo_isNothing_0 : decode b_Mo_isNothing 0 = .ok (.iconst 1, 1) := by decide +kernel
theorem d_Mo_isNothing_1 : decode b_Mo_isNothing 1 = .ok (.istore_n 1, 1) := by decide +kernel
theorem d_Mo_isNothing_2 : decode b_Mo_isNothing 2 = .ok (.iconst 0, 1) := by decide +kernel
theorem d_Mo_isNothing_3 : decode b_Mo_isNothing 3 = .ok (.istore_n 2, 1) := by decide +kernel
theorem d_Mo_isNothing_4 : decode b_Mo_isNothing 4 = .ok (.iload_n 2, 1) := by decide +kernel
theorem d_Mo_isNothing_5 : decode b_Mo_isNothing 5 = .ok (.bipush 8, 2) := by decide +kernel
theorem d_Mo_isNothing_7 : decode b_Mo_isNothing 7 = .ok (.if_icmp .ge 27, 3) := by decide +kernel
theorem d_Mo_isNothing_10 : decode b_Mo_isNothing 10 = .ok (.iload_n 1, 1) := by decide +kernel
theorem d_Mo_isNothing_11 : decode b_Mo_isNothing 11 = .ok (.ifCond .eq 15, 3) := by decide +kernel
theorem d_Mo_isNothing_14 : decode b_Mo_isNothing 14 = .ok (.aload_n 0, 1) := by decide +kernel
theorem d_Mo_isNothing_15 : decode b_Mo_isNothing 15 = .ok (.iload_n 2, 1) := by decide +kernel
theorem d_Mo_isNothing_16 : decode b_Mo_isNothing 16 = .ok (.laload, 1) := by decide +kernel
theorem d_Mo_isNothing_17 : decode b_Mo_isNothing 17 = .ok (.lconst 0, 1) := by decide +kernel
theorem d_Mo_isNothing_18 : decode b_Mo_isNothing 18 = .ok (.lcmp, 1) := by decide +kernel
theorem d_Mo_isNothing_19 : decode b_Mo_isNothing 19 = .ok (.ifCond .ne 7, 3) := by decide +kernel
theorem d_Mo_isNothing_22 : decode b_Mo_isNothing 22 = .ok (.iconst 1, 1) := by decide +kernel
theorem d_Mo_isNothing_23 : decode b_Mo_isNothing 23 = .ok (.goto 4, 3) := by decide +kernel
theorem d_Mo_isNothing_26 : decode b_Mo_isNothing 26 = .ok (.iconst 0, 1) := by decide +kernel
theorem d_Mo_isNothing_27 : decode b_Mo_isNothing 27 = .ok (.istore_n 1, 1) := by decide +kernel
theorem d_Mo_isNothing_28 : decode b_Mo_isNothing 28 = .ok (.iinc 2 1, 3) := by decide +kernel
theorem d_Mo_isNothing_31 : decode b_Mo_isNothing 31 = .ok (.goto (-27), 3) := by decide +kernel
theorem d_Mo_isNothing_34 : decode b_Mo_isNothing 34 = .ok (.iload_n 1, 1) := by decide +kernel
theorem d_Mo_isNothing_35 : decode b_Mo_isNothing 35 = .ok (.ireturn, 1) := by decide +kernel
theorem d_Mo_multiply_0 : decode b_Mo_multiply 0 = .ok (.iconst 0, 1) := by decide +kernel
theorem d_Mo_multiply_1 : decode b_Mo_multiply 1 = .ok (.istore 5, 2) := by decide +kernel
theorem d_Mo_multiply_3 : decode b_Mo_multiply 3 = .ok (.iload 5, 2) := by decide +kernel
theorem d_Mo_multiply_5 : decode b_Mo_multiply 5 = .ok (.bipush 17, 2) := by decide +kernel
theorem d_Mo_multiply_7 : decode b_Mo_multiply 7 = .ok (.if_icmp .ge 17, 3) := by decide +kernel
theorem d_Mo_multiply_10 : decode b_Mo_multiply 10 = .ok (.aload_n 0, 1) := by decide +kernel
theorem d_Mo_multiply_11 : decode b_Mo_multiply 11 = .ok (.getfield 60, 3) := by decide +kernel
theorem d_Mo_multiply_14 : decode b_Mo_multiply 14 = .ok (.iload 5, 2) := by decide +kernel
theorem d_Mo_multiply_16 : decode b_Mo_multiply 16 = .ok (.lconst 0, 1) := by decide +kernel
theorem d_Mo_multiply_17 : decode b_Mo_multiply 17 = .ok (.lastore, 1) := by decide +kernel
theorem d_Mo_multiply_18 : decode b_Mo_multiply 18 = .ok (.iinc 5 1, 3) := by decide +kernel
theorem d_Mo_multiply_21 : decode b_Mo_multiply 21 = .ok (.goto (-18), 3) := by decide +kernel
theorem d_Mo_multiply_24 : decode b_Mo_multiply 24 = .ok (.iconst 0, 1) := by decide +kernel
theorem d_Mo_multiply_25 : decode b_Mo_multiply 25 = .ok (.istore 5, 2) := by decide +kernel
theorem d_Mo_multiply_27 : decode b_Mo_multiply 27 = .ok (.iload 5, 2) := by decide +kernel
theorem d_Mo_multiply_29 : decode b_Mo_multiply 29 = .ok (.bipush 8, 2) := by decide +kernel
theorem d_Mo_multiply_31 : decode b_Mo_multiply 31 = .ok (.if_icmp .ge 94, 3) := by decide +kernel
theorem d_Mo_multiply_34 : decode b_Mo_multiply 34 = .ok (.lconst 0, 1) := by decide +kernel
theorem d_Mo_multiply_35 : decode b_Mo_multiply 35 = .ok (.lstore 6, 2) := by decide +kernel
theorem d_Mo_multiply_37 : decode b_Mo_multiply 37 = .ok (.iconst 0, 1) := by decide +kernel
theorem d_Mo_multiply_38 : decode b_Mo_multiply 38 = .ok (.istore 8, 2) := by decide +kernel
theorem d_Mo_multiply_40 : decode b_Mo_multiply 40 = .ok (.iload 8, 2) := by decide +kernel
theorem d_Mo_multiply_42 : decode b_Mo_multiply 42 = .ok (.bipush 8, 2) := by decide +kernel
theorem d_Mo_multiply_44 : decode b_Mo_multiply 44 = .ok (.if_icmp .ge 63, 3) := by decide +kernel
theorem d_Mo_multiply_47 : decode b_Mo_multiply 47 = .ok (.lload 6, 2) := by decide +kernel
theorem d_Mo_multiply_49 : decode b_Mo_multiply 49 = .ok (.aload_n 0, 1) := by decide +kernel
theorem d_Mo_multiply_50 : decode b_Mo_multiply 50 = .ok (.getfield 60, 3) := by decide +kernel
theorem d_Mo_multiply_53 : decode b_Mo_multiply 53 = .ok (.iload 5, 2) := by decide +kernel
theorem d_Mo_multiply_55 : decode b_Mo_multiply 55 = .ok (.iload 8, 2) := by decide +kernel
theorem d_Mo_multiply_57 : decode b_Mo_multiply 57 = .ok (.iadd, 1) := by decide +kernel
theorem d_Mo_multiply_58 : decode b_Mo_multiply 58 = .ok (.laload, 1) := by decide +kernel
theorem d_Mo_multiply_59 : decode b_Mo_multiply 59 = .ok (.ladd, 1) := by decide +kernel
theorem d_Mo_multiply_60 : decode b_Mo_multiply 60 = .ok (.aload_n 1, 1) := by decide +kernel
theorem d_Mo_multiply_61 : decode b_Mo_multiply 61 = .ok (.iload_n 2, 1) := by decide +kernel
theorem d_Mo_multiply_62 : decode b_Mo_multiply 62 = .ok (.iload 5, 2) := by decide +kernel
theorem d_Mo_multiply_64 : decode b_Mo_multiply 64 = .ok (.iadd, 1) := by decide +kernel
theorem d_Mo_multiply_65 : decode b_Mo_multiply 65 = .ok (.laload, 1) := by decide +kernel
theorem d_Mo_multiply_66 : decode b_Mo_multiply 66 = .ok (.aload_n 3, 1) := by decide +kernel
theorem d_Mo_multiply_67 : decode b_Mo_multiply 67 = .ok (.iload 4, 2) := by decide +kernel
theorem d_Mo_multiply_69 : decode b_Mo_multiply 69 = .ok (.iload 8, 2) := by decide +kernel
theorem d_Mo_multiply_71 : decode b_Mo_multiply 71 = .ok (.iadd, 1) := by decide +kernel
theorem d_Mo_multiply_72 : decode b_Mo_multiply 72 = .ok (.laload, 1) := by decide +kernel
theorem d_Mo_multiply_73 : decode b_Mo_multiply 73 = .ok (.lmul, 1) := by decide +kernel
theorem d_Mo_multiply_74 : decode b_Mo_multiply 74 = .ok (.ladd, 1) := by decide +kernel
theorem d_Mo_multiply_75 : decode b_Mo_multiply 75 = .ok (.lstore 6, 2) := by decide +kernel
theorem d_Mo_multiply_77 : decode b_Mo_multiply 77 = .ok (.aload_n 0, 1) := by decide +kernel
theorem d_Mo_multiply_78 : decode b_Mo_multiply 78 = .ok (.getfield 60, 3) := by decide +kernel
theorem d_Mo_multiply_81 : decode b_Mo_multiply 81 = .ok (.iload 5, 2) := by decide +kernel
theorem d_Mo_multiply_83 : decode b_Mo_multiply 83 = .ok (.iload 8, 2) := by decide +kernel
theorem d_Mo_multiply_85 : decode b_Mo_multiply 85 = .ok (.iadd, 1) := by decide +kernel
theorem d_Mo_multiply_86 : decode b_Mo_multiply 86 = .ok (.lload 6, 2) := by decide +kernel
theorem d_Mo_multiply_88 : decode b_Mo_multiply 88 = .ok (.ldc2_w 137, 3) := by decide +kernel
theorem d_Mo_multiply_91 : decode b_Mo_multiply 91 = .ok (.lrem, 1) := by decide +kernel
theorem d_Mo_multiply_92 : decode b_Mo_multiply 92 = .ok (.lastore, 1) := by decide +kernel
theorem d_Mo_multiply_93 : decode b_Mo_multiply 93 = .ok (.lload 6, 2) := by decide +kernel
theorem d_Mo_multiply_95 : decode b_Mo_multiply 95 = .ok (.ldc2_w 137, 3) := by decide +kernel
theorem d_Mo_multiply_98 : decode b_Mo_multiply 98 = .ok (.ldiv, 1) := by decide +kernel
theorem d_Mo_multiply_99 : decode b_Mo_multiply 99 = .ok (.lstore 6, 2) := by decide +kernel
theorem d_Mo_multiply_101 : decode b_Mo_multiply 101 = .ok (.iinc 8 1, 3) := by decide +kernel
theorem d_Mo_multiply_104 : decode b_Mo_multiply 104 = .ok (.goto (-64), 3) := by decide +kernel
theorem d_Mo_multiply_107 : decode b_Mo_multiply 107 = .ok (.aload_n 0, 1) := by decide +kernel
theorem d_Mo_multiply_108 : decode b_Mo_multiply 108 = .ok (.getfield 60, 3) := by decide +kernel
theorem d_Mo_multiply_111 : decode b_Mo_multiply 111 = .ok (.iload 5, 2) := by decide +kernel
theorem d_Mo_multiply_113 : decode b_Mo_multiply 113 = .ok (.bipush 8, 2) := by decide +kernel
theorem d_Mo_multiply_115 : decode b_Mo_multiply 115 = .ok (.iadd, 1) := by decide +kernel
theorem d_Mo_multiply_116 : decode b_Mo_multiply 116 = .ok (.lload 6, 2) := by decide +kernel
theorem d_Mo_multiply_118 : decode b_Mo_multiply 118 = .ok (.lastore, 1) := by decide +kernel
theorem d_Mo_multiply_119 : decode b_Mo_multiply 119 = .ok (.iinc 5 1, 3) := by decide +kernel
theorem d_Mo_multiply_122 : decode b_Mo_multiply 122 = .ok (.goto (-95), 3) := by decide +kernel
theorem d_Mo_multiply_125 : decode b_Mo_multiply 125 = .ok (.return_, 1) := by decide +kernel
theorem d_Mo_bitsOf_0 : decode b_Mo_bitsOf 0 = .ok (.iconst 0, 1) := by decide +kernel
theorem d_Mo_bitsOf_1 : decode b_Mo_bitsOf 1 = .ok (.istore_n 1, 1) := by decide +kernel
theorem d_Mo_bitsOf_2 : decode b_Mo_bitsOf 2 = .ok (.iconst 0, 1) := by decide +kernel
theorem d_Mo_bitsOf_3 : decode b_Mo_bitsOf 3 = .ok (.istore_n 2, 1) := by decide +kernel
theorem d_Mo_bitsOf_4 : decode b_Mo_bitsOf 4 = .ok (.iload_n 2, 1) := by decide +kernel
theorem d_Mo_bitsOf_5 : decode b_Mo_bitsOf 5 = .ok (.bipush 6, 2) := by decide +kernel
theorem d_Mo_bitsOf_7 : decode b_Mo_bitsOf 7 = .ok (.if_icmp .ge 17, 3) := by decide +kernel
theorem d_Mo_bitsOf_10 : decode b_Mo_bitsOf 10 = .ok (.iload_n 1, 1) := by decide +kernel
theorem d_Mo_bitsOf_11 : decode b_Mo_bitsOf 11 = .ok (.iload_n 0, 1) := by decide +kernel
theorem d_Mo_bitsOf_12 : decode b_Mo_bitsOf 12 = .ok (.iload_n 2, 1) := by decide +kernel
theorem d_Mo_bitsOf_13 : decode b_Mo_bitsOf 13 = .ok (.ishr, 1) := by decide +kernel
theorem d_Mo_bitsOf_14 : decode b_Mo_bitsOf 14 = .ok (.iconst 1, 1) := by decide +kernel
theorem d_Mo_bitsOf_15 : decode b_Mo_bitsOf 15 = .ok (.iand, 1) := by decide +kernel
theorem d_Mo_bitsOf_16 : decode b_Mo_bitsOf 16 = .ok (.iadd, 1) := by decide +kernel
theorem d_Mo_bitsOf_17 : decode b_Mo_bitsOf 17 = .ok (.istore_n 1, 1) := by decide +kernel
theorem d_Mo_bitsOf_18 : decode b_Mo_bitsOf 18 = .ok (.iinc 2 1, 3) := by decide +kernel
theorem d_Mo_bitsOf_21 : decode b_Mo_bitsOf 21 = .ok (.goto (-17), 3) := by decide +kernel
theorem d_Mo_bitsOf_24 : decode b_Mo_bitsOf 24 = .ok (.iload_n 1, 1) := by decide +kernel
theorem d_Mo_bitsOf_25 : decode b_Mo_bitsOf 25 = .ok (.ireturn, 1) := by decide +kernel
theorem d_Mo_reckonChanges_0 : decode b_Mo_reckonChanges 0 = .ok (.iconst 0, 1) := by decide +kernel
theorem d_Mo_reckonChanges_1 : decode b_Mo_reckonChanges 1 = .ok (.istore_n 2, 1) := by decide +kernel
theorem d_Mo_reckonChanges_2 : decode b_Mo_reckonChanges 2 = .ok (.iload_n 2, 1) := by decide +kernel
theorem d_Mo_reckonChanges_3 : decode b_Mo_reckonChanges 3 = .ok (.iconst 2, 1) := by decide +kernel
theorem d_Mo_reckonChanges_4 : decode b_Mo_reckonChanges 4 = .ok (.aload_n 0, 1) := by decide +kernel
theorem d_Mo_reckonChanges_5 : decode b_Mo_reckonChanges 5 = .ok (.getfield 86, 3) := by decide +kernel
theorem d_Mo_reckonChanges_8 : decode b_Mo_reckonChanges 8 = .ok (.imul, 1) := by decide +kernel
theorem d_Mo_reckonChanges_9 : decode b_Mo_reckonChanges 9 = .ok (.if_icmp .gt 71, 3) := by decide +kernel
theorem d_Mo_reckonChanges_12 : decode b_Mo_reckonChanges 12 = .ok (.aload_n 0, 1) := by decide +kernel
theorem d_Mo_reckonChanges_13 : decode b_Mo_reckonChanges 13 = .ok (.getfield 63, 3) := by decide +kernel
theorem d_Mo_reckonChanges_16 : decode b_Mo_reckonChanges 16 = .ok (.iload_n 2, 1) := by decide +kernel
theorem d_Mo_reckonChanges_17 : decode b_Mo_reckonChanges 17 = .ok (.lconst 1, 1) := by decide +kernel
theorem d_Mo_reckonChanges_18 : decode b_Mo_reckonChanges 18 = .ok (.lastore, 1) := by decide +kernel
theorem d_Mo_reckonChanges_19 : decode b_Mo_reckonChanges 19 = .ok (.iconst 0, 1) := by decide +kernel
theorem d_Mo_reckonChanges_20 : decode b_Mo_reckonChanges 20 = .ok (.istore_n 3, 1) := by decide +kernel
theorem d_Mo_reckonChanges_21 : decode b_Mo_reckonChanges 21 = .ok (.iload_n 3, 1) := by decide +kernel
theorem d_Mo_reckonChanges_22 : decode b_Mo_reckonChanges 22 = .ok (.iconst 2, 1) := by decide +kernel
theorem d_Mo_reckonChanges_23 : decode b_Mo_reckonChanges 23 = .ok (.aload_n 0, 1) := by decide +kernel
theorem d_Mo_reckonChanges_24 : decode b_Mo_reckonChanges 24 = .ok (.getfield 86, 3) := by decide +kernel
theorem d_Mo_reckonChanges_27 : decode b_Mo_reckonChanges 27 = .ok (.imul, 1) := by decide +kernel
theorem d_Mo_reckonChanges_28 : decode b_Mo_reckonChanges 28 = .ok (.if_icmp .ge 46, 3) := by decide +kernel
theorem d_Mo_reckonChanges_31 : decode b_Mo_reckonChanges 31 = .ok (.aload_n 0, 1) := by decide +kernel
theorem d_Mo_reckonChanges_32 : decode b_Mo_reckonChanges 32 = .ok (.getfield 63, 3) := by decide +kernel
theorem d_Mo_reckonChanges_35 : decode b_Mo_reckonChanges 35 = .ok (.iload_n 2, 1) := by decide +kernel
theorem d_Mo_reckonChanges_36 : decode b_Mo_reckonChanges 36 = .ok (.aload_n 0, 1) := by decide +kernel
theorem d_Mo_reckonChanges_37 : decode b_Mo_reckonChanges 37 = .ok (.getfield 63, 3) := by decide +kernel
theorem d_Mo_reckonChanges_40 : decode b_Mo_reckonChanges 40 = .ok (.iload_n 2, 1) := by decide +kernel
theorem d_Mo_reckonChanges_41 : decode b_Mo_reckonChanges 41 = .ok (.laload, 1) := by decide +kernel
theorem d_Mo_reckonChanges_42 : decode b_Mo_reckonChanges 42 = .ok (.iload_n 3, 1) := by decide +kernel
theorem d_Mo_reckonChanges_43 : decode b_Mo_reckonChanges 43 = .ok (.iload_n 2, 1) := by decide +kernel
theorem d_Mo_reckonChanges_44 : decode b_Mo_reckonChanges 44 = .ok (.if_icmp .ge 12, 3) := by decide +kernel
theorem d_Mo_reckonChanges_47 : decode b_Mo_reckonChanges 47 = .ok (.aload_n 0, 1) := by decide +kernel
theorem d_Mo_reckonChanges_48 : decode b_Mo_reckonChanges 48 = .ok (.getfield 25, 3) := by decide +kernel
theorem d_Mo_reckonChanges_51 : decode b_Mo_reckonChanges 51 = .ok (.iload_n 1, 1) := by decide +kernel
theorem d_Mo_reckonChanges_52 : decode b_Mo_reckonChanges 52 = .ok (.iaload, 1) := by decide +kernel
theorem d_Mo_reckonChanges_53 : decode b_Mo_reckonChanges 53 = .ok (.goto 12, 3) := by decide +kernel
theorem d_Mo_reckonChanges_56 : decode b_Mo_reckonChanges 56 = .ok (.bipush 16, 2) := by decide +kernel
theorem d_Mo_reckonChanges_58 : decode b_Mo_reckonChanges 58 = .ok (.aload_n 0, 1) := by decide +kernel
theorem d_Mo_reckonChanges_59 : decode b_Mo_reckonChanges 59 = .ok (.getfield 25, 3) := by decide +kernel
theorem d_Mo_reckonChanges_62 : decode b_Mo_reckonChanges 62 = .ok (.iload_n 1, 1) := by decide +kernel
theorem d_Mo_reckonChanges_63 : decode b_Mo_reckonChanges 63 = .ok (.iaload, 1) := by decide +kernel
theorem d_Mo_reckonChanges_64 : decode b_Mo_reckonChanges 64 = .ok (.isub, 1) := by decide +kernel
theorem d_Mo_reckonChanges_65 : decode b_Mo_reckonChanges 65 = .ok (.i2l, 1) := by decide +kernel
theorem d_Mo_reckonChanges_66 : decode b_Mo_reckonChanges 66 = .ok (.lmul, 1) := by decide +kernel
theorem d_Mo_reckonChanges_67 : decode b_Mo_reckonChanges 67 = .ok (.lastore, 1) := by decide +kernel
theorem d_Mo_reckonChanges_68 : decode b_Mo_reckonChanges 68 = .ok (.iinc 3 1, 3) := by decide +kernel
theorem d_Mo_reckonChanges_71 : decode b_Mo_reckonChanges 71 = .ok (.goto (-50), 3) := by decide +kernel
theorem d_Mo_reckonChanges_74 : decode b_Mo_reckonChanges 74 = .ok (.iinc 2 1, 3) := by decide +kernel
theorem d_Mo_reckonChanges_77 : decode b_Mo_reckonChanges 77 = .ok (.goto (-75), 3) := by decide +kernel
theorem d_Mo_reckonChanges_80 : decode b_Mo_reckonChanges 80 = .ok (.return_, 1) := by decide +kernel
end
section
set_option maxRecDepth 100000 in
set_option maxHeartbeats 4000000 in
theorem k_Mo_reckonFit (l : Launch) (D : va_G) (K : Nat → ClassId) (mh : Nat) (qor : Nat) (qfa : Nat) (qmo : Nat) (qwt : Nat) (qrt : Nat) (qnw : Nat) (qsn : Nat) (qlt : Nat) (qkn : Nat) (qft : Nat) (qbf : Nat) (qbh : Nat) (qjt : Nat) (qot : Nat) (qsm : Nat) (qpt : Nat) (qpr : Nat) (qch : Nat) (qbt : Nat) (qpg : Nat) (flt : Nat) (np : Nat) (nf : Nat) (nc : Nat) (nm : Nat) (wr : Nat) (rk : Nat → Nat) (fa : Nat → Nat) (mo : Nat → Nat) (mw : Nat → Nat) (sn : Nat → Nat) (lt : Nat → Nat) (wt : Nat → Nat) (ol : Nat → Nat) (tl : Nat → Nat) (mk : Nat) (w : Nat) (hF0 : fm_ok nf nc fa mo rk) (hnp : np = nf + nc) (hS : sn_ok ol tl) (hcd : ∀ q i, q < 6 → i < 4 → sn (4 * q + i) = mo_cd (ol (i * 6 + q)) (tl (i * 6 + q))) (hmw : ∀ i l, i < nm → 1 ≤ l → l ≤ 3 → mw (4 * i + l) = ma_wt wt i l) (hW8 : ∀ i, i < nm → ma_wt wt i 1 + ma_wt wt i 2 + ma_wt wt i 3 = 8) (hm4 : nm ≤ 4) (hm : mk < nm) (hw1 : w < 64) : mg_Mi l D K y_Mo_reckonFit b_Mo_reckonFit 9 (.int) ({ frames := 2, cells := 0, slots := 0, locals := 53 }) [.ref (mh), .int (nI (mk)), .int (nI (w))] [mg_ob mh 6 [.int (nI (flt)), .int (nI (np)), .int (nI (nf)), .int (nI (nc)), .ref (qor), .ref (qfa), .ref (qmo), .int (nI (nm)), .ref (qwt), .ref (qrt), .ref (qnw), .ref (qsn), .ref (qlt), .ref (qkn), .ref (qft), .ref (qbf), .ref (qbh), .ref (qjt), .ref (qot), .ref (qsm), .ref (qpt), .ref (qpr), .ref (qch), .ref (qbt), .int (nI (wr)), .ref (qpg)], mg_ai K qor 6 rk, mg_ai K qfa 6 fa, mg_ai K qmo 6 mo, mg_ai K qwt 16 mw, mg_ai K qsn 24 sn, mg_ai K qlt 6 lt] (fun (r : Int32) (u : (Nat → Nat)) => r = nI (fi_fit wt ol tl fa mo rk nf nc mk w)) (fun (u : (Nat → Nat)) => [mg_ob mh 6 [.int (nI (flt)), .int (nI (np)), .int (nI (nf)), .int (nI (nc)), .ref (qor), .ref (qfa), .ref (qmo), .int (nI (nm)), .ref (qwt), .ref (qrt), .ref (qnw), .ref (qsn), .ref (qlt), .ref (qkn), .ref (qft), .ref (qbf), .ref (qbh), .ref (qjt), .ref (qot), .ref (qsm), .ref (qpt), .ref (qpr), .ref (qch), .ref (qbt), .int (nI (wr)), .ref (qpg)], mg_ai K qor 6 rk, mg_ai K qfa 6 fa, mg_ai K qmo 6 mo, mg_ai K qwt 16 mw, mg_ai K qsn 24 sn, mg_ai K qlt 6 u]) := by
  intro sz
  refine mg_entry (Qc := fun A => va_Qi (fun (r : Int32) (u : (Nat → Nat)) => r = nI (fi_fit wt ol tl fa mo rk nf nc mk w)) (mg_B D A (fun (u : (Nat → Nat)) => [mg_ob mh 6 [.int (nI (flt)), .int (nI (np)), .int (nI (nf)), .int (nI (nc)), .ref (qor), .ref (qfa), .ref (qmo), .int (nI (nm)), .ref (qwt), .ref (qrt), .ref (qnw), .ref (qsn), .ref (qlt), .ref (qkn), .ref (qft), .ref (qbf), .ref (qbh), .ref (qjt), .ref (qot), .ref (qsm), .ref (qpt), .ref (qpr), .ref (qch), .ref (qbt), .int (nI (wr)), .ref (qpg)], mg_ai K qor 6 rk, mg_ai K qfa 6 fa, mg_ai K qmo 6 mo, mg_ai K qwt 16 mw, mg_ai K qsn 24 sn, mg_ai K qlt 6 u])) A) (by decide) (Nat.le_of_ble_eq_true rfl) ?_
  intro p e s m args below meth c A ls X hr hlk hnm hA hK hw hl
  have hl : lv_has ls 9 [(0, .ref (mh)), (1, .int (nI (mk))), (2, .int (nI (w)))] := hl
  have hf1 := hF0.1
  have hf2 := hF0.2.1
  have hw8 := ma_w8 (hW8 mk hm)
  have hq9 : ∀ q, q < nf + nc → fm_src fa mo rk w 3 q 0 < 2 * nf ∧ fm_src fa mo rk w 3 q 1 < 2 * nf := fun q hq => ⟨fm_lt3 hF0 w hq (by omega), fm_lt3 hF0 w hq (by omega)⟩
  have h729 : 3 ^ (2 * nf) ≤ 729 := Nat.le_trans (Nat.pow_le_pow_right (by decide) (show 2 * nf ≤ 6 by omega)) (by decide)
  have h86 : 8 ^ (2 * nf) ≤ 262144 := Nat.le_trans (Nat.pow_le_pow_right (by decide) (show 2 * nf ≤ 6 by omega)) (by decide)
  have hp86 : ∀ i k, k ≤ 2 * nf → ft_p (ma_wt wt mk) (ft_dg i) k ≤ 262144 := fun i k hk => Nat.le_trans (ft_p_le (K := 2 * nf) (fun j _ => hw8 _ (ft_dg_in i j).1 (ft_dg_in i j).2) k hk) (Nat.le_trans (Nat.pow_le_pow_right (by decide) hk) h86)
  refine mg_iconst X 1 1 d_Mo_reckonFit_0 mg_ci_1 rfl ?_
  refine mg_istore_n X 2 [(3, .int (nI (1))), (0, .ref (mh)), (1, .int (nI (mk))), (2, .int (nI (w)))] d_Mo_reckonFit_1 hl (by decide) rfl rfl (fun ls hl => ?_)
  refine mg_iconst X 3 0 d_Mo_reckonFit_2 mg_ci_0 rfl ?_
  refine mg_istore X 5 [(4, .int (nI (0))), (3, .int (nI (1))), (0, .ref (mh)), (1, .int (nI (mk))), (2, .int (nI (w)))] d_Mo_reckonFit_3 hl (by decide) rfl rfl (fun ls hl => ?_)
  have L5 : ∀ (n0 : Nat) (k : Nat) (al : Nat), n0 = 2 * nf - k → (al = 3 ^ k) → (k ≤ 2 * nf) → ∀ (ls : Array Slot) (H : Heap) (locs : List Loc), lv_has ls 9 [(0, .ref (mh)), (1, .int (nI (mk))), (2, .int (nI (w))), (3, .int (nI (al))), (4, .int (nI (k)))] → mg_H D A s.heap H locs [mg_ob mh 6 [.int (nI (flt)), .int (nI (np)), .int (nI (nf)), .int (nI (nc)), .ref (qor), .ref (qfa), .ref (qmo), .int (nI (nm)), .ref (qwt), .ref (qrt), .ref (qnw), .ref (qsn), .ref (qlt), .ref (qkn), .ref (qft), .ref (qbf), .ref (qbh), .ref (qjt), .ref (qot), .ref (qsm), .ref (qpt), .ref (qpr), .ref (qch), .ref (qbt), .int (nI (wr)), .ref (qpg)], mg_ai K qor 6 rk, mg_ai K qfa 6 fa, mg_ai K qmo 6 mo, mg_ai K qwt 16 mw, mg_ai K qsn 24 sn, mg_ai K qlt 6 lt] → W p l e ({ frames := 2, cells := 0, slots := 0, locals := 53 }) s m args below meth c H locs 0 0 (MQ below (va_Qi (fun (r : Int32) (u : (Nat → Nat)) => r = nI (fi_fit wt ol tl fa mo rk nf nc mk w)) (mg_B D A (fun (u : (Nat → Nat)) => [mg_ob mh 6 [.int (nI (flt)), .int (nI (np)), .int (nI (nf)), .int (nI (nc)), .ref (qor), .ref (qfa), .ref (qmo), .int (nI (nm)), .ref (qwt), .ref (qrt), .ref (qnw), .ref (qsn), .ref (qlt), .ref (qkn), .ref (qft), .ref (qbf), .ref (qbh), .ref (qjt), .ref (qot), .ref (qsm), .ref (qpt), .ref (qpr), .ref (qch), .ref (qbt), .int (nI (wr)), .ref (qpg)], mg_ai K qor 6 rk, mg_ai K qfa 6 fa, mg_ai K qmo 6 mo, mg_ai K qwt 16 mw, mg_ai K qsn 24 sn, mg_ai K qlt 6 u])) A) args s 0 0 A) (F0 m 5 ls []) := by
    intro n0
    induction n0 using Nat.strongRecOn with
    | ind n0 ih5 =>
    intro k al hm5 hal hk ls H locs hl hw
    have hk3 : 3 ^ k ≤ 729 := Nat.le_trans (Nat.pow_le_pow_right (by decide) hk) h729
    refine mg_iload X 7 d_Mo_reckonFit_5 (lv_at hl 4 rfl) rfl ?_
    refine mg_iconst X 8 2 d_Mo_reckonFit_7 mg_ci_2 rfl ?_
    refine mg_aload_n X 9 d_Mo_reckonFit_8 (lv_at hl 0 rfl) rfl ?_
    refine mg_get X hK hw 12 0 2 f_Mo_89 rfl rfl d_Mo_reckonFit_9 rfl ?_
    refine mg_imul X 13 (nI (2 * nf)) d_Mo_reckonFit_12 (pk_mul _ _) rfl ?_
    refine mg_icmp_ge X 26 16 (by omega) (by omega) d_Mo_reckonFit_13 (by decide) rfl (fun hb => ?_) (fun hb => ?_)
    · -- pc 13 t
      have hal9 : al = 3 ^ (2 * nf) := by rw [hal, show k = 2 * nf by omega]
      refine mg_iconst X 27 0 d_Mo_reckonFit_26 mg_ci_0 rfl ?_
      refine mg_istore X 29 [(4, .int (nI (0))), (0, .ref (mh)), (1, .int (nI (mk))), (2, .int (nI (w))), (3, .int (nI (al)))] d_Mo_reckonFit_27 hl (by decide) rfl rfl (fun ls hl => ?_)
      refine mg_iconst X 30 0 d_Mo_reckonFit_29 mg_ci_0 rfl ?_
      refine mg_istore X 32 [(5, .int (nI (0))), (4, .int (nI (0))), (0, .ref (mh)), (1, .int (nI (mk))), (2, .int (nI (w))), (3, .int (nI (al)))] d_Mo_reckonFit_30 hl (by decide) rfl rfl (fun ls hl => ?_)
      have L32 : ∀ (n0 : Nat) (n : Nat) (sm : Nat) (u : Nat → Nat), n0 = 3 ^ (2 * nf) - n → (sm = zs_sum n (fun i => ft_p (ma_wt wt mk) (ft_dg i) (2 * nf) * ft_c (ft_con (fun q => ol (mk * 6 + q)) (fun q => tl (mk * 6 + q)) (fun q => fm_src fa mo rk w 3 q 0) (fun q => fm_src fa mo rk w 3 q 1) 0 (nf + nc) (ft_dg i)))) → (n ≤ 3 ^ (2 * nf)) → ∀ (ls : Array Slot) (H : Heap) (locs : List Loc), lv_has ls 9 [(0, .ref (mh)), (1, .int (nI (mk))), (2, .int (nI (w))), (3, .int (nI (al))), (4, .int (nI (sm))), (5, .int (nI (n)))] → mg_H D A s.heap H locs [mg_ob mh 6 [.int (nI (flt)), .int (nI (np)), .int (nI (nf)), .int (nI (nc)), .ref (qor), .ref (qfa), .ref (qmo), .int (nI (nm)), .ref (qwt), .ref (qrt), .ref (qnw), .ref (qsn), .ref (qlt), .ref (qkn), .ref (qft), .ref (qbf), .ref (qbh), .ref (qjt), .ref (qot), .ref (qsm), .ref (qpt), .ref (qpr), .ref (qch), .ref (qbt), .int (nI (wr)), .ref (qpg)], mg_ai K qor 6 rk, mg_ai K qfa 6 fa, mg_ai K qmo 6 mo, mg_ai K qwt 16 mw, mg_ai K qsn 24 sn, mg_ai K qlt 6 u] → W p l e ({ frames := 2, cells := 0, slots := 0, locals := 53 }) s m args below meth c H locs 0 0 (MQ below (va_Qi (fun (r : Int32) (u : (Nat → Nat)) => r = nI (fi_fit wt ol tl fa mo rk nf nc mk w)) (mg_B D A (fun (u : (Nat → Nat)) => [mg_ob mh 6 [.int (nI (flt)), .int (nI (np)), .int (nI (nf)), .int (nI (nc)), .ref (qor), .ref (qfa), .ref (qmo), .int (nI (nm)), .ref (qwt), .ref (qrt), .ref (qnw), .ref (qsn), .ref (qlt), .ref (qkn), .ref (qft), .ref (qbf), .ref (qbh), .ref (qjt), .ref (qot), .ref (qsm), .ref (qpt), .ref (qpr), .ref (qch), .ref (qbt), .int (nI (wr)), .ref (qpg)], mg_ai K qor 6 rk, mg_ai K qfa 6 fa, mg_ai K qmo 6 mo, mg_ai K qwt 16 mw, mg_ai K qsn 24 sn, mg_ai K qlt 6 u])) A) args s 0 0 A) (F0 m 32 ls []) := by
        intro n0
        induction n0 using Nat.strongRecOn with
        | ind n0 ih32 =>
        intro n sm u hm32 hsm hn ls H locs hl hw
        have hsb : sm ≤ n * 262144 := by rw [hsm]; exact mo_zs (fun i _ => Nat.le_trans (Nat.mul_le_mul (hp86 i (2 * nf) (Nat.le_refl _)) (Nat.le_of_lt_succ (mg_ft1 _))) (by omega))
        have hsb2 : n * 262144 ≤ 729 * 262144 := Nat.mul_le_mul_right _ (by omega)
        refine mg_iload X 34 d_Mo_reckonFit_32 (lv_at hl 5 rfl) rfl ?_
        refine mg_iload_n X 35 d_Mo_reckonFit_34 (lv_at hl 3 rfl) rfl ?_
        refine mg_icmp_ge X 137 38 (by omega) (by omega) d_Mo_reckonFit_35 (by decide) rfl (fun hb2 => ?_) (fun hb2 => ?_)
        · -- pc 35 t
          have hn9 : n = 3 ^ (2 * nf) := by omega
          refine mg_iload X 139 d_Mo_reckonFit_137 (lv_at hl 4 rfl) rfl ?_
          exact mg_iret X hr hlk (rfl) (u) (by rw [hsm, hn9]; exact congrArg nI (ft_count_fit hq9)) hw d_Mo_reckonFit_139
        · -- pc 35 f
          refine mg_iload X 40 d_Mo_reckonFit_38 (lv_at hl 5 rfl) rfl ?_
          refine mg_istore X 42 [(6, .int (nI (n))), (0, .ref (mh)), (1, .int (nI (mk))), (2, .int (nI (w))), (3, .int (nI (al))), (4, .int (nI (sm))), (5, .int (nI (n)))] d_Mo_reckonFit_40 hl (by decide) rfl rfl (fun ls hl => ?_)
          refine mg_iconst X 43 1 d_Mo_reckonFit_42 mg_ci_1 rfl ?_
          refine mg_istore X 45 [(7, .int (nI (1))), (6, .int (nI (n))), (0, .ref (mh)), (1, .int (nI (mk))), (2, .int (nI (w))), (3, .int (nI (al))), (4, .int (nI (sm))), (5, .int (nI (n)))] d_Mo_reckonFit_43 hl (by decide) rfl rfl (fun ls hl => ?_)
          refine mg_iconst X 46 0 d_Mo_reckonFit_45 mg_ci_0 rfl ?_
          refine mg_istore X 48 [(8, .int (nI (0))), (7, .int (nI (1))), (6, .int (nI (n))), (0, .ref (mh)), (1, .int (nI (mk))), (2, .int (nI (w))), (3, .int (nI (al))), (4, .int (nI (sm))), (5, .int (nI (n)))] d_Mo_reckonFit_46 hl (by decide) rfl rfl (fun ls hl => ?_)
          have L48 : ∀ (n0 : Nat) (k2 : Nat) (rs : Nat) (ch1 : Nat) (u2 : Nat → Nat), n0 = 2 * nf - k2 → (rs = n / 3 ^ k2) → (ch1 = ft_p (ma_wt wt mk) (ft_dg n) k2) → (∀ j, j < k2 → u2 j = ft_dg n j) → (k2 ≤ 2 * nf) → ∀ (ls : Array Slot) (H : Heap) (locs : List Loc), lv_has ls 9 [(0, .ref (mh)), (1, .int (nI (mk))), (2, .int (nI (w))), (3, .int (nI (al))), (4, .int (nI (sm))), (5, .int (nI (n))), (6, .int (nI (rs))), (7, .int (nI (ch1))), (8, .int (nI (k2)))] → mg_H D A s.heap H locs [mg_ob mh 6 [.int (nI (flt)), .int (nI (np)), .int (nI (nf)), .int (nI (nc)), .ref (qor), .ref (qfa), .ref (qmo), .int (nI (nm)), .ref (qwt), .ref (qrt), .ref (qnw), .ref (qsn), .ref (qlt), .ref (qkn), .ref (qft), .ref (qbf), .ref (qbh), .ref (qjt), .ref (qot), .ref (qsm), .ref (qpt), .ref (qpr), .ref (qch), .ref (qbt), .int (nI (wr)), .ref (qpg)], mg_ai K qor 6 rk, mg_ai K qfa 6 fa, mg_ai K qmo 6 mo, mg_ai K qwt 16 mw, mg_ai K qsn 24 sn, mg_ai K qlt 6 u2] → W p l e ({ frames := 2, cells := 0, slots := 0, locals := 53 }) s m args below meth c H locs 0 0 (MQ below (va_Qi (fun (r : Int32) (u : (Nat → Nat)) => r = nI (fi_fit wt ol tl fa mo rk nf nc mk w)) (mg_B D A (fun (u : (Nat → Nat)) => [mg_ob mh 6 [.int (nI (flt)), .int (nI (np)), .int (nI (nf)), .int (nI (nc)), .ref (qor), .ref (qfa), .ref (qmo), .int (nI (nm)), .ref (qwt), .ref (qrt), .ref (qnw), .ref (qsn), .ref (qlt), .ref (qkn), .ref (qft), .ref (qbf), .ref (qbh), .ref (qjt), .ref (qot), .ref (qsm), .ref (qpt), .ref (qpr), .ref (qch), .ref (qbt), .int (nI (wr)), .ref (qpg)], mg_ai K qor 6 rk, mg_ai K qfa 6 fa, mg_ai K qmo 6 mo, mg_ai K qwt 16 mw, mg_ai K qsn 24 sn, mg_ai K qlt 6 u])) A) args s 0 0 A) (F0 m 48 ls []) := by
            intro n0
            induction n0 using Nat.strongRecOn with
            | ind n0 ih48 =>
            intro k2 rs ch1 u2 hm48 hrs hch hu2 hk2 ls H locs hl hw
            have hrs2 : rs ≤ n := by rw [hrs]; exact Nat.div_le_self _ _
            have hch2 : ch1 ≤ 262144 := by rw [hch]; exact hp86 n k2 hk2
            have hdg : 1 + rs % 3 = ft_dg n k2 := by rw [hrs]; rfl
            have hdi := ft_dg_in n k2
            have hwk := hmw mk (ft_dg n k2) hm hdi.1 hdi.2
            have hwl := hw8 _ hdi.1 hdi.2
            refine mg_iload X 50 d_Mo_reckonFit_48 (lv_at hl 8 rfl) rfl ?_
            refine mg_iconst X 51 2 d_Mo_reckonFit_50 mg_ci_2 rfl ?_
            refine mg_aload_n X 52 d_Mo_reckonFit_51 (lv_at hl 0 rfl) rfl ?_
            refine mg_get X hK hw 55 0 2 f_Mo_89 rfl rfl d_Mo_reckonFit_52 rfl ?_
            refine mg_imul X 56 (nI (2 * nf)) d_Mo_reckonFit_55 (pk_mul _ _) rfl ?_
            refine mg_icmp_ge X 105 59 (by omega) (by omega) d_Mo_reckonFit_56 (by decide) rfl (fun hb3 => ?_) (fun hb3 => ?_)
            · -- pc 56 t
              have hk9 : k2 = 2 * nf := by omega
              have hch9 : ch1 = ft_p (ma_wt wt mk) (ft_dg n) (2 * nf) := by rw [hch, hk9]
              have hlt9 : ∀ k, k < 2 * nf → u2 k = ft_dg n k := fun k hk => hu2 k (by omega)
              refine mg_iload X 107 d_Mo_reckonFit_105 (lv_at hl 7 rfl) rfl ?_
              refine mg_if_le X 127 110 (by omega) d_Mo_reckonFit_107 (by decide) rfl (fun hc0 => ?_) (fun hc0 => ?_)
              · -- pc 107 t
                refine mg_iload X 129 d_Mo_reckonFit_127 (lv_at hl 4 rfl) rfl ?_
                refine mg_istore X 131 [(4, .int (nI (sm))), (0, .ref (mh)), (1, .int (nI (mk))), (2, .int (nI (w))), (3, .int (nI (al))), (5, .int (nI (n))), (6, .int (nI (rs))), (7, .int (nI (ch1))), (8, .int (nI (k2)))] d_Mo_reckonFit_129 hl (by decide) rfl rfl (fun ls hl => ?_)
                refine mg_iinc X 134 [(5, .int (nI (n + 1))), (4, .int (nI (sm))), (0, .ref (mh)), (1, .int (nI (mk))), (2, .int (nI (w))), (3, .int (nI (al))), (6, .int (nI (rs))), (7, .int (nI (ch1))), (8, .int (nI (k2)))] (n + 1) d_Mo_reckonFit_131 hl (k := 5) rfl (mg_inc1 _) (by decide) rfl rfl (fun ls hl => ?_)
                refine mg_goto X 32 d_Mo_reckonFit_134 (by decide) ?_
                have hl : lv_has ls 9 [(0, .ref (mh)), (1, .int (nI (mk))), (2, .int (nI (w))), (3, .int (nI (al))), (4, .int (nI (sm))), (5, .int (nI (n + 1)))] := lv_sub hl [2, 3, 4, 5, 1, 0] rfl
                exact ih32 _ (by omega) (n + 1) sm u2 rfl (by show _ = zs_sum n (fun i => ft_p (ma_wt wt mk) (ft_dg i) (2 * nf) * ft_c (ft_con (fun q => ol (mk * 6 + q)) (fun q => tl (mk * 6 + q)) (fun q => fm_src fa mo rk w 3 q 0) (fun q => fm_src fa mo rk w 3 q 1) 0 (nf + nc) (ft_dg i))) + ft_p (ma_wt wt mk) (ft_dg n) (2 * nf) * ft_c _; rw [← hsm, ← hch9, show ch1 = 0 by omega, Nat.zero_mul, Nat.add_zero]) (by omega) ls _ _ hl hw
              · -- pc 107 f
                refine mg_aload_n X 111 d_Mo_reckonFit_110 (lv_at hl 0 rfl) rfl ?_
                refine mg_iload_n X 112 d_Mo_reckonFit_111 (lv_at hl 1 rfl) rfl ?_
                refine mg_iload_n X 113 d_Mo_reckonFit_112 (lv_at hl 2 rfl) rfl ?_
                refine mg_callVi X hK hw hA 116 [0, 1, 2, 3, 5, 6] 0 (fun _ => [mg_ob mh 6 [.int (nI (flt)), .int (nI (np)), .int (nI (nf)), .int (nI (nc)), .ref (qor), .ref (qfa), .ref (qmo), .int (nI (nm)), .ref (qwt), .ref (qrt), .ref (qnw), .ref (qsn), .ref (qlt), .ref (qkn), .ref (qft), .ref (qbf), .ref (qbh), .ref (qjt), .ref (qot), .ref (qsm), .ref (qpt), .ref (qpr), .ref (qch), .ref (qbt), .int (nI (wr)), .ref (qpg)], mg_ai K qor 6 rk, mg_ai K qfa 6 fa, mg_ai K qmo 6 mo, mg_ai K qwt 16 mw, mg_ai K qsn 24 sn, mg_ai K qlt 6 u2]) rfl rfl (k_Mo_isSo l D K mh qor qfa qmo qwt qrt qnw qsn qlt qkn qft qbf qbh qjt qot qsm qpt qpr qch qbt qpg flt np nf nc nm wr rk fa mo sn u2 ol tl mk w (by omega) (by omega) (by omega) (by omega) (by omega) (by omega) (fun k hk => by rw [hlt9 k hk]; exact ft_dg_in n k)) g_Mo_126 ⟨by decide, by decide⟩ ⟨rfl, rfl⟩ rfl rfl rfl hl.1 (rest := []) (As := [.int (nI (mk)), .int (nI (w))]) rfl (Nat.le_of_ble_eq_true rfl) d_Mo_reckonFit_113 ⟨Nat.zero_le _, Nat.zero_le _⟩ (fun _ => rfl) (fun _ => rfl) rfl ?_
                intro r _ H locs hp2 hw
                subst hp2
                refine mg_bif_eq X 127 119 d_Mo_reckonFit_116 (by decide) rfl (fun hso => ?_) (fun hso => ?_)
                · -- pc 116 t
                  refine mg_iload X 129 d_Mo_reckonFit_127 (lv_at hl 4 rfl) rfl ?_
                  refine mg_istore X 131 [(4, .int (nI (sm))), (0, .ref (mh)), (1, .int (nI (mk))), (2, .int (nI (w))), (3, .int (nI (al))), (5, .int (nI (n))), (6, .int (nI (rs))), (7, .int (nI (ch1))), (8, .int (nI (k2)))] d_Mo_reckonFit_129 hl (by decide) rfl rfl (fun ls hl => ?_)
                  refine mg_iinc X 134 [(5, .int (nI (n + 1))), (4, .int (nI (sm))), (0, .ref (mh)), (1, .int (nI (mk))), (2, .int (nI (w))), (3, .int (nI (al))), (6, .int (nI (rs))), (7, .int (nI (ch1))), (8, .int (nI (k2)))] (n + 1) d_Mo_reckonFit_131 hl (k := 5) rfl (mg_inc1 _) (by decide) rfl rfl (fun ls hl => ?_)
                  refine mg_goto X 32 d_Mo_reckonFit_134 (by decide) ?_
                  have hl : lv_has ls 9 [(0, .ref (mh)), (1, .int (nI (mk))), (2, .int (nI (w))), (3, .int (nI (al))), (4, .int (nI (sm))), (5, .int (nI (n + 1)))] := lv_sub hl [2, 3, 4, 5, 1, 0] rfl
                  exact ih32 _ (by omega) (n + 1) sm u2 rfl (by show _ = zs_sum n (fun i => ft_p (ma_wt wt mk) (ft_dg i) (2 * nf) * ft_c (ft_con (fun q => ol (mk * 6 + q)) (fun q => tl (mk * 6 + q)) (fun q => fm_src fa mo rk w 3 q 0) (fun q => fm_src fa mo rk w 3 q 1) 0 (nf + nc) (ft_dg i))) + ft_p (ma_wt wt mk) (ft_dg n) (2 * nf) * ft_c _; rw [← hsm, ft_c0 (fun q => hso ((ft_con_cg hq9 hlt9).mpr q)), Nat.mul_zero, Nat.add_zero]) (by omega) ls _ _ hl hw
                · -- pc 116 f
                  refine mg_iload X 121 d_Mo_reckonFit_119 (lv_at hl 4 rfl) rfl ?_
                  refine mg_iload X 123 d_Mo_reckonFit_121 (lv_at hl 7 rfl) rfl ?_
                  refine mg_iadd X 124 (nI (sm + ch1)) d_Mo_reckonFit_123 (nI_add _ _) rfl ?_
                  refine mg_goto X 129 d_Mo_reckonFit_124 (by decide) ?_
                  refine mg_istore X 131 [(4, .int (nI (sm + ch1))), (0, .ref (mh)), (1, .int (nI (mk))), (2, .int (nI (w))), (3, .int (nI (al))), (5, .int (nI (n))), (6, .int (nI (rs))), (7, .int (nI (ch1))), (8, .int (nI (k2)))] d_Mo_reckonFit_129 hl (by decide) rfl rfl (fun ls hl => ?_)
                  refine mg_iinc X 134 [(5, .int (nI (n + 1))), (4, .int (nI (sm + ch1))), (0, .ref (mh)), (1, .int (nI (mk))), (2, .int (nI (w))), (3, .int (nI (al))), (6, .int (nI (rs))), (7, .int (nI (ch1))), (8, .int (nI (k2)))] (n + 1) d_Mo_reckonFit_131 hl (k := 5) rfl (mg_inc1 _) (by decide) rfl rfl (fun ls hl => ?_)
                  refine mg_goto X 32 d_Mo_reckonFit_134 (by decide) ?_
                  have hl : lv_has ls 9 [(0, .ref (mh)), (1, .int (nI (mk))), (2, .int (nI (w))), (3, .int (nI (al))), (4, .int (nI (sm + ch1))), (5, .int (nI (n + 1)))] := lv_sub hl [2, 3, 4, 5, 1, 0] rfl
                  exact ih32 _ (by omega) (n + 1) (sm + ch1) u2 rfl (by show _ = zs_sum n (fun i => ft_p (ma_wt wt mk) (ft_dg i) (2 * nf) * ft_c (ft_con (fun q => ol (mk * 6 + q)) (fun q => tl (mk * 6 + q)) (fun q => fm_src fa mo rk w 3 q 0) (fun q => fm_src fa mo rk w 3 q 1) 0 (nf + nc) (ft_dg i))) + ft_p (ma_wt wt mk) (ft_dg n) (2 * nf) * ft_c _; rw [hsm, hch9, ft_c1 ((ft_con_cg hq9 hlt9).mp hso), Nat.mul_one]) (by omega) ls _ _ hl hw
            · -- pc 56 f
              refine mg_aload_n X 60 d_Mo_reckonFit_59 (lv_at hl 0 rfl) rfl ?_
              refine mg_get X hK hw 63 0 12 f_Mo_31 rfl rfl d_Mo_reckonFit_60 rfl ?_
              refine mg_iload X 65 d_Mo_reckonFit_63 (lv_at hl 8 rfl) rfl ?_
              refine mg_iconst X 66 1 d_Mo_reckonFit_65 mg_ci_1 rfl ?_
              refine mg_iload X 68 d_Mo_reckonFit_66 (lv_at hl 6 rfl) rfl ?_
              refine mg_iconst X 69 3 d_Mo_reckonFit_68 mg_ci_3 rfl ?_
              refine mg_irem X 70 d_Mo_reckonFit_69 (by omega) (by omega) (by omega) rfl ?_
              refine mg_iadd X 71 (nI (1 + (rs % 3))) d_Mo_reckonFit_70 (nI_add _ _) rfl ?_
              refine mg_iast X hK hw 72 6 [mg_ob mh 6 [.int (nI (flt)), .int (nI (np)), .int (nI (nf)), .int (nI (nc)), .ref (qor), .ref (qfa), .ref (qmo), .int (nI (nm)), .ref (qwt), .ref (qrt), .ref (qnw), .ref (qsn), .ref (qlt), .ref (qkn), .ref (qft), .ref (qbf), .ref (qbh), .ref (qjt), .ref (qot), .ref (qsm), .ref (qpt), .ref (qpr), .ref (qch), .ref (qbt), .int (nI (wr)), .ref (qpg)], mg_ai K qor 6 rk, mg_ai K qfa 6 fa, mg_ai K qmo 6 mo, mg_ai K qwt 16 mw, mg_ai K qsn 24 sn, mg_ai K qlt 6 (va_up u2 k2 (1 + (rs % 3)))] rfl (by omega) (by omega) d_Mo_reckonFit_71 rfl rfl (fun H locs hw => ?_)
              refine mg_iload X 74 d_Mo_reckonFit_72 (lv_at hl 6 rfl) rfl ?_
              refine mg_iconst X 75 3 d_Mo_reckonFit_74 mg_ci_3 rfl ?_
              refine mg_idiv X 76 d_Mo_reckonFit_75 (by omega) (by omega) (by omega) rfl ?_
              refine mg_istore X 78 [(6, .int (nI (rs / 3))), (0, .ref (mh)), (1, .int (nI (mk))), (2, .int (nI (w))), (3, .int (nI (al))), (4, .int (nI (sm))), (5, .int (nI (n))), (7, .int (nI (ch1))), (8, .int (nI (k2)))] d_Mo_reckonFit_76 hl (by decide) rfl rfl (fun ls hl => ?_)
              refine mg_iload X 80 d_Mo_reckonFit_78 (lv_at hl 7 rfl) rfl ?_
              refine mg_aload_n X 81 d_Mo_reckonFit_80 (lv_at hl 1 rfl) rfl ?_
              refine mg_get X hK hw 84 0 8 f_Mo_19 rfl rfl d_Mo_reckonFit_81 rfl ?_
              refine mg_iconst X 85 4 d_Mo_reckonFit_84 mg_ci_4 rfl ?_
              refine mg_iload_n X 86 d_Mo_reckonFit_85 (lv_at hl 2 rfl) rfl ?_
              refine mg_imul X 87 (nI (4 * mk)) d_Mo_reckonFit_86 (pk_mul _ _) rfl ?_
              refine mg_aload_n X 88 d_Mo_reckonFit_87 (lv_at hl 1 rfl) rfl ?_
              refine mg_get X hK hw 91 0 12 f_Mo_31 rfl rfl d_Mo_reckonFit_88 rfl ?_
              refine mg_iload X 93 d_Mo_reckonFit_91 (lv_at hl 8 rfl) rfl ?_
              refine mg_iald X hK hw 94 6 rfl (by omega) (by omega) d_Mo_reckonFit_93 rfl ?_
              refine mg_iadd X 95 (nI ((4 * mk) + ((va_up u2 k2 (1 + (rs % 3))) k2))) d_Mo_reckonFit_94 (nI_add _ _) rfl ?_
              refine mg_iald X hK hw 96 4 rfl (by rw [va_up_self, hdg]; omega) (by omega) d_Mo_reckonFit_95 rfl ?_
              refine mg_imul X 97 (nI (ch1 * (mw ((4 * mk) + ((va_up u2 k2 (1 + (rs % 3))) k2))))) d_Mo_reckonFit_96 (pk_mul _ _) rfl ?_
              refine mg_istore X 99 [(7, .int (nI (ch1 * (mw ((4 * mk) + ((va_up u2 k2 (1 + (rs % 3))) k2)))))), (6, .int (nI (rs / 3))), (0, .ref (mh)), (1, .int (nI (mk))), (2, .int (nI (w))), (3, .int (nI (al))), (4, .int (nI (sm))), (5, .int (nI (n))), (8, .int (nI (k2)))] d_Mo_reckonFit_97 hl (by decide) rfl rfl (fun ls hl => ?_)
              refine mg_iinc X 102 [(8, .int (nI (k2 + 1))), (7, .int (nI (ch1 * (mw ((4 * mk) + ((va_up u2 k2 (1 + (rs % 3))) k2)))))), (6, .int (nI (rs / 3))), (0, .ref (mh)), (1, .int (nI (mk))), (2, .int (nI (w))), (3, .int (nI (al))), (4, .int (nI (sm))), (5, .int (nI (n)))] (k2 + 1) d_Mo_reckonFit_99 hl (k := 8) rfl (mg_inc1 _) (by decide) rfl rfl (fun ls hl => ?_)
              refine mg_goto X 48 d_Mo_reckonFit_102 (by decide) ?_
              have hl : lv_has ls 9 [(0, .ref (mh)), (1, .int (nI (mk))), (2, .int (nI (w))), (3, .int (nI (al))), (4, .int (nI (sm))), (5, .int (nI (n))), (6, .int (nI (rs / 3))), (7, .int (nI (ch1 * (mw ((4 * mk) + ((va_up u2 k2 (1 + (rs % 3))) k2)))))), (8, .int (nI (k2 + 1)))] := lv_sub hl [3, 4, 5, 6, 7, 8, 2, 1, 0] rfl
              exact ih48 _ (by omega) (k2 + 1) (rs / 3) (ch1 * (mw ((4 * mk) + ((va_up u2 k2 (1 + (rs % 3))) k2)))) (va_up u2 k2 (1 + (rs % 3))) rfl (by rw [hrs, Nat.div_div_eq_div_mul, ← Nat.pow_succ]) (by rw [hch, va_up_self, hdg, hwk]; rfl) (fun j hj => by rcases (show j = k2 ∨ j < k2 by omega) with h9 | h9; rw [h9, va_up_self, hdg]; rw [va_up_ne _ _ (by omega)]; exact hu2 j h9) (by omega) ls _ _ hl hw
          have hl : lv_has ls 9 [(0, .ref (mh)), (1, .int (nI (mk))), (2, .int (nI (w))), (3, .int (nI (al))), (4, .int (nI (sm))), (5, .int (nI (n))), (6, .int (nI (n))), (7, .int (nI (1))), (8, .int (nI (0)))] := lv_sub hl [3, 4, 5, 6, 7, 8, 2, 1, 0] rfl
          exact L48 _ 0 n 1 u rfl (by rw [Nat.pow_zero, Nat.div_one]) (rfl) (fun j hj => by omega) (by omega) ls _ _ hl hw
      have hl : lv_has ls 9 [(0, .ref (mh)), (1, .int (nI (mk))), (2, .int (nI (w))), (3, .int (nI (al))), (4, .int (nI (0))), (5, .int (nI (0)))] := lv_sub hl [2, 3, 4, 5, 1, 0] rfl
      exact L32 _ 0 0 lt rfl (rfl) (Nat.zero_le _) ls _ _ hl hw
    · -- pc 13 f
      refine mg_iconst X 17 3 d_Mo_reckonFit_16 mg_ci_3 rfl ?_
      refine mg_iload_n X 18 d_Mo_reckonFit_17 (lv_at hl 3 rfl) rfl ?_
      refine mg_imul X 19 (nI (3 * al)) d_Mo_reckonFit_18 (pk_mul _ _) rfl ?_
      refine mg_istore_n X 20 [(3, .int (nI (3 * al))), (0, .ref (mh)), (1, .int (nI (mk))), (2, .int (nI (w))), (4, .int (nI (k)))] d_Mo_reckonFit_19 hl (by decide) rfl rfl (fun ls hl => ?_)
      refine mg_iinc X 23 [(4, .int (nI (k + 1))), (3, .int (nI (3 * al))), (0, .ref (mh)), (1, .int (nI (mk))), (2, .int (nI (w)))] (k + 1) d_Mo_reckonFit_20 hl (k := 4) rfl (mg_inc1 _) (by decide) rfl rfl (fun ls hl => ?_)
      refine mg_goto X 5 d_Mo_reckonFit_23 (by decide) ?_
      have hl : lv_has ls 9 [(0, .ref (mh)), (1, .int (nI (mk))), (2, .int (nI (w))), (3, .int (nI (3 * al))), (4, .int (nI (k + 1)))] := lv_sub hl [2, 3, 4, 1, 0] rfl
      exact ih5 _ (by omega) (k + 1) (3 * al) rfl (by rw [hal, Nat.pow_succ, Nat.mul_comm]) (by omega) ls _ _ hl hw
  have hl : lv_has ls 9 [(0, .ref (mh)), (1, .int (nI (mk))), (2, .int (nI (w))), (3, .int (nI (1))), (4, .int (nI (0)))] := lv_sub hl [2, 3, 4, 1, 0] rfl
  exact L5 _ 0 1 rfl (rfl) (by omega) ls _ _ hl hw

set_option maxRecDepth 100000 in
set_option maxHeartbeats 4000000 in
theorem k_Mo_fitOf (l : Launch) (D : va_G) (K : Nat → ClassId) (mh : Nat) (qor : Nat) (qfa : Nat) (qmo : Nat) (qwt : Nat) (qrt : Nat) (qnw : Nat) (qsn : Nat) (qlt : Nat) (qkn : Nat) (qft : Nat) (qbf : Nat) (qbh : Nat) (qjt : Nat) (qot : Nat) (qsm : Nat) (qpt : Nat) (qpr : Nat) (qch : Nat) (qbt : Nat) (qpg : Nat) (flt : Nat) (np : Nat) (nf : Nat) (nc : Nat) (nm : Nat) (wr : Nat) (rk : Nat → Nat) (fa : Nat → Nat) (mo : Nat → Nat) (mw : Nat → Nat) (sn : Nat → Nat) (lt : Nat → Nat) (wt : Nat → Nat) (ol : Nat → Nat) (tl : Nat → Nat) (kn : Nat → Nat) (ftb : Nat → Nat) (mk : Nat) (w : Nat) (hF0 : fm_ok nf nc fa mo rk) (hnp : np = nf + nc) (hS : sn_ok ol tl) (hcd : ∀ q i, q < 6 → i < 4 → sn (4 * q + i) = mo_cd (ol (i * 6 + q)) (tl (i * 6 + q))) (hmw : ∀ i l, i < nm → 1 ≤ l → l ≤ 3 → mw (4 * i + l) = ma_wt wt i l) (hW8 : ∀ i, i < nm → ma_wt wt i 1 + ma_wt wt i 2 + ma_wt wt i 3 = 8) (hm4 : nm ≤ 4) (hkn : mo_kn nm (2 ^ (2 * nc)) kn ftb (fi_fit wt ol tl fa mo rk nf nc)) (hm : mk < nm) (hwW : w < 2 ^ (2 * nc)) : mg_Mi l D K y_Mo_fitOf b_Mo_fitOf 4 (.int) ({ frames := 3, cells := 0, slots := 0, locals := 81 }) [.ref (mh), .int (nI (mk)), .int (nI (w))] [mg_ob mh 6 [.int (nI (flt)), .int (nI (np)), .int (nI (nf)), .int (nI (nc)), .ref (qor), .ref (qfa), .ref (qmo), .int (nI (nm)), .ref (qwt), .ref (qrt), .ref (qnw), .ref (qsn), .ref (qlt), .ref (qkn), .ref (qft), .ref (qbf), .ref (qbh), .ref (qjt), .ref (qot), .ref (qsm), .ref (qpt), .ref (qpr), .ref (qch), .ref (qbt), .int (nI (wr)), .ref (qpg)], mg_ai K qor 6 rk, mg_ai K qfa 6 fa, mg_ai K qmo 6 mo, mg_ai K qwt 16 mw, mg_ai K qsn 24 sn, mg_ai K qlt 6 lt, mg_az K qkn 4 kn, mg_ai K qft 256 ftb] (fun (r : Int32) (uu : (Nat → Nat) × (Nat → Nat) × (Nat → Nat)) => r = nI (fi_fit wt ol tl fa mo rk nf nc mk w) ∧ mo_kn nm (2 ^ (2 * nc)) uu.2.1 uu.2.2 (fi_fit wt ol tl fa mo rk nf nc)) (fun (uu : (Nat → Nat) × (Nat → Nat) × (Nat → Nat)) => [mg_ob mh 6 [.int (nI (flt)), .int (nI (np)), .int (nI (nf)), .int (nI (nc)), .ref (qor), .ref (qfa), .ref (qmo), .int (nI (nm)), .ref (qwt), .ref (qrt), .ref (qnw), .ref (qsn), .ref (qlt), .ref (qkn), .ref (qft), .ref (qbf), .ref (qbh), .ref (qjt), .ref (qot), .ref (qsm), .ref (qpt), .ref (qpr), .ref (qch), .ref (qbt), .int (nI (wr)), .ref (qpg)], mg_ai K qor 6 rk, mg_ai K qfa 6 fa, mg_ai K qmo 6 mo, mg_ai K qwt 16 mw, mg_ai K qsn 24 sn, mg_ai K qlt 6 uu.1, mg_az K qkn 4 uu.2.1, mg_ai K qft 256 uu.2.2]) := by
  intro sz
  refine mg_entry (Qc := fun A => va_Qi (fun (r : Int32) (uu : (Nat → Nat) × (Nat → Nat) × (Nat → Nat)) => r = nI (fi_fit wt ol tl fa mo rk nf nc mk w) ∧ mo_kn nm (2 ^ (2 * nc)) uu.2.1 uu.2.2 (fi_fit wt ol tl fa mo rk nf nc)) (mg_B D A (fun (uu : (Nat → Nat) × (Nat → Nat) × (Nat → Nat)) => [mg_ob mh 6 [.int (nI (flt)), .int (nI (np)), .int (nI (nf)), .int (nI (nc)), .ref (qor), .ref (qfa), .ref (qmo), .int (nI (nm)), .ref (qwt), .ref (qrt), .ref (qnw), .ref (qsn), .ref (qlt), .ref (qkn), .ref (qft), .ref (qbf), .ref (qbh), .ref (qjt), .ref (qot), .ref (qsm), .ref (qpt), .ref (qpr), .ref (qch), .ref (qbt), .int (nI (wr)), .ref (qpg)], mg_ai K qor 6 rk, mg_ai K qfa 6 fa, mg_ai K qmo 6 mo, mg_ai K qwt 16 mw, mg_ai K qsn 24 sn, mg_ai K qlt 6 uu.1, mg_az K qkn 4 uu.2.1, mg_ai K qft 256 uu.2.2])) A) (by decide) (Nat.le_of_ble_eq_true rfl) ?_
  intro p e s m args below meth c A ls X hr hlk hnm hA hK hw hl
  have hl : lv_has ls 4 [(0, .ref (mh)), (1, .int (nI (mk))), (2, .int (nI (w)))] := hl
  have hf1 := hF0.1
  have hf2 := hF0.2.1
  have hw6 := mg_ways hf2
  have hk2 := (hkn mk hm).1
  refine mg_aload_n X 1 d_Mo_fitOf_0 (lv_at hl 0 rfl) rfl ?_
  refine mg_get X hK hw 4 0 13 f_Mo_34 rfl rfl d_Mo_fitOf_1 rfl ?_
  refine mg_iload_n X 5 d_Mo_fitOf_4 (lv_at hl 1 rfl) rfl ?_
  refine mg_zald X hK hw 6 7 rfl (by omega) (by omega) d_Mo_fitOf_5 rfl ?_
  refine mg_if_ne X 49 9 (by omega) d_Mo_fitOf_6 (by decide) rfl (fun hk0 => ?_) (fun hk0 => ?_)
  · -- pc 6 t
    refine mg_aload_n X 50 d_Mo_fitOf_49 (lv_at hl 0 rfl) rfl ?_
    refine mg_get X hK hw 53 0 14 f_Mo_38 rfl rfl d_Mo_fitOf_50 rfl ?_
    refine mg_bipush X 55 64 d_Mo_fitOf_53 mg_cb_64 rfl ?_
    refine mg_iload_n X 56 d_Mo_fitOf_55 (lv_at hl 1 rfl) rfl ?_
    refine mg_imul X 57 (nI (64 * mk)) d_Mo_fitOf_56 (pk_mul _ _) rfl ?_
    refine mg_iload_n X 58 d_Mo_fitOf_57 (lv_at hl 2 rfl) rfl ?_
    refine mg_iadd X 59 (nI ((64 * mk) + w)) d_Mo_fitOf_58 (nI_add _ _) rfl ?_
    refine mg_iald X hK hw 60 8 rfl (by omega) (by omega) d_Mo_fitOf_59 rfl ?_
    exact mg_iret X hr hlk (rfl) ((lt, kn, ftb)) (⟨congrArg nI (mo_kn_at hkn hm hk0 hwW), hkn⟩) hw d_Mo_fitOf_60
  · -- pc 6 f
    rw [← mo_tb0 ftb (fi_fit wt ol tl fa mo rk nf nc mk) mk] at hw
    refine mg_iconst X 10 0 d_Mo_fitOf_9 mg_ci_0 rfl ?_
    refine mg_istore_n X 11 [(3, .int (nI (0))), (0, .ref (mh)), (1, .int (nI (mk))), (2, .int (nI (w)))] d_Mo_fitOf_10 hl (by decide) rfl rfl (fun ls hl => ?_)
    have L11 : ∀ (n0 : Nat) (k : Nat) (u : Nat → Nat), n0 = 2 ^ (2 * nc) - k → (k ≤ 2 ^ (2 * nc)) → ∀ (ls : Array Slot) (H : Heap) (locs : List Loc), lv_has ls 4 [(0, .ref (mh)), (1, .int (nI (mk))), (2, .int (nI (w))), (3, .int (nI (k)))] → mg_H D A s.heap H locs [mg_ob mh 6 [.int (nI (flt)), .int (nI (np)), .int (nI (nf)), .int (nI (nc)), .ref (qor), .ref (qfa), .ref (qmo), .int (nI (nm)), .ref (qwt), .ref (qrt), .ref (qnw), .ref (qsn), .ref (qlt), .ref (qkn), .ref (qft), .ref (qbf), .ref (qbh), .ref (qjt), .ref (qot), .ref (qsm), .ref (qpt), .ref (qpr), .ref (qch), .ref (qbt), .int (nI (wr)), .ref (qpg)], mg_ai K qor 6 rk, mg_ai K qfa 6 fa, mg_ai K qmo 6 mo, mg_ai K qwt 16 mw, mg_ai K qsn 24 sn, mg_ai K qlt 6 u, mg_az K qkn 4 kn, mg_ai K qft 256 (mo_tb ftb (fi_fit wt ol tl fa mo rk nf nc mk) mk k)] → W p l e ({ frames := 3, cells := 0, slots := 0, locals := 81 }) s m args below meth c H locs 0 0 (MQ below (va_Qi (fun (r : Int32) (uu : (Nat → Nat) × (Nat → Nat) × (Nat → Nat)) => r = nI (fi_fit wt ol tl fa mo rk nf nc mk w) ∧ mo_kn nm (2 ^ (2 * nc)) uu.2.1 uu.2.2 (fi_fit wt ol tl fa mo rk nf nc)) (mg_B D A (fun (uu : (Nat → Nat) × (Nat → Nat) × (Nat → Nat)) => [mg_ob mh 6 [.int (nI (flt)), .int (nI (np)), .int (nI (nf)), .int (nI (nc)), .ref (qor), .ref (qfa), .ref (qmo), .int (nI (nm)), .ref (qwt), .ref (qrt), .ref (qnw), .ref (qsn), .ref (qlt), .ref (qkn), .ref (qft), .ref (qbf), .ref (qbh), .ref (qjt), .ref (qot), .ref (qsm), .ref (qpt), .ref (qpr), .ref (qch), .ref (qbt), .int (nI (wr)), .ref (qpg)], mg_ai K qor 6 rk, mg_ai K qfa 6 fa, mg_ai K qmo 6 mo, mg_ai K qwt 16 mw, mg_ai K qsn 24 sn, mg_ai K qlt 6 uu.1, mg_az K qkn 4 uu.2.1, mg_ai K qft 256 uu.2.2])) A) args s 0 0 A) (F0 m 11 ls []) := by
      intro n0
      induction n0 using Nat.strongRecOn with
      | ind n0 ih11 =>
      intro k u hm11 hk ls H locs hl hw
      refine mg_iload_n X 12 d_Mo_fitOf_11 (lv_at hl 3 rfl) rfl ?_
      refine mg_aload_n X 13 d_Mo_fitOf_12 (lv_at hl 0 rfl) rfl ?_
      refine mg_callVi X hK hw hA 16 [0] 0 (fun _ => [mg_ob mh 6 [.int (nI (flt)), .int (nI (np)), .int (nI (nf)), .int (nI (nc)), .ref (qor), .ref (qfa), .ref (qmo), .int (nI (nm)), .ref (qwt), .ref (qrt), .ref (qnw), .ref (qsn), .ref (qlt), .ref (qkn), .ref (qft), .ref (qbf), .ref (qbh), .ref (qjt), .ref (qot), .ref (qsm), .ref (qpt), .ref (qpr), .ref (qch), .ref (qbt), .int (nI (wr)), .ref (qpg)], mg_ai K qor 6 rk, mg_ai K qfa 6 fa, mg_ai K qmo 6 mo, mg_ai K qwt 16 mw, mg_ai K qsn 24 sn, mg_ai K qlt 6 u, mg_az K qkn 4 kn, mg_ai K qft 256 (mo_tb ftb (fi_fit wt ol tl fa mo rk nf nc mk) mk k)]) rfl rfl (k_Mo_ways l D K mh qor qfa qmo qwt qrt qnw qsn qlt qkn qft qbf qbh qjt qot qsm qpt qpr qch qbt qpg flt np nf nc nm wr (by omega)) g_Mo_115 ⟨by decide, by decide⟩ ⟨rfl, rfl⟩ rfl rfl rfl hl.1 (rest := [.int (nI (k))]) (As := []) rfl (Nat.le_of_ble_eq_true rfl) d_Mo_fitOf_13 ⟨Nat.zero_le _, Nat.zero_le _⟩ (fun _ => rfl) (fun _ => rfl) rfl ?_
      intro r _ H locs hp2 hw
      subst hp2
      refine mg_icmp_ge X 42 19 (by omega) (by omega) d_Mo_fitOf_16 (by decide) rfl (fun hb => ?_) (fun hb => ?_)
      · -- pc 16 t
        have hk9 : k = 2 ^ (2 * nc) := by omega
        refine mg_aload_n X 43 d_Mo_fitOf_42 (lv_at hl 0 rfl) rfl ?_
        refine mg_get X hK hw 46 0 13 f_Mo_34 rfl rfl d_Mo_fitOf_43 rfl ?_
        refine mg_iload_n X 47 d_Mo_fitOf_46 (lv_at hl 1 rfl) rfl ?_
        refine mg_iconst X 48 1 d_Mo_fitOf_47 mg_ci_1 rfl ?_
        refine mg_zast X hK hw 49 7 [mg_ob mh 6 [.int (nI (flt)), .int (nI (np)), .int (nI (nf)), .int (nI (nc)), .ref (qor), .ref (qfa), .ref (qmo), .int (nI (nm)), .ref (qwt), .ref (qrt), .ref (qnw), .ref (qsn), .ref (qlt), .ref (qkn), .ref (qft), .ref (qbf), .ref (qbh), .ref (qjt), .ref (qot), .ref (qsm), .ref (qpt), .ref (qpr), .ref (qch), .ref (qbt), .int (nI (wr)), .ref (qpg)], mg_ai K qor 6 rk, mg_ai K qfa 6 fa, mg_ai K qmo 6 mo, mg_ai K qwt 16 mw, mg_ai K qsn 24 sn, mg_ai K qlt 6 u, mg_az K qkn 4 (va_up kn mk 1), mg_ai K qft 256 (mo_tb ftb (fi_fit wt ol tl fa mo rk nf nc mk) mk k)] rfl (by omega) (by omega) (by omega) d_Mo_fitOf_48 rfl rfl (fun H locs hw => ?_)
        refine mg_aload_n X 50 d_Mo_fitOf_49 (lv_at hl 0 rfl) rfl ?_
        refine mg_get X hK hw 53 0 14 f_Mo_38 rfl rfl d_Mo_fitOf_50 rfl ?_
        refine mg_bipush X 55 64 d_Mo_fitOf_53 mg_cb_64 rfl ?_
        refine mg_iload_n X 56 d_Mo_fitOf_55 (lv_at hl 1 rfl) rfl ?_
        refine mg_imul X 57 (nI (64 * mk)) d_Mo_fitOf_56 (pk_mul _ _) rfl ?_
        refine mg_iload_n X 58 d_Mo_fitOf_57 (lv_at hl 2 rfl) rfl ?_
        refine mg_iadd X 59 (nI ((64 * mk) + w)) d_Mo_fitOf_58 (nI_add _ _) rfl ?_
        refine mg_iald X hK hw 60 8 rfl (by omega) (by omega) d_Mo_fitOf_59 rfl ?_
        exact mg_iret X hr hlk (rfl) ((u, va_up kn mk 1, mo_tb ftb (fi_fit wt ol tl fa mo rk nf nc mk) mk k)) (⟨congrArg nI (mo_tb_at (by omega)), by rw [hk9]; exact mo_kn_new hkn hw6⟩) hw d_Mo_fitOf_60
      · -- pc 16 f
        refine mg_aload_n X 20 d_Mo_fitOf_19 (lv_at hl 0 rfl) rfl ?_
        refine mg_get X hK hw 23 0 14 f_Mo_38 rfl rfl d_Mo_fitOf_20 rfl ?_
        refine mg_bipush X 25 64 d_Mo_fitOf_23 mg_cb_64 rfl ?_
        refine mg_iload_n X 26 d_Mo_fitOf_25 (lv_at hl 1 rfl) rfl ?_
        refine mg_imul X 27 (nI (64 * mk)) d_Mo_fitOf_26 (pk_mul _ _) rfl ?_
        refine mg_iload_n X 28 d_Mo_fitOf_27 (lv_at hl 3 rfl) rfl ?_
        refine mg_iadd X 29 (nI ((64 * mk) + k)) d_Mo_fitOf_28 (nI_add _ _) rfl ?_
        refine mg_aload_n X 30 d_Mo_fitOf_29 (lv_at hl 0 rfl) rfl ?_
        refine mg_iload_n X 31 d_Mo_fitOf_30 (lv_at hl 1 rfl) rfl ?_
        refine mg_iload_n X 32 d_Mo_fitOf_31 (lv_at hl 3 rfl) rfl ?_
        refine mg_callVi X hK hw hA 35 [0, 1, 2, 3, 4, 5, 6] 0 (fun u3 => [mg_ob mh 6 [.int (nI (flt)), .int (nI (np)), .int (nI (nf)), .int (nI (nc)), .ref (qor), .ref (qfa), .ref (qmo), .int (nI (nm)), .ref (qwt), .ref (qrt), .ref (qnw), .ref (qsn), .ref (qlt), .ref (qkn), .ref (qft), .ref (qbf), .ref (qbh), .ref (qjt), .ref (qot), .ref (qsm), .ref (qpt), .ref (qpr), .ref (qch), .ref (qbt), .int (nI (wr)), .ref (qpg)], mg_ai K qor 6 rk, mg_ai K qfa 6 fa, mg_ai K qmo 6 mo, mg_ai K qwt 16 mw, mg_ai K qsn 24 sn, mg_ai K qlt 6 u3, mg_az K qkn 4 kn, mg_ai K qft 256 (mo_tb ftb (fi_fit wt ol tl fa mo rk nf nc mk) mk k)]) rfl rfl (k_Mo_reckonFit l D K mh qor qfa qmo qwt qrt qnw qsn qlt qkn qft qbf qbh qjt qot qsm qpt qpr qch qbt qpg flt np nf nc nm wr rk fa mo mw sn u wt ol tl mk k (by omega) (by omega) (by omega) (by omega) (by omega) (by omega) (by omega) (by omega) (by omega)) g_Mo_130 ⟨by decide, by decide⟩ ⟨rfl, rfl⟩ rfl rfl rfl hl.1 (rest := [.int (nI ((64 * mk) + k)), .ref (qft)]) (As := [.int (nI (mk)), .int (nI (k))]) rfl (Nat.le_of_ble_eq_true rfl) d_Mo_fitOf_32 ⟨Nat.zero_le _, Nat.zero_le _⟩ (fun _ => rfl) (fun _ => rfl) rfl ?_
        intro r u3 H locs hp4 hw
        subst hp4
        refine mg_iast X hK hw 36 8 [mg_ob mh 6 [.int (nI (flt)), .int (nI (np)), .int (nI (nf)), .int (nI (nc)), .ref (qor), .ref (qfa), .ref (qmo), .int (nI (nm)), .ref (qwt), .ref (qrt), .ref (qnw), .ref (qsn), .ref (qlt), .ref (qkn), .ref (qft), .ref (qbf), .ref (qbh), .ref (qjt), .ref (qot), .ref (qsm), .ref (qpt), .ref (qpr), .ref (qch), .ref (qbt), .int (nI (wr)), .ref (qpg)], mg_ai K qor 6 rk, mg_ai K qfa 6 fa, mg_ai K qmo 6 mo, mg_ai K qwt 16 mw, mg_ai K qsn 24 sn, mg_ai K qlt 6 u3, mg_az K qkn 4 kn, mg_ai K qft 256 (va_up (mo_tb ftb (fi_fit wt ol tl fa mo rk nf nc mk) mk k) ((64 * mk) + k) (fi_fit wt ol tl fa mo rk nf nc mk k))] rfl (by omega) (by omega) d_Mo_fitOf_35 rfl rfl (fun H locs hw => ?_)
        refine mg_iinc X 39 [(3, .int (nI (k + 1))), (0, .ref (mh)), (1, .int (nI (mk))), (2, .int (nI (w)))] (k + 1) d_Mo_fitOf_36 hl (k := 3) rfl (mg_inc1 _) (by decide) rfl rfl (fun ls hl => ?_)
        refine mg_goto X 11 d_Mo_fitOf_39 (by decide) ?_
        have hl : lv_has ls 4 [(0, .ref (mh)), (1, .int (nI (mk))), (2, .int (nI (w))), (3, .int (nI (k + 1)))] := lv_sub hl [1, 2, 3, 0] rfl
        rw [mo_tbS] at hw
        exact ih11 _ (by omega) (k + 1) u3 rfl (by omega) ls _ _ hl hw
    have hl : lv_has ls 4 [(0, .ref (mh)), (1, .int (nI (mk))), (2, .int (nI (w))), (3, .int (nI (0)))] := lv_sub hl [1, 2, 3, 0] rfl
    exact L11 _ 0 lt rfl (Nat.zero_le _) ls _ _ hl hw

set_option maxRecDepth 100000 in
set_option maxHeartbeats 4000000 in
theorem k_Mo_clear (l : Launch) (D : va_G) (K : Nat → ClassId) (qa : Nat) (N : Nat) (a : Nat) (i : Nat) (d : Nat → Nat) (V : Nat → Nat) (hR : li_R N d V) (hN : N ≤ 2048) (ha : a = 8 * i) (hi : 8 * i + 8 ≤ N) : mg_Mv l D K y_Mo_clear b_Mo_clear 3 ({ frames := 0, cells := 0, slots := 0, locals := 0 }) [.ref (qa), .int (nI (a))] [mg_al K qa N d] (fun (u : (Nat → Nat)) => li_R N u (va_up V i 0)) (fun (u : (Nat → Nat)) => [mg_al K qa N u]) := by
  intro sz
  refine mg_entry (Qc := fun A => va_Qv (fun (u : (Nat → Nat)) => li_R N u (va_up V i 0)) (mg_B D A (fun (u : (Nat → Nat)) => [mg_al K qa N u])) A) (by decide) (Nat.le_of_ble_eq_true rfl) ?_
  intro p e s m args below meth c A ls X hr hlk hnm hA hK hw hl
  have hl : lv_has ls 3 [(0, .ref (qa)), (1, .int (nI (a)))] := hl
  refine mg_iconst X 1 0 d_Mo_clear_0 mg_ci_0 rfl ?_
  refine mg_istore_n X 2 [(2, .int (nI (0))), (0, .ref (qa)), (1, .int (nI (a)))] d_Mo_clear_1 hl (by decide) rfl rfl (fun ls hl => ?_)
  have L2 : ∀ (n0 : Nat) (k : Nat) (u : Nat → Nat), n0 = 8 - k → (li_clI N a k d u) → (k ≤ 8) → ∀ (ls : Array Slot) (H : Heap) (locs : List Loc), lv_has ls 3 [(0, .ref (qa)), (1, .int (nI (a))), (2, .int (nI (k)))] → mg_H D A s.heap H locs [mg_al K qa N u] → W p l e ({ frames := 0, cells := 0, slots := 0, locals := 0 }) s m args below meth c H locs 0 0 (MQ below (va_Qv (fun (u : (Nat → Nat)) => li_R N u (va_up V i 0)) (mg_B D A (fun (u : (Nat → Nat)) => [mg_al K qa N u])) A) args s 0 0 A) (F0 m 2 ls []) := by
    intro n0
    induction n0 using Nat.strongRecOn with
    | ind n0 ih2 =>
    intro k u hm2 hI hk ls H locs hl hw
    refine mg_iload_n X 3 d_Mo_clear_2 (lv_at hl 2 rfl) rfl ?_
    refine mg_bipush X 5 8 d_Mo_clear_3 mg_cb_8 rfl ?_
    refine mg_icmp_ge X 20 8 (by omega) (by omega) d_Mo_clear_5 (by decide) rfl (fun hb => ?_) (fun hb => ?_)
    · -- pc 5 t
      exact mg_vret X hr hlk (u) (by obtain rfl : k = 8 := (by omega); exact li_clF hI hR ha) hw d_Mo_clear_20
    · -- pc 5 f
      refine mg_aload_n X 9 d_Mo_clear_8 (lv_at hl 0 rfl) rfl ?_
      refine mg_iload_n X 10 d_Mo_clear_9 (lv_at hl 1 rfl) rfl ?_
      refine mg_iload_n X 11 d_Mo_clear_10 (lv_at hl 2 rfl) rfl ?_
      refine mg_iadd X 12 (nI (a + k)) d_Mo_clear_11 (nI_add _ _) rfl ?_
      refine mg_lconst X 13 0 d_Mo_clear_12 rfl rfl ?_
      refine mg_last X hK hw 14 0 [mg_al K qa N (va_up u (a + k) 0)] rfl (by omega) (by omega) d_Mo_clear_13 rfl rfl (fun H locs hw => ?_)
      refine mg_iinc X 17 [(2, .int (nI (k + 1))), (0, .ref (qa)), (1, .int (nI (a)))] (k + 1) d_Mo_clear_14 hl (k := 2) rfl (mg_inc1 _) (by decide) rfl rfl (fun ls hl => ?_)
      refine mg_goto X 2 d_Mo_clear_17 (by decide) ?_
      have hl : lv_has ls 3 [(0, .ref (qa)), (1, .int (nI (a))), (2, .int (nI (k + 1)))] := lv_sub hl [1, 2, 0] rfl
      exact ih2 _ (by omega) (k + 1) (va_up u (a + k) 0) rfl (li_clS hI) (by omega) ls _ _ hl hw
  have hl : lv_has ls 3 [(0, .ref (qa)), (1, .int (nI (a))), (2, .int (nI (0)))] := lv_sub hl [1, 2, 0] rfl
  exact L2 _ 0 d rfl (li_cl0 hR.1) (by omega) ls _ _ hl hw

set_option maxRecDepth 100000 in
set_option maxHeartbeats 4000000 in
theorem k_Mo_addTimes (l : Launch) (D : va_G) (K : Nat → ClassId) (qa : Nat) (qb : Nat) (N : Nat) (N2 : Nat) (a : Nat) (f : Nat) (n : Nat) (i : Nat) (j : Nat) (d : Nat → Nat) (V : Nat → Nat) (d2 : Nat → Nat) (V2 : Nat → Nat) (hR : li_R N d V) (hR2 : li_R N2 d2 V2) (hN : N ≤ 2048) (hN2 : N2 ≤ 2048) (ha : a = 8 * i) (hf : f = 8 * j) (hi : 8 * i + 8 ≤ N) (hj : 8 * j + 8 ≤ N2) (hn : n < 4294967296) (hl0 : V i + V2 j * n < 268435456 ^ 8) : mg_Mv l D K y_Mo_addTimes b_Mo_addTimes 9 ({ frames := 0, cells := 0, slots := 0, locals := 0 }) [.ref (qa), .int (nI (a)), .ref (qb), .int (nI (f)), .long (lN (n))] [mg_al K qa N d, mg_al K qb N2 d2] (fun (u : (Nat → Nat)) => li_R N u (va_up V i (V i + V2 j * n))) (fun (u : (Nat → Nat)) => [mg_al K qa N u, mg_al K qb N2 d2]) := by
  intro sz
  refine mg_entry (Qc := fun A => va_Qv (fun (u : (Nat → Nat)) => li_R N u (va_up V i (V i + V2 j * n))) (mg_B D A (fun (u : (Nat → Nat)) => [mg_al K qa N u, mg_al K qb N2 d2])) A) (by decide) (Nat.le_of_ble_eq_true rfl) ?_
  intro p e s m args below meth c A ls X hr hlk hnm hA hK hw hl
  have hl : lv_has ls 9 [(0, .ref (qa)), (1, .int (nI (a))), (2, .ref (qb)), (3, .int (nI (f))), (4, .long (lN (n)))] := hl
  refine mg_lconst X 1 0 d_Mo_addTimes_0 rfl rfl ?_
  refine mg_lstore X 3 [(6, .long (lN (0))), (0, .ref (qa)), (1, .int (nI (a))), (2, .ref (qb)), (3, .int (nI (f))), (4, .long (lN (n)))] d_Mo_addTimes_1 hl (by decide) rfl rfl (fun ls hl => ?_)
  refine mg_iconst X 4 0 d_Mo_addTimes_3 mg_ci_0 rfl ?_
  refine mg_istore X 6 [(8, .int (nI (0))), (6, .long (lN (0))), (0, .ref (qa)), (1, .int (nI (a))), (2, .ref (qb)), (3, .int (nI (f))), (4, .long (lN (n)))] d_Mo_addTimes_4 hl (by decide) rfl rfl (fun ls hl => ?_)
  have L6 : ∀ (n0 : Nat) (k : Nat) (cy : Nat) (u : Nat → Nat), n0 = 8 - k → (li_adI N a f n k cy d u d2) → (k ≤ 8) → ∀ (ls : Array Slot) (H : Heap) (locs : List Loc), lv_has ls 9 [(0, .ref (qa)), (1, .int (nI (a))), (2, .ref (qb)), (3, .int (nI (f))), (4, .long (lN (n))), (6, .long (lN (cy))), (8, .int (nI (k)))] → mg_H D A s.heap H locs [mg_al K qa N u, mg_al K qb N2 d2] → W p l e ({ frames := 0, cells := 0, slots := 0, locals := 0 }) s m args below meth c H locs 0 0 (MQ below (va_Qv (fun (u : (Nat → Nat)) => li_R N u (va_up V i (V i + V2 j * n))) (mg_B D A (fun (u : (Nat → Nat)) => [mg_al K qa N u, mg_al K qb N2 d2])) A) args s 0 0 A) (F0 m 6 ls []) := by
    intro n0
    induction n0 using Nat.strongRecOn with
    | ind n0 ih6 =>
    intro k cy u hm6 hI hk ls H locs hl hw
    refine mg_iload X 8 d_Mo_addTimes_6 (lv_at hl 6 rfl) rfl ?_
    refine mg_bipush X 10 8 d_Mo_addTimes_8 mg_cb_8 rfl ?_
    refine mg_icmp_ge X 60 13 (by omega) (by omega) d_Mo_addTimes_10 (by decide) rfl (fun hb => ?_) (fun hb => ?_)
    · -- pc 10 t
      exact mg_vret X hr hlk (u) (by obtain rfl : k = 8 := (by omega); exact li_adF hI hR hR2 ha hf hi hj hl0) hw d_Mo_addTimes_60
    · -- pc 10 f
      refine mg_lload X 15 d_Mo_addTimes_13 (lv_at hl 5 rfl) rfl ?_
      refine mg_aload_n X 16 d_Mo_addTimes_15 (lv_at hl 0 rfl) rfl ?_
      refine mg_iload_n X 17 d_Mo_addTimes_16 (lv_at hl 1 rfl) rfl ?_
      refine mg_iload X 19 d_Mo_addTimes_17 (lv_at hl 6 rfl) rfl ?_
      refine mg_iadd X 20 (nI (a + k)) d_Mo_addTimes_19 (nI_add _ _) rfl ?_
      refine mg_lald X hK hw 21 0 rfl (by omega) (by omega) d_Mo_addTimes_20 rfl ?_
      refine mg_ladd X 22 (lN (cy + (u (a + k)))) d_Mo_addTimes_21 (lN_add _ _) rfl ?_
      refine mg_aload_n X 23 d_Mo_addTimes_22 (lv_at hl 2 rfl) rfl ?_
      refine mg_iload_n X 24 d_Mo_addTimes_23 (lv_at hl 3 rfl) rfl ?_
      refine mg_iload X 26 d_Mo_addTimes_24 (lv_at hl 6 rfl) rfl ?_
      refine mg_iadd X 27 (nI (f + k)) d_Mo_addTimes_26 (nI_add _ _) rfl ?_
      refine mg_lald X hK hw 28 1 rfl (by omega) (by omega) d_Mo_addTimes_27 rfl ?_
      refine mg_lload X 30 d_Mo_addTimes_28 (lv_at hl 4 rfl) rfl ?_
      refine mg_lmul X 31 (lN ((d2 (f + k)) * n)) d_Mo_addTimes_30 (lN_mul _ _) rfl ?_
      refine mg_ladd X 32 (lN ((cy + (u (a + k))) + ((d2 (f + k)) * n))) d_Mo_addTimes_31 (lN_add _ _) rfl ?_
      refine mg_lstore X 34 [(6, .long (lN ((cy + (u (a + k))) + ((d2 (f + k)) * n)))), (0, .ref (qa)), (1, .int (nI (a))), (2, .ref (qb)), (3, .int (nI (f))), (4, .long (lN (n))), (8, .int (nI (k)))] d_Mo_addTimes_32 hl (by decide) rfl rfl (fun ls hl => ?_)
      refine mg_aload_n X 35 d_Mo_addTimes_34 (lv_at hl 1 rfl) rfl ?_
      refine mg_iload_n X 36 d_Mo_addTimes_35 (lv_at hl 2 rfl) rfl ?_
      refine mg_iload X 38 d_Mo_addTimes_36 (lv_at hl 6 rfl) rfl ?_
      refine mg_iadd X 39 (nI (a + k)) d_Mo_addTimes_38 (nI_add _ _) rfl ?_
      refine mg_lload X 41 d_Mo_addTimes_39 (lv_at hl 0 rfl) rfl ?_
      refine mg_ldc2 X 44 268435456 d_Mo_addTimes_41 cw_Mo_137 rfl rfl ?_
      refine mg_lrem X 45 d_Mo_addTimes_44 (li_ad_lt (hI.1.1 (a + k) (by omega)) (hR2.1 (f + k) (by omega)) hI.2.2 hn) (by omega) (by omega) rfl ?_
      refine mg_last X hK hw 46 0 [mg_al K qa N (va_up u (a + k) (((cy + (u (a + k))) + ((d2 (f + k)) * n)) % 268435456)), mg_al K qb N2 d2] rfl (by omega) (by omega) d_Mo_addTimes_45 rfl rfl (fun H locs hw => ?_)
      refine mg_lload X 48 d_Mo_addTimes_46 (lv_at hl 0 rfl) rfl ?_
      refine mg_ldc2 X 51 268435456 d_Mo_addTimes_48 cw_Mo_137 rfl rfl ?_
      refine mg_ldiv X 52 d_Mo_addTimes_51 (li_ad_lt (hI.1.1 (a + k) (by omega)) (hR2.1 (f + k) (by omega)) hI.2.2 hn) (by omega) (by omega) rfl ?_
      refine mg_lstore X 54 [(6, .long (lN (((cy + (u (a + k))) + ((d2 (f + k)) * n)) / 268435456))), (0, .ref (qa)), (1, .int (nI (a))), (2, .ref (qb)), (3, .int (nI (f))), (4, .long (lN (n))), (8, .int (nI (k)))] d_Mo_addTimes_52 hl (by decide) rfl rfl (fun ls hl => ?_)
      refine mg_iinc X 57 [(8, .int (nI (k + 1))), (6, .long (lN (((cy + (u (a + k))) + ((d2 (f + k)) * n)) / 268435456))), (0, .ref (qa)), (1, .int (nI (a))), (2, .ref (qb)), (3, .int (nI (f))), (4, .long (lN (n)))] (k + 1) d_Mo_addTimes_54 hl (k := 6) rfl (mg_inc1 _) (by decide) rfl rfl (fun ls hl => ?_)
      refine mg_goto X 6 d_Mo_addTimes_57 (by decide) ?_
      have hl : lv_has ls 9 [(0, .ref (qa)), (1, .int (nI (a))), (2, .ref (qb)), (3, .int (nI (f))), (4, .long (lN (n))), (6, .long (lN (((cy + (u (a + k))) + ((d2 (f + k)) * n)) / 268435456))), (8, .int (nI (k + 1)))] := lv_sub hl [2, 3, 4, 5, 6, 1, 0] rfl
      exact ih6 _ (by omega) (k + 1) (((cy + (u (a + k))) + ((d2 (f + k)) * n)) / 268435456) (va_up u (a + k) (((cy + (u (a + k))) + ((d2 (f + k)) * n)) % 268435456)) rfl (li_adS hI hR2.1 (by omega) (by omega) (rfl)) (by omega) ls _ _ hl hw
  have hl : lv_has ls 9 [(0, .ref (qa)), (1, .int (nI (a))), (2, .ref (qb)), (3, .int (nI (f))), (4, .long (lN (n))), (6, .long (lN (0))), (8, .int (nI (0)))] := lv_sub hl [2, 3, 4, 5, 6, 1, 0] rfl
  exact L6 _ 0 0 d rfl (li_ad0 hR.1) (by omega) ls _ _ hl hw

set_option maxRecDepth 100000 in
set_option maxHeartbeats 4000000 in
theorem k_Mo_addTimes1 (l : Launch) (D : va_G) (K : Nat → ClassId) (qa : Nat) (N : Nat) (a : Nat) (f : Nat) (n : Nat) (i : Nat) (j : Nat) (d : Nat → Nat) (V : Nat → Nat) (hR : li_R N d V) (hN : N ≤ 2048) (ha : a = 8 * i) (hf : f = 8 * j) (hi : 8 * i + 8 ≤ N) (hj : 8 * j + 8 ≤ N) (hij : i ≠ j) (hn : n < 4294967296) (hl0 : V i + V j * n < 268435456 ^ 8) : mg_Mv l D K y_Mo_addTimes b_Mo_addTimes 9 ({ frames := 0, cells := 0, slots := 0, locals := 0 }) [.ref (qa), .int (nI (a)), .ref (qa), .int (nI (f)), .long (lN (n))] [mg_al K qa N d] (fun (u : (Nat → Nat)) => li_R N u (va_up V i (V i + V j * n))) (fun (u : (Nat → Nat)) => [mg_al K qa N u]) := by
  intro sz
  refine mg_entry (Qc := fun A => va_Qv (fun (u : (Nat → Nat)) => li_R N u (va_up V i (V i + V j * n))) (mg_B D A (fun (u : (Nat → Nat)) => [mg_al K qa N u])) A) (by decide) (Nat.le_of_ble_eq_true rfl) ?_
  intro p e s m args below meth c A ls X hr hlk hnm hA hK hw hl
  have hl : lv_has ls 9 [(0, .ref (qa)), (1, .int (nI (a))), (2, .ref (qa)), (3, .int (nI (f))), (4, .long (lN (n)))] := hl
  refine mg_lconst X 1 0 d_Mo_addTimes_0 rfl rfl ?_
  refine mg_lstore X 3 [(6, .long (lN (0))), (0, .ref (qa)), (1, .int (nI (a))), (2, .ref (qa)), (3, .int (nI (f))), (4, .long (lN (n)))] d_Mo_addTimes_1 hl (by decide) rfl rfl (fun ls hl => ?_)
  refine mg_iconst X 4 0 d_Mo_addTimes_3 mg_ci_0 rfl ?_
  refine mg_istore X 6 [(8, .int (nI (0))), (6, .long (lN (0))), (0, .ref (qa)), (1, .int (nI (a))), (2, .ref (qa)), (3, .int (nI (f))), (4, .long (lN (n)))] d_Mo_addTimes_4 hl (by decide) rfl rfl (fun ls hl => ?_)
  have L6 : ∀ (n0 : Nat) (k : Nat) (cy : Nat) (u : Nat → Nat), n0 = 8 - k → (li_adI N a f n k cy d u d) → (k ≤ 8) → ∀ (ls : Array Slot) (H : Heap) (locs : List Loc), lv_has ls 9 [(0, .ref (qa)), (1, .int (nI (a))), (2, .ref (qa)), (3, .int (nI (f))), (4, .long (lN (n))), (6, .long (lN (cy))), (8, .int (nI (k)))] → mg_H D A s.heap H locs [mg_al K qa N u] → W p l e ({ frames := 0, cells := 0, slots := 0, locals := 0 }) s m args below meth c H locs 0 0 (MQ below (va_Qv (fun (u : (Nat → Nat)) => li_R N u (va_up V i (V i + V j * n))) (mg_B D A (fun (u : (Nat → Nat)) => [mg_al K qa N u])) A) args s 0 0 A) (F0 m 6 ls []) := by
    intro n0
    induction n0 using Nat.strongRecOn with
    | ind n0 ih6 =>
    intro k cy u hm6 hI hk ls H locs hl hw
    refine mg_iload X 8 d_Mo_addTimes_6 (lv_at hl 6 rfl) rfl ?_
    refine mg_bipush X 10 8 d_Mo_addTimes_8 mg_cb_8 rfl ?_
    refine mg_icmp_ge X 60 13 (by omega) (by omega) d_Mo_addTimes_10 (by decide) rfl (fun hb => ?_) (fun hb => ?_)
    · -- pc 10 t
      exact mg_vret X hr hlk (u) (by obtain rfl : k = 8 := (by omega); exact li_adF hI hR hR ha hf hi hj hl0) hw d_Mo_addTimes_60
    · -- pc 10 f
      refine mg_lload X 15 d_Mo_addTimes_13 (lv_at hl 5 rfl) rfl ?_
      refine mg_aload_n X 16 d_Mo_addTimes_15 (lv_at hl 0 rfl) rfl ?_
      refine mg_iload_n X 17 d_Mo_addTimes_16 (lv_at hl 1 rfl) rfl ?_
      refine mg_iload X 19 d_Mo_addTimes_17 (lv_at hl 6 rfl) rfl ?_
      refine mg_iadd X 20 (nI (a + k)) d_Mo_addTimes_19 (nI_add _ _) rfl ?_
      refine mg_lald X hK hw 21 0 rfl (by omega) (by omega) d_Mo_addTimes_20 rfl ?_
      refine mg_ladd X 22 (lN (cy + (u (a + k)))) d_Mo_addTimes_21 (lN_add _ _) rfl ?_
      refine mg_aload_n X 23 d_Mo_addTimes_22 (lv_at hl 2 rfl) rfl ?_
      refine mg_iload_n X 24 d_Mo_addTimes_23 (lv_at hl 3 rfl) rfl ?_
      refine mg_iload X 26 d_Mo_addTimes_24 (lv_at hl 6 rfl) rfl ?_
      refine mg_iadd X 27 (nI (f + k)) d_Mo_addTimes_26 (nI_add _ _) rfl ?_
      refine mg_lald X hK hw 28 0 rfl (by omega) (by omega) d_Mo_addTimes_27 rfl ?_
      refine mg_lload X 30 d_Mo_addTimes_28 (lv_at hl 4 rfl) rfl ?_
      refine mg_lmul X 31 (lN ((u (f + k)) * n)) d_Mo_addTimes_30 (lN_mul _ _) rfl ?_
      refine mg_ladd X 32 (lN ((cy + (u (a + k))) + ((u (f + k)) * n))) d_Mo_addTimes_31 (lN_add _ _) rfl ?_
      refine mg_lstore X 34 [(6, .long (lN ((cy + (u (a + k))) + ((u (f + k)) * n)))), (0, .ref (qa)), (1, .int (nI (a))), (2, .ref (qa)), (3, .int (nI (f))), (4, .long (lN (n))), (8, .int (nI (k)))] d_Mo_addTimes_32 hl (by decide) rfl rfl (fun ls hl => ?_)
      refine mg_aload_n X 35 d_Mo_addTimes_34 (lv_at hl 1 rfl) rfl ?_
      refine mg_iload_n X 36 d_Mo_addTimes_35 (lv_at hl 2 rfl) rfl ?_
      refine mg_iload X 38 d_Mo_addTimes_36 (lv_at hl 6 rfl) rfl ?_
      refine mg_iadd X 39 (nI (a + k)) d_Mo_addTimes_38 (nI_add _ _) rfl ?_
      refine mg_lload X 41 d_Mo_addTimes_39 (lv_at hl 0 rfl) rfl ?_
      refine mg_ldc2 X 44 268435456 d_Mo_addTimes_41 cw_Mo_137 rfl rfl ?_
      refine mg_lrem X 45 d_Mo_addTimes_44 (li_ad_lt (hI.1.1 (a + k) (by omega)) (hI.1.1 (f + k) (by omega)) hI.2.2 hn) (by omega) (by omega) rfl ?_
      refine mg_last X hK hw 46 0 [mg_al K qa N (va_up u (a + k) (((cy + (u (a + k))) + ((u (f + k)) * n)) % 268435456))] rfl (by omega) (by omega) d_Mo_addTimes_45 rfl rfl (fun H locs hw => ?_)
      refine mg_lload X 48 d_Mo_addTimes_46 (lv_at hl 0 rfl) rfl ?_
      refine mg_ldc2 X 51 268435456 d_Mo_addTimes_48 cw_Mo_137 rfl rfl ?_
      refine mg_ldiv X 52 d_Mo_addTimes_51 (li_ad_lt (hI.1.1 (a + k) (by omega)) (hI.1.1 (f + k) (by omega)) hI.2.2 hn) (by omega) (by omega) rfl ?_
      refine mg_lstore X 54 [(6, .long (lN (((cy + (u (a + k))) + ((u (f + k)) * n)) / 268435456))), (0, .ref (qa)), (1, .int (nI (a))), (2, .ref (qa)), (3, .int (nI (f))), (4, .long (lN (n))), (8, .int (nI (k)))] d_Mo_addTimes_52 hl (by decide) rfl rfl (fun ls hl => ?_)
      refine mg_iinc X 57 [(8, .int (nI (k + 1))), (6, .long (lN (((cy + (u (a + k))) + ((u (f + k)) * n)) / 268435456))), (0, .ref (qa)), (1, .int (nI (a))), (2, .ref (qa)), (3, .int (nI (f))), (4, .long (lN (n)))] (k + 1) d_Mo_addTimes_54 hl (k := 6) rfl (mg_inc1 _) (by decide) rfl rfl (fun ls hl => ?_)
      refine mg_goto X 6 d_Mo_addTimes_57 (by decide) ?_
      have hl : lv_has ls 9 [(0, .ref (qa)), (1, .int (nI (a))), (2, .ref (qa)), (3, .int (nI (f))), (4, .long (lN (n))), (6, .long (lN (((cy + (u (a + k))) + ((u (f + k)) * n)) / 268435456))), (8, .int (nI (k + 1)))] := lv_sub hl [2, 3, 4, 5, 6, 1, 0] rfl
      exact ih6 _ (by omega) (k + 1) (((cy + (u (a + k))) + ((u (f + k)) * n)) / 268435456) (va_up u (a + k) (((cy + (u (a + k))) + ((u (f + k)) * n)) % 268435456)) rfl (li_adS hI hR.1 (by omega) (by omega) (hI.1.2 (f + k) (by omega) (by omega))) (by omega) ls _ _ hl hw
  have hl : lv_has ls 9 [(0, .ref (qa)), (1, .int (nI (a))), (2, .ref (qa)), (3, .int (nI (f))), (4, .long (lN (n))), (6, .long (lN (0))), (8, .int (nI (0)))] := lv_sub hl [2, 3, 4, 5, 6, 1, 0] rfl
  exact L6 _ 0 0 d rfl (li_ad0 hR.1) (by omega) ls _ _ hl hw

set_option maxRecDepth 100000 in
set_option maxHeartbeats 4000000 in
theorem k_Mo_times (l : Launch) (D : va_G) (K : Nat → ClassId) (qa : Nat) (N : Nat) (a : Nat) (n : Nat) (i : Nat) (d : Nat → Nat) (V : Nat → Nat) (hR : li_R N d V) (hN : N ≤ 2048) (ha : a = 8 * i) (hi : 8 * i + 8 ≤ N) (hn : n < 4294967296) (hl0 : V i * n < 268435456 ^ 8) : mg_Mv l D K y_Mo_times b_Mo_times 7 ({ frames := 0, cells := 0, slots := 0, locals := 0 }) [.ref (qa), .int (nI (a)), .long (lN (n))] [mg_al K qa N d] (fun (u : (Nat → Nat)) => li_R N u (va_up V i (V i * n))) (fun (u : (Nat → Nat)) => [mg_al K qa N u]) := by
  intro sz
  refine mg_entry (Qc := fun A => va_Qv (fun (u : (Nat → Nat)) => li_R N u (va_up V i (V i * n))) (mg_B D A (fun (u : (Nat → Nat)) => [mg_al K qa N u])) A) (by decide) (Nat.le_of_ble_eq_true rfl) ?_
  intro p e s m args below meth c A ls X hr hlk hnm hA hK hw hl
  have hl : lv_has ls 7 [(0, .ref (qa)), (1, .int (nI (a))), (2, .long (lN (n)))] := hl
  refine mg_lconst X 1 0 d_Mo_times_0 rfl rfl ?_
  refine mg_lstore X 3 [(4, .long (lN (0))), (0, .ref (qa)), (1, .int (nI (a))), (2, .long (lN (n)))] d_Mo_times_1 hl (by decide) rfl rfl (fun ls hl => ?_)
  refine mg_iconst X 4 0 d_Mo_times_3 mg_ci_0 rfl ?_
  refine mg_istore X 6 [(6, .int (nI (0))), (4, .long (lN (0))), (0, .ref (qa)), (1, .int (nI (a))), (2, .long (lN (n)))] d_Mo_times_4 hl (by decide) rfl rfl (fun ls hl => ?_)
  have L6 : ∀ (n0 : Nat) (k : Nat) (cy : Nat) (u : Nat → Nat), n0 = 8 - k → (li_muI N a n k cy d u) → (k ≤ 8) → ∀ (ls : Array Slot) (H : Heap) (locs : List Loc), lv_has ls 7 [(0, .ref (qa)), (1, .int (nI (a))), (2, .long (lN (n))), (4, .long (lN (cy))), (6, .int (nI (k)))] → mg_H D A s.heap H locs [mg_al K qa N u] → W p l e ({ frames := 0, cells := 0, slots := 0, locals := 0 }) s m args below meth c H locs 0 0 (MQ below (va_Qv (fun (u : (Nat → Nat)) => li_R N u (va_up V i (V i * n))) (mg_B D A (fun (u : (Nat → Nat)) => [mg_al K qa N u])) A) args s 0 0 A) (F0 m 6 ls []) := by
    intro n0
    induction n0 using Nat.strongRecOn with
    | ind n0 ih6 =>
    intro k cy u hm6 hI hk ls H locs hl hw
    refine mg_iload X 8 d_Mo_times_6 (lv_at hl 4 rfl) rfl ?_
    refine mg_bipush X 10 8 d_Mo_times_8 mg_cb_8 rfl ?_
    refine mg_icmp_ge X 52 13 (by omega) (by omega) d_Mo_times_10 (by decide) rfl (fun hb => ?_) (fun hb => ?_)
    · -- pc 10 t
      exact mg_vret X hr hlk (u) (by obtain rfl : k = 8 := (by omega); exact li_muF hI hR ha hi hl0) hw d_Mo_times_52
    · -- pc 10 f
      refine mg_lload X 15 d_Mo_times_13 (lv_at hl 3 rfl) rfl ?_
      refine mg_aload_n X 16 d_Mo_times_15 (lv_at hl 0 rfl) rfl ?_
      refine mg_iload_n X 17 d_Mo_times_16 (lv_at hl 1 rfl) rfl ?_
      refine mg_iload X 19 d_Mo_times_17 (lv_at hl 4 rfl) rfl ?_
      refine mg_iadd X 20 (nI (a + k)) d_Mo_times_19 (nI_add _ _) rfl ?_
      refine mg_lald X hK hw 21 0 rfl (by omega) (by omega) d_Mo_times_20 rfl ?_
      refine mg_lload_n X 22 d_Mo_times_21 (lv_at hl 2 rfl) rfl ?_
      refine mg_lmul X 23 (lN ((u (a + k)) * n)) d_Mo_times_22 (lN_mul _ _) rfl ?_
      refine mg_ladd X 24 (lN (cy + ((u (a + k)) * n))) d_Mo_times_23 (lN_add _ _) rfl ?_
      refine mg_lstore X 26 [(4, .long (lN (cy + ((u (a + k)) * n)))), (0, .ref (qa)), (1, .int (nI (a))), (2, .long (lN (n))), (6, .int (nI (k)))] d_Mo_times_24 hl (by decide) rfl rfl (fun ls hl => ?_)
      refine mg_aload_n X 27 d_Mo_times_26 (lv_at hl 1 rfl) rfl ?_
      refine mg_iload_n X 28 d_Mo_times_27 (lv_at hl 2 rfl) rfl ?_
      refine mg_iload X 30 d_Mo_times_28 (lv_at hl 4 rfl) rfl ?_
      refine mg_iadd X 31 (nI (a + k)) d_Mo_times_30 (nI_add _ _) rfl ?_
      refine mg_lload X 33 d_Mo_times_31 (lv_at hl 0 rfl) rfl ?_
      refine mg_ldc2 X 36 268435456 d_Mo_times_33 cw_Mo_137 rfl rfl ?_
      refine mg_lrem X 37 d_Mo_times_36 (li_mu_lt (hI.1.1 (a + k) (by omega)) hI.2.2 hn) (by omega) (by omega) rfl ?_
      refine mg_last X hK hw 38 0 [mg_al K qa N (va_up u (a + k) ((cy + ((u (a + k)) * n)) % 268435456))] rfl (by omega) (by omega) d_Mo_times_37 rfl rfl (fun H locs hw => ?_)
      refine mg_lload X 40 d_Mo_times_38 (lv_at hl 0 rfl) rfl ?_
      refine mg_ldc2 X 43 268435456 d_Mo_times_40 cw_Mo_137 rfl rfl ?_
      refine mg_ldiv X 44 d_Mo_times_43 (li_mu_lt (hI.1.1 (a + k) (by omega)) hI.2.2 hn) (by omega) (by omega) rfl ?_
      refine mg_lstore X 46 [(4, .long (lN ((cy + ((u (a + k)) * n)) / 268435456))), (0, .ref (qa)), (1, .int (nI (a))), (2, .long (lN (n))), (6, .int (nI (k)))] d_Mo_times_44 hl (by decide) rfl rfl (fun ls hl => ?_)
      refine mg_iinc X 49 [(6, .int (nI (k + 1))), (4, .long (lN ((cy + ((u (a + k)) * n)) / 268435456))), (0, .ref (qa)), (1, .int (nI (a))), (2, .long (lN (n)))] (k + 1) d_Mo_times_46 hl (k := 4) rfl (mg_inc1 _) (by decide) rfl rfl (fun ls hl => ?_)
      refine mg_goto X 6 d_Mo_times_49 (by decide) ?_
      have hl : lv_has ls 7 [(0, .ref (qa)), (1, .int (nI (a))), (2, .long (lN (n))), (4, .long (lN ((cy + ((u (a + k)) * n)) / 268435456))), (6, .int (nI (k + 1)))] := lv_sub hl [2, 3, 4, 1, 0] rfl
      exact ih6 _ (by omega) (k + 1) ((cy + ((u (a + k)) * n)) / 268435456) (va_up u (a + k) ((cy + ((u (a + k)) * n)) % 268435456)) rfl (li_muS hI (by omega)) (by omega) ls _ _ hl hw
  have hl : lv_has ls 7 [(0, .ref (qa)), (1, .int (nI (a))), (2, .long (lN (n))), (4, .long (lN (0))), (6, .int (nI (0)))] := lv_sub hl [2, 3, 4, 1, 0] rfl
  exact L6 _ 0 0 d rfl (li_mu0 hR.1) (by omega) ls _ _ hl hw

set_option maxRecDepth 100000 in
set_option maxHeartbeats 4000000 in
theorem k_Mo_compare (l : Launch) (D : va_G) (K : Nat → ClassId) (qa : Nat) (qb : Nat) (N : Nat) (N2 : Nat) (a : Nat) (f : Nat) (i : Nat) (j : Nat) (d : Nat → Nat) (V : Nat → Nat) (d2 : Nat → Nat) (V2 : Nat → Nat) (hR : li_R N d V) (hR2 : li_R N2 d2 V2) (hN : N ≤ 2048) (hN2 : N2 ≤ 2048) (ha : a = 8 * i) (hf : f = 8 * j) (hi : 8 * i + 8 ≤ N) (hj : 8 * j + 8 ≤ N2) : mg_Mi l D K y_Mo_compare b_Mo_compare 6 (.int) ({ frames := 0, cells := 0, slots := 0, locals := 0 }) [.ref (qa), .int (nI (a)), .ref (qb), .int (nI (f))] [mg_al K qa N d, mg_al K qb N2 d2] (fun (r : Int32) (_ : Unit) => r = nI (mg_cmp (V i) (V2 j))) (fun (_ : Unit) => [mg_al K qa N d, mg_al K qb N2 d2]) := by
  intro sz
  refine mg_entry (Qc := fun A => va_Qi (fun (r : Int32) (_ : Unit) => r = nI (mg_cmp (V i) (V2 j))) (mg_B D A (fun (_ : Unit) => [mg_al K qa N d, mg_al K qb N2 d2])) A) (by decide) (Nat.le_of_ble_eq_true rfl) ?_
  intro p e s m args below meth c A ls X hr hlk hnm hA hK hw hl
  have hl : lv_has ls 6 [(0, .ref (qa)), (1, .int (nI (a))), (2, .ref (qb)), (3, .int (nI (f)))] := hl
  refine mg_iconst X 1 0 d_Mo_compare_0 mg_ci_0 rfl ?_
  refine mg_istore X 3 [(4, .int (nI (0))), (0, .ref (qa)), (1, .int (nI (a))), (2, .ref (qb)), (3, .int (nI (f)))] d_Mo_compare_1 hl (by decide) rfl rfl (fun ls hl => ?_)
  refine mg_iconst X 4 0 d_Mo_compare_3 mg_ci_0 rfl ?_
  refine mg_istore X 6 [(5, .int (nI (0))), (4, .int (nI (0))), (0, .ref (qa)), (1, .int (nI (a))), (2, .ref (qb)), (3, .int (nI (f)))] d_Mo_compare_4 hl (by decide) rfl rfl (fun ls hl => ?_)
  have L6 : ∀ (n0 : Nat) (k : Nat) (x : Nat), n0 = 8 - k → (x = mg_cmp (nb_val 268435456 d a k) (nb_val 268435456 d2 f k)) → (k ≤ 8) → ∀ (ls : Array Slot) (H : Heap) (locs : List Loc), lv_has ls 6 [(0, .ref (qa)), (1, .int (nI (a))), (2, .ref (qb)), (3, .int (nI (f))), (4, .int (nI (x))), (5, .int (nI (k)))] → mg_H D A s.heap H locs [mg_al K qa N d, mg_al K qb N2 d2] → W p l e ({ frames := 0, cells := 0, slots := 0, locals := 0 }) s m args below meth c H locs 0 0 (MQ below (va_Qi (fun (r : Int32) (_ : Unit) => r = nI (mg_cmp (V i) (V2 j))) (mg_B D A (fun (_ : Unit) => [mg_al K qa N d, mg_al K qb N2 d2])) A) args s 0 0 A) (F0 m 6 ls []) := by
    intro n0
    induction n0 using Nat.strongRecOn with
    | ind n0 ih6 =>
    intro k x hm6 hx hk ls H locs hl hw
    refine mg_iload X 8 d_Mo_compare_6 (lv_at hl 5 rfl) rfl ?_
    refine mg_bipush X 10 8 d_Mo_compare_8 mg_cb_8 rfl ?_
    refine mg_icmp_ge X 63 13 (by omega) (by omega) d_Mo_compare_10 (by decide) rfl (fun hb => ?_) (fun hb => ?_)
    · -- pc 10 t
      refine mg_iload X 65 d_Mo_compare_63 (lv_at hl 4 rfl) rfl ?_
      exact mg_iret X hr hlk (rfl) (()) (by subst ha; subst hf; rw [hx, show k = 8 by omega, hR.2 i hi, hR2.2 j hj]) hw d_Mo_compare_65
    · -- pc 10 f
      refine mg_aload_n X 14 d_Mo_compare_13 (lv_at hl 0 rfl) rfl ?_
      refine mg_iload_n X 15 d_Mo_compare_14 (lv_at hl 1 rfl) rfl ?_
      refine mg_iload X 17 d_Mo_compare_15 (lv_at hl 5 rfl) rfl ?_
      refine mg_iadd X 18 (nI (a + k)) d_Mo_compare_17 (nI_add _ _) rfl ?_
      refine mg_lald X hK hw 19 0 rfl (by omega) (by omega) d_Mo_compare_18 rfl ?_
      refine mg_aload_n X 20 d_Mo_compare_19 (lv_at hl 2 rfl) rfl ?_
      refine mg_iload_n X 21 d_Mo_compare_20 (lv_at hl 3 rfl) rfl ?_
      refine mg_iload X 23 d_Mo_compare_21 (lv_at hl 5 rfl) rfl ?_
      refine mg_iadd X 24 (nI (f + k)) d_Mo_compare_23 (nI_add _ _) rfl ?_
      refine mg_lald X hK hw 25 1 rfl (by omega) (by omega) d_Mo_compare_24 rfl ?_
      refine mg_lcmp_ge X 33 29 (by have := hR.1 (a + k) (by omega); omega) (by have := hR2.1 (f + k) (by omega); omega) d_Mo_compare_25 d_Mo_compare_26 (by decide) rfl (fun h1 => ?_) (fun h1 => ?_)
      · -- pc 25 t
        refine mg_aload_n X 34 d_Mo_compare_33 (lv_at hl 0 rfl) rfl ?_
        refine mg_iload_n X 35 d_Mo_compare_34 (lv_at hl 1 rfl) rfl ?_
        refine mg_iload X 37 d_Mo_compare_35 (lv_at hl 5 rfl) rfl ?_
        refine mg_iadd X 38 (nI (a + k)) d_Mo_compare_37 (nI_add _ _) rfl ?_
        refine mg_lald X hK hw 39 0 rfl (by omega) (by omega) d_Mo_compare_38 rfl ?_
        refine mg_aload_n X 40 d_Mo_compare_39 (lv_at hl 2 rfl) rfl ?_
        refine mg_iload_n X 41 d_Mo_compare_40 (lv_at hl 3 rfl) rfl ?_
        refine mg_iload X 43 d_Mo_compare_41 (lv_at hl 5 rfl) rfl ?_
        refine mg_iadd X 44 (nI (f + k)) d_Mo_compare_43 (nI_add _ _) rfl ?_
        refine mg_lald X hK hw 45 1 rfl (by omega) (by omega) d_Mo_compare_44 rfl ?_
        refine mg_lcmp_le X 53 49 (by have := hR.1 (a + k) (by omega); omega) (by have := hR2.1 (f + k) (by omega); omega) d_Mo_compare_45 d_Mo_compare_46 (by decide) rfl (fun h2 => ?_) (fun h2 => ?_)
        · -- pc 45 t
          refine mg_iload X 55 d_Mo_compare_53 (lv_at hl 4 rfl) rfl ?_
          refine mg_istore X 57 [(4, .int (nI (x))), (0, .ref (qa)), (1, .int (nI (a))), (2, .ref (qb)), (3, .int (nI (f))), (5, .int (nI (k)))] d_Mo_compare_55 hl (by decide) rfl rfl (fun ls hl => ?_)
          refine mg_iinc X 60 [(5, .int (nI (k + 1))), (4, .int (nI (x))), (0, .ref (qa)), (1, .int (nI (a))), (2, .ref (qb)), (3, .int (nI (f)))] (k + 1) d_Mo_compare_57 hl (k := 5) rfl (mg_inc1 _) (by decide) rfl rfl (fun ls hl => ?_)
          refine mg_goto X 6 d_Mo_compare_60 (by decide) ?_
          have hl : lv_has ls 6 [(0, .ref (qa)), (1, .int (nI (a))), (2, .ref (qb)), (3, .int (nI (f))), (4, .int (nI (x))), (5, .int (nI (k + 1)))] := lv_sub hl [2, 3, 4, 5, 1, 0] rfl
          exact ih6 _ (by omega) (k + 1) x rfl (hx.trans (li_ceq (by omega)).symm) (by omega) ls _ _ hl hw
        · -- pc 45 f
          refine mg_iconst X 50 1 d_Mo_compare_49 mg_ci_1 rfl ?_
          refine mg_goto X 55 d_Mo_compare_50 (by decide) ?_
          refine mg_istore X 57 [(4, .int (nI (1))), (0, .ref (qa)), (1, .int (nI (a))), (2, .ref (qb)), (3, .int (nI (f))), (5, .int (nI (k)))] d_Mo_compare_55 hl (by decide) rfl rfl (fun ls hl => ?_)
          refine mg_iinc X 60 [(5, .int (nI (k + 1))), (4, .int (nI (1))), (0, .ref (qa)), (1, .int (nI (a))), (2, .ref (qb)), (3, .int (nI (f)))] (k + 1) d_Mo_compare_57 hl (k := 5) rfl (mg_inc1 _) (by decide) rfl rfl (fun ls hl => ?_)
          refine mg_goto X 6 d_Mo_compare_60 (by decide) ?_
          have hl : lv_has ls 6 [(0, .ref (qa)), (1, .int (nI (a))), (2, .ref (qb)), (3, .int (nI (f))), (4, .int (nI (1))), (5, .int (nI (k + 1)))] := lv_sub hl [2, 3, 4, 5, 1, 0] rfl
          exact ih6 _ (by omega) (k + 1) 1 rfl ((li_cgt (show li_cp N N2 a f d d2 (k + 1) from ⟨hR.1, hR2.1, by omega, by omega⟩) h2).symm) (by omega) ls _ _ hl hw
      · -- pc 25 f
        refine mg_iconst X 30 4294967295 d_Mo_compare_29 mg_ci_m1 rfl ?_
        refine mg_goto X 55 d_Mo_compare_30 (by decide) ?_
        refine mg_istore X 57 [(4, .int (nI (4294967295))), (0, .ref (qa)), (1, .int (nI (a))), (2, .ref (qb)), (3, .int (nI (f))), (5, .int (nI (k)))] d_Mo_compare_55 hl (by decide) rfl rfl (fun ls hl => ?_)
        refine mg_iinc X 60 [(5, .int (nI (k + 1))), (4, .int (nI (4294967295))), (0, .ref (qa)), (1, .int (nI (a))), (2, .ref (qb)), (3, .int (nI (f)))] (k + 1) d_Mo_compare_57 hl (k := 5) rfl (mg_inc1 _) (by decide) rfl rfl (fun ls hl => ?_)
        refine mg_goto X 6 d_Mo_compare_60 (by decide) ?_
        have hl : lv_has ls 6 [(0, .ref (qa)), (1, .int (nI (a))), (2, .ref (qb)), (3, .int (nI (f))), (4, .int (nI (4294967295))), (5, .int (nI (k + 1)))] := lv_sub hl [2, 3, 4, 5, 1, 0] rfl
        exact ih6 _ (by omega) (k + 1) 4294967295 rfl ((li_clt (show li_cp N N2 a f d d2 (k + 1) from ⟨hR.1, hR2.1, by omega, by omega⟩) h1).symm) (by omega) ls _ _ hl hw
  have hl : lv_has ls 6 [(0, .ref (qa)), (1, .int (nI (a))), (2, .ref (qb)), (3, .int (nI (f))), (4, .int (nI (0))), (5, .int (nI (0)))] := lv_sub hl [2, 3, 4, 5, 1, 0] rfl
  exact L6 _ 0 0 rfl (rfl) (by omega) ls _ _ hl hw

set_option maxRecDepth 100000 in
set_option maxHeartbeats 4000000 in
theorem k_Mo_isNothing (l : Launch) (D : va_G) (K : Nat → ClassId) (qa : Nat) (N : Nat) (d : Nat → Nat) (V : Nat → Nat) (hR : li_R N d V) (hN : N ≤ 2048) (hN8 : 8 ≤ N) : mg_Mi l D K y_Mo_isNothing b_Mo_isNothing 3 (.boolean) ({ frames := 0, cells := 0, slots := 0, locals := 0 }) [.ref (qa)] [mg_al K qa N d] (fun (r : Int32) (_ : Unit) => r = nI (ft_c (V 0 = 0))) (fun (_ : Unit) => [mg_al K qa N d]) := by
  intro sz
  refine mg_entry (Qc := fun A => va_Qi (fun (r : Int32) (_ : Unit) => r = nI (ft_c (V 0 = 0))) (mg_B D A (fun (_ : Unit) => [mg_al K qa N d])) A) (by decide) (Nat.le_of_ble_eq_true rfl) ?_
  intro p e s m args below meth c A ls X hr hlk hnm hA hK hw hl
  have hl : lv_has ls 3 [(0, .ref (qa))] := hl
  refine mg_iconst X 1 1 d_Mo_isNothing_0 mg_ci_1 rfl ?_
  refine mg_istore_n X 2 [(1, .int (nI (1))), (0, .ref (qa))] d_Mo_isNothing_1 hl (by decide) rfl rfl (fun ls hl => ?_)
  refine mg_iconst X 3 0 d_Mo_isNothing_2 mg_ci_0 rfl ?_
  refine mg_istore_n X 4 [(2, .int (nI (0))), (1, .int (nI (1))), (0, .ref (qa))] d_Mo_isNothing_3 hl (by decide) rfl rfl (fun ls hl => ?_)
  have L4 : ∀ (n0 : Nat) (k : Nat) (x : Nat), n0 = 8 - k → (x = ft_c (nb_val 268435456 d 0 k = 0)) → (k ≤ 8) → ∀ (ls : Array Slot) (H : Heap) (locs : List Loc), lv_has ls 3 [(0, .ref (qa)), (1, .int (nI (x))), (2, .int (nI (k)))] → mg_H D A s.heap H locs [mg_al K qa N d] → W p l e ({ frames := 0, cells := 0, slots := 0, locals := 0 }) s m args below meth c H locs 0 0 (MQ below (va_Qi (fun (r : Int32) (_ : Unit) => r = nI (ft_c (V 0 = 0))) (mg_B D A (fun (_ : Unit) => [mg_al K qa N d])) A) args s 0 0 A) (F0 m 4 ls []) := by
    intro n0
    induction n0 using Nat.strongRecOn with
    | ind n0 ih4 =>
    intro k x hm4 hx hk ls H locs hl hw
    have hx2 : x < 2 := by rw [hx]; exact mg_ft1 _
    refine mg_iload_n X 5 d_Mo_isNothing_4 (lv_at hl 2 rfl) rfl ?_
    refine mg_bipush X 7 8 d_Mo_isNothing_5 mg_cb_8 rfl ?_
    refine mg_icmp_ge X 34 10 (by omega) (by omega) d_Mo_isNothing_7 (by decide) rfl (fun hb => ?_) (fun hb => ?_)
    · -- pc 7 t
      refine mg_iload_n X 35 d_Mo_isNothing_34 (lv_at hl 1 rfl) rfl ?_
      exact mg_iret X hr hlk (mg_nz (by omega)) (()) (by rw [hx, show k = 8 by omega, ← hR.2 0 (by omega)]) hw d_Mo_isNothing_35
    · -- pc 7 f
      refine mg_iload_n X 11 d_Mo_isNothing_10 (lv_at hl 1 rfl) rfl ?_
      refine mg_if_eq X 26 14 (by omega) d_Mo_isNothing_11 (by decide) rfl (fun hx0 => ?_) (fun hx0 => ?_)
      · -- pc 11 t
        refine mg_iconst X 27 0 d_Mo_isNothing_26 mg_ci_0 rfl ?_
        refine mg_istore_n X 28 [(1, .int (nI (0))), (0, .ref (qa)), (2, .int (nI (k)))] d_Mo_isNothing_27 hl (by decide) rfl rfl (fun ls hl => ?_)
        refine mg_iinc X 31 [(2, .int (nI (k + 1))), (1, .int (nI (0))), (0, .ref (qa))] (k + 1) d_Mo_isNothing_28 hl (k := 2) rfl (mg_inc1 _) (by decide) rfl rfl (fun ls hl => ?_)
        refine mg_goto X 4 d_Mo_isNothing_31 (by decide) ?_
        have hl : lv_has ls 3 [(0, .ref (qa)), (1, .int (nI (0))), (2, .int (nI (k + 1)))] := lv_sub hl [2, 1, 0] rfl
        exact ih4 _ (by omega) (k + 1) 0 rfl ((ft_c0 (fun q => absurd (hx.trans (ft_c1 (li_z.mp q).1)) (by omega))).symm) (by omega) ls _ _ hl hw
      · -- pc 11 f
        refine mg_aload_n X 15 d_Mo_isNothing_14 (lv_at hl 0 rfl) rfl ?_
        refine mg_iload_n X 16 d_Mo_isNothing_15 (lv_at hl 2 rfl) rfl ?_
        refine mg_lald X hK hw 17 0 rfl (by omega) (by omega) d_Mo_isNothing_16 rfl ?_
        refine mg_lconst X 18 0 d_Mo_isNothing_17 rfl rfl ?_
        refine mg_lcmp_ne X 26 22 (by have := hR.1 k (by omega); omega) (by omega) d_Mo_isNothing_18 d_Mo_isNothing_19 (by decide) rfl (fun hz => ?_) (fun hz => ?_)
        · -- pc 18 t
          refine mg_iconst X 27 0 d_Mo_isNothing_26 mg_ci_0 rfl ?_
          refine mg_istore_n X 28 [(1, .int (nI (0))), (0, .ref (qa)), (2, .int (nI (k)))] d_Mo_isNothing_27 hl (by decide) rfl rfl (fun ls hl => ?_)
          refine mg_iinc X 31 [(2, .int (nI (k + 1))), (1, .int (nI (0))), (0, .ref (qa))] (k + 1) d_Mo_isNothing_28 hl (k := 2) rfl (mg_inc1 _) (by decide) rfl rfl (fun ls hl => ?_)
          refine mg_goto X 4 d_Mo_isNothing_31 (by decide) ?_
          have hl : lv_has ls 3 [(0, .ref (qa)), (1, .int (nI (0))), (2, .int (nI (k + 1)))] := lv_sub hl [2, 1, 0] rfl
          exact ih4 _ (by omega) (k + 1) 0 rfl ((ft_c0 (fun q => hz (li_z.mp q).2)).symm) (by omega) ls _ _ hl hw
        · -- pc 18 f
          refine mg_iconst X 23 1 d_Mo_isNothing_22 mg_ci_1 rfl ?_
          refine mg_goto X 27 d_Mo_isNothing_23 (by decide) ?_
          refine mg_istore_n X 28 [(1, .int (nI (1))), (0, .ref (qa)), (2, .int (nI (k)))] d_Mo_isNothing_27 hl (by decide) rfl rfl (fun ls hl => ?_)
          refine mg_iinc X 31 [(2, .int (nI (k + 1))), (1, .int (nI (1))), (0, .ref (qa))] (k + 1) d_Mo_isNothing_28 hl (k := 2) rfl (mg_inc1 _) (by decide) rfl rfl (fun ls hl => ?_)
          refine mg_goto X 4 d_Mo_isNothing_31 (by decide) ?_
          have hl : lv_has ls 3 [(0, .ref (qa)), (1, .int (nI (1))), (2, .int (nI (k + 1)))] := lv_sub hl [2, 1, 0] rfl
          exact ih4 _ (by omega) (k + 1) 1 rfl ((ft_c1 (li_z.mpr ⟨Classical.not_not.mp (fun q => hx0 (hx.trans (ft_c0 q))), hz⟩)).symm) (by omega) ls _ _ hl hw
  have hl : lv_has ls 3 [(0, .ref (qa)), (1, .int (nI (1))), (2, .int (nI (0)))] := lv_sub hl [2, 1, 0] rfl
  exact L4 _ 0 1 rfl ((ft_c1 rfl).symm) (by omega) ls _ _ hl hw

set_option maxRecDepth 100000 in
set_option maxHeartbeats 4000000 in
theorem k_Mo_multiply (l : Launch) (D : va_G) (K : Nat → ClassId) (mh : Nat) (qor : Nat) (qfa : Nat) (qmo : Nat) (qwt : Nat) (qrt : Nat) (qnw : Nat) (qsn : Nat) (qlt : Nat) (qkn : Nat) (qft : Nat) (qbf : Nat) (qbh : Nat) (qjt : Nat) (qot : Nat) (qsm : Nat) (qpt : Nat) (qpr : Nat) (qch : Nat) (qbt : Nat) (qpg : Nat) (flt : Nat) (np : Nat) (nf : Nat) (nc : Nat) (nm : Nat) (wr : Nat) (qa : Nat) (qb : Nat) (N : Nat) (N2 : Nat) (a : Nat) (f : Nat) (i : Nat) (j : Nat) (dQ : Nat → Nat) (VQ : Nat → Nat) (d : Nat → Nat) (V : Nat → Nat) (d2 : Nat → Nat) (V2 : Nat → Nat) (hRQ : li_R 17 dQ VQ) (hR : li_R N d V) (hR2 : li_R N2 d2 V2) (hN : N ≤ 2048) (hN2 : N2 ≤ 2048) (ha : a = 8 * i) (hf : f = 8 * j) (hi : 8 * i + 8 ≤ N) (hj : 8 * j + 8 ≤ N2) (hl0 : V i * V2 j < 268435456 ^ 8) : mg_Mv l D K y_Mo_multiply b_Mo_multiply 9 ({ frames := 0, cells := 0, slots := 0, locals := 0 }) [.ref (mh), .ref (qa), .int (nI (a)), .ref (qb), .int (nI (f))] [mg_ob mh 6 [.int (nI (flt)), .int (nI (np)), .int (nI (nf)), .int (nI (nc)), .ref (qor), .ref (qfa), .ref (qmo), .int (nI (nm)), .ref (qwt), .ref (qrt), .ref (qnw), .ref (qsn), .ref (qlt), .ref (qkn), .ref (qft), .ref (qbf), .ref (qbh), .ref (qjt), .ref (qot), .ref (qsm), .ref (qpt), .ref (qpr), .ref (qch), .ref (qbt), .int (nI (wr)), .ref (qpg)], mg_al K qpr 17 dQ, mg_al K qa N d, mg_al K qb N2 d2] (fun (u : (Nat → Nat)) => li_R 17 u (fun k => if k = 0 then V i * V2 j else nb_val 268435456 u (8 * k) 8)) (fun (u : (Nat → Nat)) => [mg_ob mh 6 [.int (nI (flt)), .int (nI (np)), .int (nI (nf)), .int (nI (nc)), .ref (qor), .ref (qfa), .ref (qmo), .int (nI (nm)), .ref (qwt), .ref (qrt), .ref (qnw), .ref (qsn), .ref (qlt), .ref (qkn), .ref (qft), .ref (qbf), .ref (qbh), .ref (qjt), .ref (qot), .ref (qsm), .ref (qpt), .ref (qpr), .ref (qch), .ref (qbt), .int (nI (wr)), .ref (qpg)], mg_al K qpr 17 u, mg_al K qa N d, mg_al K qb N2 d2]) := by
  intro sz
  refine mg_entry (Qc := fun A => va_Qv (fun (u : (Nat → Nat)) => li_R 17 u (fun k => if k = 0 then V i * V2 j else nb_val 268435456 u (8 * k) 8)) (mg_B D A (fun (u : (Nat → Nat)) => [mg_ob mh 6 [.int (nI (flt)), .int (nI (np)), .int (nI (nf)), .int (nI (nc)), .ref (qor), .ref (qfa), .ref (qmo), .int (nI (nm)), .ref (qwt), .ref (qrt), .ref (qnw), .ref (qsn), .ref (qlt), .ref (qkn), .ref (qft), .ref (qbf), .ref (qbh), .ref (qjt), .ref (qot), .ref (qsm), .ref (qpt), .ref (qpr), .ref (qch), .ref (qbt), .int (nI (wr)), .ref (qpg)], mg_al K qpr 17 u, mg_al K qa N d, mg_al K qb N2 d2])) A) (by decide) (Nat.le_of_ble_eq_true rfl) ?_
  intro p e s m args below meth c A ls X hr hlk hnm hA hK hw hl
  have hl : lv_has ls 9 [(0, .ref (mh)), (1, .ref (qa)), (2, .int (nI (a))), (3, .ref (qb)), (4, .int (nI (f)))] := hl
  refine mg_iconst X 1 0 d_Mo_multiply_0 mg_ci_0 rfl ?_
  refine mg_istore X 3 [(5, .int (nI (0))), (0, .ref (mh)), (1, .ref (qa)), (2, .int (nI (a))), (3, .ref (qb)), (4, .int (nI (f)))] d_Mo_multiply_1 hl (by decide) rfl rfl (fun ls hl => ?_)
  have L3 : ∀ (n0 : Nat) (k : Nat) (u : Nat → Nat), n0 = 17 - k → (∀ q, q < k → u q = 0) → (k ≤ 17) → ∀ (ls : Array Slot) (H : Heap) (locs : List Loc), lv_has ls 9 [(0, .ref (mh)), (1, .ref (qa)), (2, .int (nI (a))), (3, .ref (qb)), (4, .int (nI (f))), (5, .int (nI (k)))] → mg_H D A s.heap H locs [mg_ob mh 6 [.int (nI (flt)), .int (nI (np)), .int (nI (nf)), .int (nI (nc)), .ref (qor), .ref (qfa), .ref (qmo), .int (nI (nm)), .ref (qwt), .ref (qrt), .ref (qnw), .ref (qsn), .ref (qlt), .ref (qkn), .ref (qft), .ref (qbf), .ref (qbh), .ref (qjt), .ref (qot), .ref (qsm), .ref (qpt), .ref (qpr), .ref (qch), .ref (qbt), .int (nI (wr)), .ref (qpg)], mg_al K qpr 17 u, mg_al K qa N d, mg_al K qb N2 d2] → W p l e ({ frames := 0, cells := 0, slots := 0, locals := 0 }) s m args below meth c H locs 0 0 (MQ below (va_Qv (fun (u : (Nat → Nat)) => li_R 17 u (fun k => if k = 0 then V i * V2 j else nb_val 268435456 u (8 * k) 8)) (mg_B D A (fun (u : (Nat → Nat)) => [mg_ob mh 6 [.int (nI (flt)), .int (nI (np)), .int (nI (nf)), .int (nI (nc)), .ref (qor), .ref (qfa), .ref (qmo), .int (nI (nm)), .ref (qwt), .ref (qrt), .ref (qnw), .ref (qsn), .ref (qlt), .ref (qkn), .ref (qft), .ref (qbf), .ref (qbh), .ref (qjt), .ref (qot), .ref (qsm), .ref (qpt), .ref (qpr), .ref (qch), .ref (qbt), .int (nI (wr)), .ref (qpg)], mg_al K qpr 17 u, mg_al K qa N d, mg_al K qb N2 d2])) A) args s 0 0 A) (F0 m 3 ls []) := by
    intro n0
    induction n0 using Nat.strongRecOn with
    | ind n0 ih3 =>
    intro k u hm3 hz hk ls H locs hl hw
    refine mg_iload X 5 d_Mo_multiply_3 (lv_at hl 5 rfl) rfl ?_
    refine mg_bipush X 7 17 d_Mo_multiply_5 mg_cb_17 rfl ?_
    refine mg_icmp_ge X 24 10 (by omega) (by omega) d_Mo_multiply_7 (by decide) rfl (fun hb => ?_) (fun hb => ?_)
    · -- pc 7 t
      refine mg_iconst X 25 0 d_Mo_multiply_24 mg_ci_0 rfl ?_
      refine mg_istore X 27 [(5, .int (nI (0))), (0, .ref (mh)), (1, .ref (qa)), (2, .int (nI (a))), (3, .ref (qb)), (4, .int (nI (f)))] d_Mo_multiply_25 hl (by decide) rfl rfl (fun ls hl => ?_)
      have L27 : ∀ (n0 : Nat) (i1 : Nat) (u1 : Nat → Nat), n0 = 8 - i1 → (li_prO i1 a f u1 d d2) → (i1 ≤ 8) → ∀ (ls : Array Slot) (H : Heap) (locs : List Loc), lv_has ls 9 [(0, .ref (mh)), (1, .ref (qa)), (2, .int (nI (a))), (3, .ref (qb)), (4, .int (nI (f))), (5, .int (nI (i1)))] → mg_H D A s.heap H locs [mg_ob mh 6 [.int (nI (flt)), .int (nI (np)), .int (nI (nf)), .int (nI (nc)), .ref (qor), .ref (qfa), .ref (qmo), .int (nI (nm)), .ref (qwt), .ref (qrt), .ref (qnw), .ref (qsn), .ref (qlt), .ref (qkn), .ref (qft), .ref (qbf), .ref (qbh), .ref (qjt), .ref (qot), .ref (qsm), .ref (qpt), .ref (qpr), .ref (qch), .ref (qbt), .int (nI (wr)), .ref (qpg)], mg_al K qpr 17 u1, mg_al K qa N d, mg_al K qb N2 d2] → W p l e ({ frames := 0, cells := 0, slots := 0, locals := 0 }) s m args below meth c H locs 0 0 (MQ below (va_Qv (fun (u : (Nat → Nat)) => li_R 17 u (fun k => if k = 0 then V i * V2 j else nb_val 268435456 u (8 * k) 8)) (mg_B D A (fun (u : (Nat → Nat)) => [mg_ob mh 6 [.int (nI (flt)), .int (nI (np)), .int (nI (nf)), .int (nI (nc)), .ref (qor), .ref (qfa), .ref (qmo), .int (nI (nm)), .ref (qwt), .ref (qrt), .ref (qnw), .ref (qsn), .ref (qlt), .ref (qkn), .ref (qft), .ref (qbf), .ref (qbh), .ref (qjt), .ref (qot), .ref (qsm), .ref (qpt), .ref (qpr), .ref (qch), .ref (qbt), .int (nI (wr)), .ref (qpg)], mg_al K qpr 17 u, mg_al K qa N d, mg_al K qb N2 d2])) A) args s 0 0 A) (F0 m 27 ls []) := by
        intro n0
        induction n0 using Nat.strongRecOn with
        | ind n0 ih27 =>
        intro i1 u1 hm27 hO hi1 ls H locs hl hw
        refine mg_iload X 29 d_Mo_multiply_27 (lv_at hl 5 rfl) rfl ?_
        refine mg_bipush X 31 8 d_Mo_multiply_29 mg_cb_8 rfl ?_
        refine mg_icmp_ge X 125 34 (by omega) (by omega) d_Mo_multiply_31 (by decide) rfl (fun hb1 => ?_) (fun hb1 => ?_)
        · -- pc 31 t
          exact mg_vret X hr hlk (u1) (by obtain rfl : i1 = 8 := (by omega); exact li_prF hO hR hR2 ha hf hi hj hl0) hw d_Mo_multiply_125
        · -- pc 31 f
          refine mg_lconst X 35 0 d_Mo_multiply_34 rfl rfl ?_
          refine mg_lstore X 37 [(6, .long (lN (0))), (0, .ref (mh)), (1, .ref (qa)), (2, .int (nI (a))), (3, .ref (qb)), (4, .int (nI (f))), (5, .int (nI (i1)))] d_Mo_multiply_35 hl (by decide) rfl rfl (fun ls hl => ?_)
          refine mg_iconst X 38 0 d_Mo_multiply_37 mg_ci_0 rfl ?_
          refine mg_istore X 40 [(8, .int (nI (0))), (6, .long (lN (0))), (0, .ref (mh)), (1, .ref (qa)), (2, .int (nI (a))), (3, .ref (qb)), (4, .int (nI (f))), (5, .int (nI (i1)))] d_Mo_multiply_38 hl (by decide) rfl rfl (fun ls hl => ?_)
          have L40 : ∀ (n0 : Nat) (j1 : Nat) (cy : Nat) (u2 : Nat → Nat), n0 = 8 - j1 → (li_prI i1 j1 cy a f u1 u2 d d2) → (j1 ≤ 8) → ∀ (ls : Array Slot) (H : Heap) (locs : List Loc), lv_has ls 9 [(0, .ref (mh)), (1, .ref (qa)), (2, .int (nI (a))), (3, .ref (qb)), (4, .int (nI (f))), (5, .int (nI (i1))), (6, .long (lN (cy))), (8, .int (nI (j1)))] → mg_H D A s.heap H locs [mg_ob mh 6 [.int (nI (flt)), .int (nI (np)), .int (nI (nf)), .int (nI (nc)), .ref (qor), .ref (qfa), .ref (qmo), .int (nI (nm)), .ref (qwt), .ref (qrt), .ref (qnw), .ref (qsn), .ref (qlt), .ref (qkn), .ref (qft), .ref (qbf), .ref (qbh), .ref (qjt), .ref (qot), .ref (qsm), .ref (qpt), .ref (qpr), .ref (qch), .ref (qbt), .int (nI (wr)), .ref (qpg)], mg_al K qpr 17 u2, mg_al K qa N d, mg_al K qb N2 d2] → W p l e ({ frames := 0, cells := 0, slots := 0, locals := 0 }) s m args below meth c H locs 0 0 (MQ below (va_Qv (fun (u : (Nat → Nat)) => li_R 17 u (fun k => if k = 0 then V i * V2 j else nb_val 268435456 u (8 * k) 8)) (mg_B D A (fun (u : (Nat → Nat)) => [mg_ob mh 6 [.int (nI (flt)), .int (nI (np)), .int (nI (nf)), .int (nI (nc)), .ref (qor), .ref (qfa), .ref (qmo), .int (nI (nm)), .ref (qwt), .ref (qrt), .ref (qnw), .ref (qsn), .ref (qlt), .ref (qkn), .ref (qft), .ref (qbf), .ref (qbh), .ref (qjt), .ref (qot), .ref (qsm), .ref (qpt), .ref (qpr), .ref (qch), .ref (qbt), .int (nI (wr)), .ref (qpg)], mg_al K qpr 17 u, mg_al K qa N d, mg_al K qb N2 d2])) A) args s 0 0 A) (F0 m 40 ls []) := by
            intro n0
            induction n0 using Nat.strongRecOn with
            | ind n0 ih40 =>
            intro j1 cy u2 hm40 hI hj1 ls H locs hl hw
            refine mg_iload X 42 d_Mo_multiply_40 (lv_at hl 7 rfl) rfl ?_
            refine mg_bipush X 44 8 d_Mo_multiply_42 mg_cb_8 rfl ?_
            refine mg_icmp_ge X 107 47 (by omega) (by omega) d_Mo_multiply_44 (by decide) rfl (fun hb2 => ?_) (fun hb2 => ?_)
            · -- pc 44 t
              refine mg_aload_n X 108 d_Mo_multiply_107 (lv_at hl 0 rfl) rfl ?_
              refine mg_get X hK hw 111 0 21 f_Mo_60 rfl rfl d_Mo_multiply_108 rfl ?_
              refine mg_iload X 113 d_Mo_multiply_111 (lv_at hl 5 rfl) rfl ?_
              refine mg_bipush X 115 8 d_Mo_multiply_113 mg_cb_8 rfl ?_
              refine mg_iadd X 116 (nI (i1 + 8)) d_Mo_multiply_115 (nI_add _ _) rfl ?_
              refine mg_lload X 118 d_Mo_multiply_116 (lv_at hl 6 rfl) rfl ?_
              refine mg_last X hK hw 119 1 [mg_ob mh 6 [.int (nI (flt)), .int (nI (np)), .int (nI (nf)), .int (nI (nc)), .ref (qor), .ref (qfa), .ref (qmo), .int (nI (nm)), .ref (qwt), .ref (qrt), .ref (qnw), .ref (qsn), .ref (qlt), .ref (qkn), .ref (qft), .ref (qbf), .ref (qbh), .ref (qjt), .ref (qot), .ref (qsm), .ref (qpt), .ref (qpr), .ref (qch), .ref (qbt), .int (nI (wr)), .ref (qpg)], mg_al K qpr 17 (va_up u2 (i1 + 8) cy), mg_al K qa N d, mg_al K qb N2 d2] rfl (by omega) (by omega) d_Mo_multiply_118 rfl rfl (fun H locs hw => ?_)
              refine mg_iinc X 122 [(5, .int (nI (i1 + 1))), (0, .ref (mh)), (1, .ref (qa)), (2, .int (nI (a))), (3, .ref (qb)), (4, .int (nI (f))), (6, .long (lN (cy))), (8, .int (nI (j1)))] (i1 + 1) d_Mo_multiply_119 hl (k := 5) rfl (mg_inc1 _) (by decide) rfl rfl (fun ls hl => ?_)
              refine mg_goto X 27 d_Mo_multiply_122 (by decide) ?_
              have hl : lv_has ls 9 [(0, .ref (mh)), (1, .ref (qa)), (2, .int (nI (a))), (3, .ref (qb)), (4, .int (nI (f))), (5, .int (nI (i1 + 1)))] := lv_sub hl [1, 2, 3, 4, 5, 0] rfl
              exact ih27 _ (by omega) (i1 + 1) (va_up u2 (i1 + 8) cy) rfl (li_prOS hO (by obtain rfl : j1 = 8 := (by omega); exact hI)) (by omega) ls _ _ hl hw
            · -- pc 44 f
              refine mg_lload X 49 d_Mo_multiply_47 (lv_at hl 6 rfl) rfl ?_
              refine mg_aload_n X 50 d_Mo_multiply_49 (lv_at hl 0 rfl) rfl ?_
              refine mg_get X hK hw 53 0 21 f_Mo_60 rfl rfl d_Mo_multiply_50 rfl ?_
              refine mg_iload X 55 d_Mo_multiply_53 (lv_at hl 5 rfl) rfl ?_
              refine mg_iload X 57 d_Mo_multiply_55 (lv_at hl 7 rfl) rfl ?_
              refine mg_iadd X 58 (nI (i1 + j1)) d_Mo_multiply_57 (nI_add _ _) rfl ?_
              refine mg_lald X hK hw 59 1 rfl (by omega) (by omega) d_Mo_multiply_58 rfl ?_
              refine mg_ladd X 60 (lN (cy + (u2 (i1 + j1)))) d_Mo_multiply_59 (lN_add _ _) rfl ?_
              refine mg_aload_n X 61 d_Mo_multiply_60 (lv_at hl 1 rfl) rfl ?_
              refine mg_iload_n X 62 d_Mo_multiply_61 (lv_at hl 2 rfl) rfl ?_
              refine mg_iload X 64 d_Mo_multiply_62 (lv_at hl 5 rfl) rfl ?_
              refine mg_iadd X 65 (nI (a + i1)) d_Mo_multiply_64 (nI_add _ _) rfl ?_
              refine mg_lald X hK hw 66 2 rfl (by omega) (by omega) d_Mo_multiply_65 rfl ?_
              refine mg_aload_n X 67 d_Mo_multiply_66 (lv_at hl 3 rfl) rfl ?_
              refine mg_iload X 69 d_Mo_multiply_67 (lv_at hl 4 rfl) rfl ?_
              refine mg_iload X 71 d_Mo_multiply_69 (lv_at hl 7 rfl) rfl ?_
              refine mg_iadd X 72 (nI (f + j1)) d_Mo_multiply_71 (nI_add _ _) rfl ?_
              refine mg_lald X hK hw 73 3 rfl (by omega) (by omega) d_Mo_multiply_72 rfl ?_
              refine mg_lmul X 74 (lN ((d (a + i1)) * (d2 (f + j1)))) d_Mo_multiply_73 (lN_mul _ _) rfl ?_
              refine mg_ladd X 75 (lN ((cy + (u2 (i1 + j1))) + ((d (a + i1)) * (d2 (f + j1))))) d_Mo_multiply_74 (lN_add _ _) rfl ?_
              refine mg_lstore X 77 [(6, .long (lN ((cy + (u2 (i1 + j1))) + ((d (a + i1)) * (d2 (f + j1)))))), (0, .ref (mh)), (1, .ref (qa)), (2, .int (nI (a))), (3, .ref (qb)), (4, .int (nI (f))), (5, .int (nI (i1))), (8, .int (nI (j1)))] d_Mo_multiply_75 hl (by decide) rfl rfl (fun ls hl => ?_)
              refine mg_aload_n X 78 d_Mo_multiply_77 (lv_at hl 1 rfl) rfl ?_
              refine mg_get X hK hw 81 0 21 f_Mo_60 rfl rfl d_Mo_multiply_78 rfl ?_
              refine mg_iload X 83 d_Mo_multiply_81 (lv_at hl 6 rfl) rfl ?_
              refine mg_iload X 85 d_Mo_multiply_83 (lv_at hl 7 rfl) rfl ?_
              refine mg_iadd X 86 (nI (i1 + j1)) d_Mo_multiply_85 (nI_add _ _) rfl ?_
              refine mg_lload X 88 d_Mo_multiply_86 (lv_at hl 0 rfl) rfl ?_
              refine mg_ldc2 X 91 268435456 d_Mo_multiply_88 cw_Mo_137 rfl rfl ?_
              refine mg_lrem X 92 d_Mo_multiply_91 (by have h9 := li_pr_mul (hR.1 (a + i1) (by omega)) (hR2.1 (f + j1) (by omega)) hI.2.2.2 (hI.1 (i1 + j1) (by omega)); omega) (by omega) (by omega) rfl ?_
              refine mg_last X hK hw 93 1 [mg_ob mh 6 [.int (nI (flt)), .int (nI (np)), .int (nI (nf)), .int (nI (nc)), .ref (qor), .ref (qfa), .ref (qmo), .int (nI (nm)), .ref (qwt), .ref (qrt), .ref (qnw), .ref (qsn), .ref (qlt), .ref (qkn), .ref (qft), .ref (qbf), .ref (qbh), .ref (qjt), .ref (qot), .ref (qsm), .ref (qpt), .ref (qpr), .ref (qch), .ref (qbt), .int (nI (wr)), .ref (qpg)], mg_al K qpr 17 (va_up u2 (i1 + j1) (((cy + (u2 (i1 + j1))) + ((d (a + i1)) * (d2 (f + j1)))) % 268435456)), mg_al K qa N d, mg_al K qb N2 d2] rfl (by omega) (by omega) d_Mo_multiply_92 rfl rfl (fun H locs hw => ?_)
              refine mg_lload X 95 d_Mo_multiply_93 (lv_at hl 0 rfl) rfl ?_
              refine mg_ldc2 X 98 268435456 d_Mo_multiply_95 cw_Mo_137 rfl rfl ?_
              refine mg_ldiv X 99 d_Mo_multiply_98 (by have h9 := li_pr_mul (hR.1 (a + i1) (by omega)) (hR2.1 (f + j1) (by omega)) hI.2.2.2 (hI.1 (i1 + j1) (by omega)); omega) (by omega) (by omega) rfl ?_
              refine mg_lstore X 101 [(6, .long (lN (((cy + (u2 (i1 + j1))) + ((d (a + i1)) * (d2 (f + j1)))) / 268435456))), (0, .ref (mh)), (1, .ref (qa)), (2, .int (nI (a))), (3, .ref (qb)), (4, .int (nI (f))), (5, .int (nI (i1))), (8, .int (nI (j1)))] d_Mo_multiply_99 hl (by decide) rfl rfl (fun ls hl => ?_)
              refine mg_iinc X 104 [(8, .int (nI (j1 + 1))), (6, .long (lN (((cy + (u2 (i1 + j1))) + ((d (a + i1)) * (d2 (f + j1)))) / 268435456))), (0, .ref (mh)), (1, .ref (qa)), (2, .int (nI (a))), (3, .ref (qb)), (4, .int (nI (f))), (5, .int (nI (i1)))] (j1 + 1) d_Mo_multiply_101 hl (k := 7) rfl (mg_inc1 _) (by decide) rfl rfl (fun ls hl => ?_)
              refine mg_goto X 40 d_Mo_multiply_104 (by decide) ?_
              have hl : lv_has ls 9 [(0, .ref (mh)), (1, .ref (qa)), (2, .int (nI (a))), (3, .ref (qb)), (4, .int (nI (f))), (5, .int (nI (i1))), (6, .long (lN (((cy + (u2 (i1 + j1))) + ((d (a + i1)) * (d2 (f + j1)))) / 268435456))), (8, .int (nI (j1 + 1)))] := lv_sub hl [2, 3, 4, 5, 6, 7, 1, 0] rfl
              exact ih40 _ (by omega) (j1 + 1) (((cy + (u2 (i1 + j1))) + ((d (a + i1)) * (d2 (f + j1)))) / 268435456) (va_up u2 (i1 + j1) (((cy + (u2 (i1 + j1))) + ((d (a + i1)) * (d2 (f + j1)))) % 268435456)) rfl (li_prIS hI hR.1 hR2.1 (by omega) (by omega) (by omega) (by omega)) (by omega) ls _ _ hl hw
          have hl : lv_has ls 9 [(0, .ref (mh)), (1, .ref (qa)), (2, .int (nI (a))), (3, .ref (qb)), (4, .int (nI (f))), (5, .int (nI (i1))), (6, .long (lN (0))), (8, .int (nI (0)))] := lv_sub hl [2, 3, 4, 5, 6, 7, 1, 0] rfl
          exact L40 _ 0 0 u1 rfl (li_prI0 hO.1) (by omega) ls _ _ hl hw
      have hl : lv_has ls 9 [(0, .ref (mh)), (1, .ref (qa)), (2, .int (nI (a))), (3, .ref (qb)), (4, .int (nI (f))), (5, .int (nI (0)))] := lv_sub hl [1, 2, 3, 4, 5, 0] rfl
      exact L27 _ 0 u rfl (li_pr0 (fun q hq => hz q (by omega))) (by omega) ls _ _ hl hw
    · -- pc 7 f
      refine mg_aload_n X 11 d_Mo_multiply_10 (lv_at hl 0 rfl) rfl ?_
      refine mg_get X hK hw 14 0 21 f_Mo_60 rfl rfl d_Mo_multiply_11 rfl ?_
      refine mg_iload X 16 d_Mo_multiply_14 (lv_at hl 5 rfl) rfl ?_
      refine mg_lconst X 17 0 d_Mo_multiply_16 rfl rfl ?_
      refine mg_last X hK hw 18 1 [mg_ob mh 6 [.int (nI (flt)), .int (nI (np)), .int (nI (nf)), .int (nI (nc)), .ref (qor), .ref (qfa), .ref (qmo), .int (nI (nm)), .ref (qwt), .ref (qrt), .ref (qnw), .ref (qsn), .ref (qlt), .ref (qkn), .ref (qft), .ref (qbf), .ref (qbh), .ref (qjt), .ref (qot), .ref (qsm), .ref (qpt), .ref (qpr), .ref (qch), .ref (qbt), .int (nI (wr)), .ref (qpg)], mg_al K qpr 17 (va_up u k 0), mg_al K qa N d, mg_al K qb N2 d2] rfl (by omega) (by omega) d_Mo_multiply_17 rfl rfl (fun H locs hw => ?_)
      refine mg_iinc X 21 [(5, .int (nI (k + 1))), (0, .ref (mh)), (1, .ref (qa)), (2, .int (nI (a))), (3, .ref (qb)), (4, .int (nI (f)))] (k + 1) d_Mo_multiply_18 hl (k := 5) rfl (mg_inc1 _) (by decide) rfl rfl (fun ls hl => ?_)
      refine mg_goto X 3 d_Mo_multiply_21 (by decide) ?_
      have hl : lv_has ls 9 [(0, .ref (mh)), (1, .ref (qa)), (2, .int (nI (a))), (3, .ref (qb)), (4, .int (nI (f))), (5, .int (nI (k + 1)))] := lv_sub hl [1, 2, 3, 4, 5, 0] rfl
      exact ih3 _ (by omega) (k + 1) (va_up u k 0) rfl (fun q hq => by by_cases h9 : q = k; rw [h9, va_up_self]; rw [va_up_ne _ _ h9]; exact hz q (by omega)) (by omega) ls _ _ hl hw
  have hl : lv_has ls 9 [(0, .ref (mh)), (1, .ref (qa)), (2, .int (nI (a))), (3, .ref (qb)), (4, .int (nI (f))), (5, .int (nI (0)))] := lv_sub hl [1, 2, 3, 4, 5, 0] rfl
  exact L3 _ 0 dQ rfl (fun q hq => by omega) (by omega) ls _ _ hl hw

set_option maxRecDepth 100000 in
set_option maxHeartbeats 4000000 in
theorem k_Mo_bitsOf (l : Launch) (D : va_G) (K : Nat → ClassId) (w : Nat) (hw1 : w < 64) : mg_Mi l D K y_Mo_bitsOf b_Mo_bitsOf 3 (.int) ({ frames := 0, cells := 0, slots := 0, locals := 0 }) [.int (nI (w))] [] (fun (r : Int32) (_ : Unit) => r = nI (li_bc 6 w)) (fun (_ : Unit) => []) := by
  intro sz
  refine mg_entry (Qc := fun A => va_Qi (fun (r : Int32) (_ : Unit) => r = nI (li_bc 6 w)) (mg_B D A (fun (_ : Unit) => [])) A) (by decide) (Nat.le_of_ble_eq_true rfl) ?_
  intro p e s m args below meth c A ls X hr hlk hnm hA hK hw hl
  have hl : lv_has ls 3 [(0, .int (nI (w)))] := hl
  refine mg_iconst X 1 0 d_Mo_bitsOf_0 mg_ci_0 rfl ?_
  refine mg_istore_n X 2 [(1, .int (nI (0))), (0, .int (nI (w)))] d_Mo_bitsOf_1 hl (by decide) rfl rfl (fun ls hl => ?_)
  refine mg_iconst X 3 0 d_Mo_bitsOf_2 mg_ci_0 rfl ?_
  refine mg_istore_n X 4 [(2, .int (nI (0))), (1, .int (nI (0))), (0, .int (nI (w)))] d_Mo_bitsOf_3 hl (by decide) rfl rfl (fun ls hl => ?_)
  have L4 : ∀ (n0 : Nat) (k : Nat) (x : Nat), n0 = 6 - k → (x = li_bc k w) → (k ≤ 6) → ∀ (ls : Array Slot) (H : Heap) (locs : List Loc), lv_has ls 3 [(0, .int (nI (w))), (1, .int (nI (x))), (2, .int (nI (k)))] → mg_H D A s.heap H locs [] → W p l e ({ frames := 0, cells := 0, slots := 0, locals := 0 }) s m args below meth c H locs 0 0 (MQ below (va_Qi (fun (r : Int32) (_ : Unit) => r = nI (li_bc 6 w)) (mg_B D A (fun (_ : Unit) => [])) A) args s 0 0 A) (F0 m 4 ls []) := by
    intro n0
    induction n0 using Nat.strongRecOn with
    | ind n0 ih4 =>
    intro k x hm4 hx hk ls H locs hl hw
    refine mg_iload_n X 5 d_Mo_bitsOf_4 (lv_at hl 2 rfl) rfl ?_
    refine mg_bipush X 7 6 d_Mo_bitsOf_5 mg_cb_6 rfl ?_
    refine mg_icmp_ge X 24 10 (by omega) (by omega) d_Mo_bitsOf_7 (by decide) rfl (fun hb => ?_) (fun hb => ?_)
    · -- pc 7 t
      refine mg_iload_n X 25 d_Mo_bitsOf_24 (lv_at hl 1 rfl) rfl ?_
      exact mg_iret X hr hlk (rfl) (()) (by rw [hx, show k = 6 by omega]) hw d_Mo_bitsOf_25
    · -- pc 7 f
      refine mg_iload_n X 11 d_Mo_bitsOf_10 (lv_at hl 1 rfl) rfl ?_
      refine mg_iload_n X 12 d_Mo_bitsOf_11 (lv_at hl 0 rfl) rfl ?_
      refine mg_iload_n X 13 d_Mo_bitsOf_12 (lv_at hl 2 rfl) rfl ?_
      refine mg_ishr X 14 ((nI (w / 2 ^ k))) d_Mo_bitsOf_13 (mg_shr (by omega) (by omega)) rfl ?_
      refine mg_iconst X 15 1 d_Mo_bitsOf_14 mg_ci_1 rfl ?_
      refine mg_iand X 16 ((nI ((w / 2 ^ k) % 2))) d_Mo_bitsOf_15 (mg_and1 (Nat.lt_of_le_of_lt (Nat.div_le_self _ _) (by omega))) rfl ?_
      refine mg_iadd X 17 (nI (x + ((w / 2 ^ k) % 2))) d_Mo_bitsOf_16 (nI_add _ _) rfl ?_
      refine mg_istore_n X 18 [(1, .int (nI (x + ((w / 2 ^ k) % 2)))), (0, .int (nI (w))), (2, .int (nI (k)))] d_Mo_bitsOf_17 hl (by decide) rfl rfl (fun ls hl => ?_)
      refine mg_iinc X 21 [(2, .int (nI (k + 1))), (1, .int (nI (x + ((w / 2 ^ k) % 2)))), (0, .int (nI (w)))] (k + 1) d_Mo_bitsOf_18 hl (k := 2) rfl (mg_inc1 _) (by decide) rfl rfl (fun ls hl => ?_)
      refine mg_goto X 4 d_Mo_bitsOf_21 (by decide) ?_
      have hl : lv_has ls 3 [(0, .int (nI (w))), (1, .int (nI (x + ((w / 2 ^ k) % 2)))), (2, .int (nI (k + 1)))] := lv_sub hl [2, 1, 0] rfl
      exact ih4 _ (by omega) (k + 1) (x + ((w / 2 ^ k) % 2)) rfl (by rw [hx]; rfl) (by omega) ls _ _ hl hw
  have hl : lv_has ls 3 [(0, .int (nI (w))), (1, .int (nI (0))), (2, .int (nI (0)))] := lv_sub hl [2, 1, 0] rfl
  exact L4 _ 0 0 rfl (rfl) (by omega) ls _ _ hl hw

set_option maxRecDepth 100000 in
set_option maxHeartbeats 4000000 in
theorem k_Mo_reckonChanges (l : Launch) (D : va_G) (K : Nat → ClassId) (mh : Nat) (qor : Nat) (qfa : Nat) (qmo : Nat) (qwt : Nat) (qrt : Nat) (qnw : Nat) (qsn : Nat) (qlt : Nat) (qkn : Nat) (qft : Nat) (qbf : Nat) (qbh : Nat) (qjt : Nat) (qot : Nat) (qsm : Nat) (qpt : Nat) (qpr : Nat) (qch : Nat) (qbt : Nat) (qpg : Nat) (flt : Nat) (np : Nat) (nf : Nat) (nc : Nat) (nm : Nat) (wr : Nat) (nw : Nat → Nat) (ch : Nat → Nat) (g : Nat) (hnc : nc ≤ 3) (hg : g < 4) (hr16 : nw g ≤ 16) : mg_Mv l D K y_Mo_reckonChanges b_Mo_reckonChanges 4 ({ frames := 0, cells := 0, slots := 0, locals := 0 }) [.ref (mh), .int (nI (g))] [mg_ob mh 6 [.int (nI (flt)), .int (nI (np)), .int (nI (nf)), .int (nI (nc)), .ref (qor), .ref (qfa), .ref (qmo), .int (nI (nm)), .ref (qwt), .ref (qrt), .ref (qnw), .ref (qsn), .ref (qlt), .ref (qkn), .ref (qft), .ref (qbf), .ref (qbh), .ref (qjt), .ref (qot), .ref (qsm), .ref (qpt), .ref (qpr), .ref (qch), .ref (qbt), .int (nI (wr)), .ref (qpg)], mg_ai K qnw 4 nw, mg_al K qch 7 ch] (fun (u : (Nat → Nat)) => ∀ d, d ≤ 2 * nc → u d = mo_chg (nw g) (2 * nc) d) (fun (u : (Nat → Nat)) => [mg_ob mh 6 [.int (nI (flt)), .int (nI (np)), .int (nI (nf)), .int (nI (nc)), .ref (qor), .ref (qfa), .ref (qmo), .int (nI (nm)), .ref (qwt), .ref (qrt), .ref (qnw), .ref (qsn), .ref (qlt), .ref (qkn), .ref (qft), .ref (qbf), .ref (qbh), .ref (qjt), .ref (qot), .ref (qsm), .ref (qpt), .ref (qpr), .ref (qch), .ref (qbt), .int (nI (wr)), .ref (qpg)], mg_ai K qnw 4 nw, mg_al K qch 7 u]) := by
  intro sz
  refine mg_entry (Qc := fun A => va_Qv (fun (u : (Nat → Nat)) => ∀ d, d ≤ 2 * nc → u d = mo_chg (nw g) (2 * nc) d) (mg_B D A (fun (u : (Nat → Nat)) => [mg_ob mh 6 [.int (nI (flt)), .int (nI (np)), .int (nI (nf)), .int (nI (nc)), .ref (qor), .ref (qfa), .ref (qmo), .int (nI (nm)), .ref (qwt), .ref (qrt), .ref (qnw), .ref (qsn), .ref (qlt), .ref (qkn), .ref (qft), .ref (qbf), .ref (qbh), .ref (qjt), .ref (qot), .ref (qsm), .ref (qpt), .ref (qpr), .ref (qch), .ref (qbt), .int (nI (wr)), .ref (qpg)], mg_ai K qnw 4 nw, mg_al K qch 7 u])) A) (by decide) (Nat.le_of_ble_eq_true rfl) ?_
  intro p e s m args below meth c A ls X hr hlk hnm hA hK hw hl
  have hl : lv_has ls 4 [(0, .ref (mh)), (1, .int (nI (g)))] := hl
  refine mg_iconst X 1 0 d_Mo_reckonChanges_0 mg_ci_0 rfl ?_
  refine mg_istore_n X 2 [(2, .int (nI (0))), (0, .ref (mh)), (1, .int (nI (g)))] d_Mo_reckonChanges_1 hl (by decide) rfl rfl (fun ls hl => ?_)
  have L2 : ∀ (n0 : Nat) (d : Nat) (u : Nat → Nat), n0 = 2 * nc + 1 - d → (∀ j, j < d → u j = mo_chg (nw g) (2 * nc) j) → (d ≤ 2 * nc + 1) → ∀ (ls : Array Slot) (H : Heap) (locs : List Loc), lv_has ls 4 [(0, .ref (mh)), (1, .int (nI (g))), (2, .int (nI (d)))] → mg_H D A s.heap H locs [mg_ob mh 6 [.int (nI (flt)), .int (nI (np)), .int (nI (nf)), .int (nI (nc)), .ref (qor), .ref (qfa), .ref (qmo), .int (nI (nm)), .ref (qwt), .ref (qrt), .ref (qnw), .ref (qsn), .ref (qlt), .ref (qkn), .ref (qft), .ref (qbf), .ref (qbh), .ref (qjt), .ref (qot), .ref (qsm), .ref (qpt), .ref (qpr), .ref (qch), .ref (qbt), .int (nI (wr)), .ref (qpg)], mg_ai K qnw 4 nw, mg_al K qch 7 u] → W p l e ({ frames := 0, cells := 0, slots := 0, locals := 0 }) s m args below meth c H locs 0 0 (MQ below (va_Qv (fun (u : (Nat → Nat)) => ∀ d, d ≤ 2 * nc → u d = mo_chg (nw g) (2 * nc) d) (mg_B D A (fun (u : (Nat → Nat)) => [mg_ob mh 6 [.int (nI (flt)), .int (nI (np)), .int (nI (nf)), .int (nI (nc)), .ref (qor), .ref (qfa), .ref (qmo), .int (nI (nm)), .ref (qwt), .ref (qrt), .ref (qnw), .ref (qsn), .ref (qlt), .ref (qkn), .ref (qft), .ref (qbf), .ref (qbh), .ref (qjt), .ref (qot), .ref (qsm), .ref (qpt), .ref (qpr), .ref (qch), .ref (qbt), .int (nI (wr)), .ref (qpg)], mg_ai K qnw 4 nw, mg_al K qch 7 u])) A) args s 0 0 A) (F0 m 2 ls []) := by
    intro n0
    induction n0 using Nat.strongRecOn with
    | ind n0 ih2 =>
    intro d u hm2 hI hd ls H locs hl hw
    refine mg_iload_n X 3 d_Mo_reckonChanges_2 (lv_at hl 2 rfl) rfl ?_
    refine mg_iconst X 4 2 d_Mo_reckonChanges_3 mg_ci_2 rfl ?_
    refine mg_aload_n X 5 d_Mo_reckonChanges_4 (lv_at hl 0 rfl) rfl ?_
    refine mg_get X hK hw 8 0 3 f_Mo_86 rfl rfl d_Mo_reckonChanges_5 rfl ?_
    refine mg_imul X 9 (nI (2 * nc)) d_Mo_reckonChanges_8 (pk_mul _ _) rfl ?_
    refine mg_icmp_gt X 80 12 (by omega) (by omega) d_Mo_reckonChanges_9 (by decide) rfl (fun hb => ?_) (fun hb => ?_)
    · -- pc 9 t
      exact mg_vret X hr hlk (u) (fun j hj => hI j (by omega)) hw d_Mo_reckonChanges_80
    · -- pc 9 f
      refine mg_aload_n X 13 d_Mo_reckonChanges_12 (lv_at hl 0 rfl) rfl ?_
      refine mg_get X hK hw 16 0 22 f_Mo_63 rfl rfl d_Mo_reckonChanges_13 rfl ?_
      refine mg_iload_n X 17 d_Mo_reckonChanges_16 (lv_at hl 2 rfl) rfl ?_
      refine mg_lconst X 18 1 d_Mo_reckonChanges_17 rfl rfl ?_
      refine mg_last X hK hw 19 2 [mg_ob mh 6 [.int (nI (flt)), .int (nI (np)), .int (nI (nf)), .int (nI (nc)), .ref (qor), .ref (qfa), .ref (qmo), .int (nI (nm)), .ref (qwt), .ref (qrt), .ref (qnw), .ref (qsn), .ref (qlt), .ref (qkn), .ref (qft), .ref (qbf), .ref (qbh), .ref (qjt), .ref (qot), .ref (qsm), .ref (qpt), .ref (qpr), .ref (qch), .ref (qbt), .int (nI (wr)), .ref (qpg)], mg_ai K qnw 4 nw, mg_al K qch 7 (va_up u d 1)] rfl (by omega) (by omega) d_Mo_reckonChanges_18 rfl rfl (fun H locs hw => ?_)
      refine mg_iconst X 20 0 d_Mo_reckonChanges_19 mg_ci_0 rfl ?_
      refine mg_istore_n X 21 [(3, .int (nI (0))), (0, .ref (mh)), (1, .int (nI (g))), (2, .int (nI (d)))] d_Mo_reckonChanges_20 hl (by decide) rfl rfl (fun ls hl => ?_)
      have L21 : ∀ (n0 : Nat) (k : Nat) (u1 : Nat → Nat), n0 = 2 * nc - k → (∀ j, j < d → u1 j = u j) → (u1 d = mo_ch (nw g) d k) → (k ≤ 2 * nc) → ∀ (ls : Array Slot) (H : Heap) (locs : List Loc), lv_has ls 4 [(0, .ref (mh)), (1, .int (nI (g))), (2, .int (nI (d))), (3, .int (nI (k)))] → mg_H D A s.heap H locs [mg_ob mh 6 [.int (nI (flt)), .int (nI (np)), .int (nI (nf)), .int (nI (nc)), .ref (qor), .ref (qfa), .ref (qmo), .int (nI (nm)), .ref (qwt), .ref (qrt), .ref (qnw), .ref (qsn), .ref (qlt), .ref (qkn), .ref (qft), .ref (qbf), .ref (qbh), .ref (qjt), .ref (qot), .ref (qsm), .ref (qpt), .ref (qpr), .ref (qch), .ref (qbt), .int (nI (wr)), .ref (qpg)], mg_ai K qnw 4 nw, mg_al K qch 7 u1] → W p l e ({ frames := 0, cells := 0, slots := 0, locals := 0 }) s m args below meth c H locs 0 0 (MQ below (va_Qv (fun (u : (Nat → Nat)) => ∀ d, d ≤ 2 * nc → u d = mo_chg (nw g) (2 * nc) d) (mg_B D A (fun (u : (Nat → Nat)) => [mg_ob mh 6 [.int (nI (flt)), .int (nI (np)), .int (nI (nf)), .int (nI (nc)), .ref (qor), .ref (qfa), .ref (qmo), .int (nI (nm)), .ref (qwt), .ref (qrt), .ref (qnw), .ref (qsn), .ref (qlt), .ref (qkn), .ref (qft), .ref (qbf), .ref (qbh), .ref (qjt), .ref (qot), .ref (qsm), .ref (qpt), .ref (qpr), .ref (qch), .ref (qbt), .int (nI (wr)), .ref (qpg)], mg_ai K qnw 4 nw, mg_al K qch 7 u])) A) args s 0 0 A) (F0 m 21 ls []) := by
        intro n0
        induction n0 using Nat.strongRecOn with
        | ind n0 ih21 =>
        intro k u1 hm21 hlo hv hk ls H locs hl hw
        refine mg_iload_n X 22 d_Mo_reckonChanges_21 (lv_at hl 3 rfl) rfl ?_
        refine mg_iconst X 23 2 d_Mo_reckonChanges_22 mg_ci_2 rfl ?_
        refine mg_aload_n X 24 d_Mo_reckonChanges_23 (lv_at hl 0 rfl) rfl ?_
        refine mg_get X hK hw 27 0 3 f_Mo_86 rfl rfl d_Mo_reckonChanges_24 rfl ?_
        refine mg_imul X 28 (nI (2 * nc)) d_Mo_reckonChanges_27 (pk_mul _ _) rfl ?_
        refine mg_icmp_ge X 74 31 (by omega) (by omega) d_Mo_reckonChanges_28 (by decide) rfl (fun hb2 => ?_) (fun hb2 => ?_)
        · -- pc 28 t
          refine mg_iinc X 77 [(2, .int (nI (d + 1))), (0, .ref (mh)), (1, .int (nI (g))), (3, .int (nI (k)))] (d + 1) d_Mo_reckonChanges_74 hl (k := 2) rfl (mg_inc1 _) (by decide) rfl rfl (fun ls hl => ?_)
          refine mg_goto X 2 d_Mo_reckonChanges_77 (by decide) ?_
          have hl : lv_has ls 4 [(0, .ref (mh)), (1, .int (nI (g))), (2, .int (nI (d + 1)))] := lv_sub hl [1, 2, 0] rfl
          exact ih2 _ (by omega) (d + 1) u1 rfl (fun j hj => by rcases (show j = d ∨ j < d by omega) with h9 | h9; rw [h9, hv, show k = 2 * nc by omega, mo_ch_eq (by omega)]; rw [hlo j h9]; exact hI j h9) (by omega) ls _ _ hl hw
        · -- pc 28 f
          refine mg_aload_n X 32 d_Mo_reckonChanges_31 (lv_at hl 0 rfl) rfl ?_
          refine mg_get X hK hw 35 0 22 f_Mo_63 rfl rfl d_Mo_reckonChanges_32 rfl ?_
          refine mg_iload_n X 36 d_Mo_reckonChanges_35 (lv_at hl 2 rfl) rfl ?_
          refine mg_aload_n X 37 d_Mo_reckonChanges_36 (lv_at hl 0 rfl) rfl ?_
          refine mg_get X hK hw 40 0 22 f_Mo_63 rfl rfl d_Mo_reckonChanges_37 rfl ?_
          refine mg_iload_n X 41 d_Mo_reckonChanges_40 (lv_at hl 2 rfl) rfl ?_
          refine mg_lald X hK hw 42 2 rfl (by omega) (by omega) d_Mo_reckonChanges_41 rfl ?_
          refine mg_iload_n X 43 d_Mo_reckonChanges_42 (lv_at hl 3 rfl) rfl ?_
          refine mg_iload_n X 44 d_Mo_reckonChanges_43 (lv_at hl 2 rfl) rfl ?_
          refine mg_icmp_ge X 56 47 (by omega) (by omega) d_Mo_reckonChanges_44 (by decide) rfl (fun hkd => ?_) (fun hkd => ?_)
          · -- pc 44 t
            refine mg_bipush X 58 16 d_Mo_reckonChanges_56 mg_cb_16 rfl ?_
            refine mg_aload_n X 59 d_Mo_reckonChanges_58 (lv_at hl 0 rfl) rfl ?_
            refine mg_get X hK hw 62 0 10 f_Mo_25 rfl rfl d_Mo_reckonChanges_59 rfl ?_
            refine mg_iload_n X 63 d_Mo_reckonChanges_62 (lv_at hl 1 rfl) rfl ?_
            refine mg_iald X hK hw 64 1 rfl (by omega) (by omega) d_Mo_reckonChanges_63 rfl ?_
            refine mg_isub X 65 (nI (16 - (nw g))) d_Mo_reckonChanges_64 (pk_sub (by omega)) rfl ?_
            refine mg_i2l X 66 d_Mo_reckonChanges_65 (by omega) rfl ?_
            refine mg_lmul X 67 (lN ((u1 d) * (16 - (nw g)))) d_Mo_reckonChanges_66 (lN_mul _ _) rfl ?_
            refine mg_last X hK hw 68 2 [mg_ob mh 6 [.int (nI (flt)), .int (nI (np)), .int (nI (nf)), .int (nI (nc)), .ref (qor), .ref (qfa), .ref (qmo), .int (nI (nm)), .ref (qwt), .ref (qrt), .ref (qnw), .ref (qsn), .ref (qlt), .ref (qkn), .ref (qft), .ref (qbf), .ref (qbh), .ref (qjt), .ref (qot), .ref (qsm), .ref (qpt), .ref (qpr), .ref (qch), .ref (qbt), .int (nI (wr)), .ref (qpg)], mg_ai K qnw 4 nw, mg_al K qch 7 (va_up u1 d ((u1 d) * (16 - (nw g))))] rfl (by omega) (by omega) d_Mo_reckonChanges_67 rfl rfl (fun H locs hw => ?_)
            refine mg_iinc X 71 [(3, .int (nI (k + 1))), (0, .ref (mh)), (1, .int (nI (g))), (2, .int (nI (d)))] (k + 1) d_Mo_reckonChanges_68 hl (k := 3) rfl (mg_inc1 _) (by decide) rfl rfl (fun ls hl => ?_)
            refine mg_goto X 21 d_Mo_reckonChanges_71 (by decide) ?_
            have hl : lv_has ls 4 [(0, .ref (mh)), (1, .int (nI (g))), (2, .int (nI (d))), (3, .int (nI (k + 1)))] := lv_sub hl [1, 2, 3, 0] rfl
            exact ih21 _ (by omega) (k + 1) (va_up u1 d ((u1 d) * (16 - (nw g)))) rfl (fun j hj => by rw [va_up_ne _ _ (by omega)]; exact hlo j hj) (by rw [va_up_self, hv]; exact (mo_ch_s2 (by omega)).symm) (by omega) ls _ _ hl hw
          · -- pc 44 f
            refine mg_aload_n X 48 d_Mo_reckonChanges_47 (lv_at hl 0 rfl) rfl ?_
            refine mg_get X hK hw 51 0 10 f_Mo_25 rfl rfl d_Mo_reckonChanges_48 rfl ?_
            refine mg_iload_n X 52 d_Mo_reckonChanges_51 (lv_at hl 1 rfl) rfl ?_
            refine mg_iald X hK hw 53 1 rfl (by omega) (by omega) d_Mo_reckonChanges_52 rfl ?_
            refine mg_goto X 65 d_Mo_reckonChanges_53 (by decide) ?_
            refine mg_i2l X 66 d_Mo_reckonChanges_65 (by omega) rfl ?_
            refine mg_lmul X 67 (lN ((u1 d) * (nw g))) d_Mo_reckonChanges_66 (lN_mul _ _) rfl ?_
            refine mg_last X hK hw 68 2 [mg_ob mh 6 [.int (nI (flt)), .int (nI (np)), .int (nI (nf)), .int (nI (nc)), .ref (qor), .ref (qfa), .ref (qmo), .int (nI (nm)), .ref (qwt), .ref (qrt), .ref (qnw), .ref (qsn), .ref (qlt), .ref (qkn), .ref (qft), .ref (qbf), .ref (qbh), .ref (qjt), .ref (qot), .ref (qsm), .ref (qpt), .ref (qpr), .ref (qch), .ref (qbt), .int (nI (wr)), .ref (qpg)], mg_ai K qnw 4 nw, mg_al K qch 7 (va_up u1 d ((u1 d) * (nw g)))] rfl (by omega) (by omega) d_Mo_reckonChanges_67 rfl rfl (fun H locs hw => ?_)
            refine mg_iinc X 71 [(3, .int (nI (k + 1))), (0, .ref (mh)), (1, .int (nI (g))), (2, .int (nI (d)))] (k + 1) d_Mo_reckonChanges_68 hl (k := 3) rfl (mg_inc1 _) (by decide) rfl rfl (fun ls hl => ?_)
            refine mg_goto X 21 d_Mo_reckonChanges_71 (by decide) ?_
            have hl : lv_has ls 4 [(0, .ref (mh)), (1, .int (nI (g))), (2, .int (nI (d))), (3, .int (nI (k + 1)))] := lv_sub hl [1, 2, 3, 0] rfl
            exact ih21 _ (by omega) (k + 1) (va_up u1 d ((u1 d) * (nw g))) rfl (fun j hj => by rw [va_up_ne _ _ (by omega)]; exact hlo j hj) (by rw [va_up_self, hv]; exact (mo_ch_s1 (by omega)).symm) (by omega) ls _ _ hl hw
      have hl : lv_has ls 4 [(0, .ref (mh)), (1, .int (nI (g))), (2, .int (nI (d))), (3, .int (nI (0)))] := lv_sub hl [1, 2, 3, 0] rfl
      exact L21 _ 0 (va_up u d 1) rfl (fun j hj => va_up_ne _ _ (by omega)) (va_up_self ..) (by omega) ls _ _ hl hw
  have hl : lv_has ls 4 [(0, .ref (mh)), (1, .int (nI (g))), (2, .int (nI (0)))] := lv_sub hl [1, 2, 0] rfl
  exact L2 _ 0 ch rfl (fun j hj => by omega) (by omega) ls _ _ hl hw
end
