/-! The start: nothing is there yet. -/
theorem am_R_z (n : Nat) : am_R n mg_z mg_z := ⟨fun _ _ => (by decide : 0 < 1000000000), fun _ _ => nb_zero (fun _ _ => rfl)⟩
theorem li_R_z (N : Nat) : li_R N mg_z mg_z := ⟨fun _ _ => (by decide : 0 < 268435456), fun _ _ => nb_zero (fun _ _ => rfl)⟩
theorem fm_ok_z : fm_ok 0 0 mg_z mg_z mg_z := ⟨by decide, by decide, fun p hp => absurd hp (Nat.not_lt_zero _)⟩
theorem sn_ok_z : sn_ok mg_z mg_z := ⟨fun _ _ => Nat.zero_le _, fun _ _ => Nat.zero_le _, fun _ _ => Or.inl rfl⟩
theorem sn_n_z : sn_n mg_z = 0 := (zs_congr (fun k _ => ft_c0 (fun h => h rfl))).trans (zs_zero 24)
theorem cl_tb_z (nc : Nat) (tb : Nat → Nat) (F : Nat → Nat → Nat) : cl_tb 0 nc tb F := fun i w hi => absurd hi (Nat.not_lt_zero _)
theorem cl_rt_z : cl_rt 0 mg_z mg_z := ⟨fun i hi => absurd hi (Nat.not_lt_zero _), fun _ _ => Nat.zero_le _, fun h => absurd h (Nat.lt_irrefl 0)⟩
theorem mo_cd_z : mo_cd 0 0 = 0 := if_pos rfl
theorem mo_sn_z : mo_sn mg_z mg_z mg_z := fun _ _ _ _ => mo_cd_z.symm
theorem mo_sn_drop {sn ol tl : Nat → Nat} (h : mo_sn sn ol tl) {p1 m1 : Nat} (hp : p1 < 6) (hm : m1 < 4) : mo_sn (va_up sn (4 * p1 + m1) 0) (va_up ol (m1 * 6 + p1) 0) (va_up tl (m1 * 6 + p1) 0) := by
  have h1 := mo_sn_put (o := 0) (t := 0) h hp hm
  rw [mo_cd_z] at h1
  exact h1
theorem mo_wt_z : mo_wt 0 mg_z mg_z := fun i l hi => absurd hi (Nat.not_lt_zero _)
theorem mo_kn_z (W : Nat) (kn ftb : Nat → Nat) (F : Nat → Nat → Nat) : mo_kn 0 W kn ftb F := fun m hm => absurd hm (Nat.not_lt_zero _)
theorem li_bt {x : Nat} (h : x < 64) : su_pt (li_bc 6) mg_z 64 x = li_bc 6 x := su_ptl _ _ h
/-- nothing was seen there: dropping it changes nothing of the class's letters -/
theorem mo_sn_none {sn ol tl : Nat → Nat} (h : mo_sn sn ol tl) {p1 m1 : Nat} (hp : p1 < 6) (hm : m1 < 4) (h0 : ol (m1 * 6 + p1) = 0) : mo_sn (va_up sn (4 * p1 + m1) 0) ol tl := fun q i hq hi => by
  by_cases e : q = p1 ∧ i = m1
  · rw [e.1, e.2, va_up_self, h0]; exact (if_pos rfl).symm
  · rw [va_up_ne _ _ (by omega)]; exact h q i hq hi
