set_option maxHeartbeats 4000000 in
set_option maxRecDepth 100000 in
theorem c_X4_init_12 (l : Launch) (D : va_G) (cs : Nat → ClassId) (s0 : Nat) (E : Nat → va_E) (ho : E 12 = .inr (4, [.null, .null])) : Met l yX4_init wsX4_init ({ frames := 1, cells := 5, slots := 15, locals := 20 }) (kPre D cs s0 13 E [.ref (s0 + 12)]) (kQ D s0 18 (kP D cs s0 13 18 12 E)) 5 15 (fun q => s0 ≤ q) := by
  refine kM_of (cc := cX4_init) (maxL := 1) (by decide) rfl (Nat.le_of_ble_eq_true rfl) ?_
  intro p e R s m args below meth c ls C hR hlk hr hin2 h hl
  have hx := C.1.1
  have hb := C.1.2.1
  have hml := C.1.2.2.1
  have hown := C.1.2.2.2.1
  have hts := C.1.2.2.2.2
  have hl : lv_has ls 1 [(0, .ref (s0 + 12))] := hl
  have hi4 : ∀ x ∈ u_ws RX4 TX4 2, x ∈ wsX4_init := fun x q => List.mem_cons_of_mem _ (List.mem_append_right _ q)
  refine lv_aload_n hx hb dX4_init_0 rfl (lv_at hl 0 rfl) ?_
  refine W.objInit hx hb hown (hts (.methodLink RX4 3 objectInit) (List.mem_of_getElem? (i := 1) rfl)) (hts (.instanceMethod objectInit) (List.mem_of_getElem? (i := 2) rfl)) (hts (.code objectInit ⟨#[0xb1]⟩ 1 none) (List.mem_of_getElem? (i := 3) rfl)) rfl (by rw [hml]; exact hl.1) rfl dX4_init_1 (by rw [hR]; exact Nat.le_of_ble_eq_true rfl) (by rw [hR]; exact Nat.le_of_ble_eq_true rfl) ?_
  refine W.eq (g2 := F0 m 4 ls []) rfl ?_
  refine lv_aload_n hx hb dX4_init_4 rfl (lv_at hl 0 rfl) ?_
  refine lv_iconst (v := 3) hx hb dX4_init_5 (by decide) ?_
  refine lv_iconst (v := 3) hx hb dX4_init_6 (by decide) ?_
  refine k_mna (ty := .long) (z := (3, .inr (.inl (fun _ => 0)))) (N := 3) (K := 3) (a := 3) (b := 3) C h (List.mem_of_getElem? (i := 4) rfl) C.2.1.2.1.2 (List.mem_of_getElem? (i := 5) rfl) 4 1 rfl rfl (fun _ _ h => h) (by decide) (by decide) (by decide) (by decide) (by decide) (by decide) (by decide) rfl rfl (by rw [hR]; exact Nat.le_of_ble_eq_true rfl) (by rw [hR]; exact Nat.le_of_ble_eq_true rfl) (fun _ => by rw [vp_cell_l, ← arrV_new]; rfl) dX4_init_7 (fun H h => ?_)
  obtain ⟨E_1, hE_1⟩ : ∃ z, z = kM s0 E 13 3 (cs 4) (cs 1) (3, .inr (.inl (fun _ => 0))) := ⟨_, rfl⟩
  have h : kS D s s0 17 E_1 H [] := by rw [hE_1]; exact h
  refine k_put (ci := 4) (x := .ref (s0 + 13)) (ty := tyX4 0) (fs := [.null, .null]) C hin2 h 12 (by decide) ((um hE_1 (show 12 < 13 by decide)).trans ho) rfl hi4 tyX4 tyX4_ok nmX4 0 (by decide) (index := 11) (List.mem_of_getElem? (i := 6) rfl) rfl rfl (by decide +kernel) rfl rfl (Nat.le_of_ble_eq_true rfl) dX4_init_11 (fun H locs h => ?_)
  obtain ⟨E_2, hE_2⟩ : ∃ z, z = va_up E_1 12 (.inr (4, [.ref (s0 + 13), .null])) := ⟨_, rfl⟩
  have h : kS D s s0 17 E_2 H locs := by rw [hE_2]; exact h
  refine lv_aload_n hx hb dX4_init_14 rfl (lv_at hl 0 rfl) ?_
  refine lv_iconst (v := 3) hx hb dX4_init_15 (by decide) ?_
  refine k_newa (atype := .long) (ty := .long) (a0 := (3, .inr (.inl (fun _ => 0)))) (N' := 3) (k := 3) C h (List.mem_of_getElem? (i := 5) rfl) rfl 1 rfl ra_l (fun _ => rfl) (by decide) (by decide) (by decide) (by rw [hR]; exact Nat.le_of_ble_eq_true rfl) (by rw [hR]; exact Nat.le_of_ble_eq_true rfl) dX4_init_16 (fun H h => ?_)
  obtain ⟨E_3, hE_3⟩ : ∃ z, z = va_up E_2 17 (.inl (cs 1, (3, .inr (.inl (fun _ => 0))))) := ⟨_, rfl⟩
  have h : kS D s s0 18 E_3 H locs := by rw [hE_3]; exact h
  refine k_put (ci := 4) (x := .ref (s0 + 17)) (ty := tyX4 1) (fs := [.ref (s0 + 13), .null]) C hin2 h 12 (by decide) ((ue hE_3 (kn (a := 12) (b := 17) rfl)).trans (show E_2 12 = .inr (4, [.ref (s0 + 13), .null]) from (by rw [hE_2]; rfl))) rfl hi4 tyX4 tyX4_ok nmX4 1 (by decide) (index := 16) (List.mem_of_getElem? (i := 7) rfl) rfl rfl (by decide +kernel) rfl rfl (Nat.le_of_ble_eq_true rfl) dX4_init_18 (fun H locs h => ?_)
  obtain ⟨E_4, hE_4⟩ : ∃ z, z = va_up E_3 12 (.inr (4, [.ref (s0 + 13), .ref (s0 + 17)])) := ⟨_, rfl⟩
  have h : kS D s s0 18 E_4 H locs := by rw [hE_4]; exact h
  have f1 : ∀ k, k < 13 → k ≠ 12 → E_4 k = E k := fun k h1 h2 => ((ue hE_4 (by omega)).trans ((ue hE_3 (by omega)).trans ((ue hE_2 (by omega)).trans ((um hE_1 (by omega)).trans rfl))))
  have f2 : E_4 12 = gE (kG D cs s0) V0 W0 SG0 12 := (show E_4 12 = .inr (4, [.ref (s0 + 13), .ref (s0 + 17)]) from (by rw [hE_4]; rfl))
  have g_13 : E_4 13 = gE (kG D cs s0) V0 W0 SG0 13 := ((ue hE_4 (kn (a := 13) (b := 12) rfl)).trans ((ue hE_3 (kn (a := 13) (b := 17) rfl)).trans ((ue hE_2 (kn (a := 13) (b := 12) rfl)).trans (show E_1 13 = .inl (cs 4, 3, .inr (.inr (.inr (.inr (fun i => some (s0 + (13 + 1 + i))))))) from (by rw [hE_1]; rfl)))))
  have g_14 : E_4 14 = gE (kG D cs s0) V0 W0 SG0 14 := ((ue hE_4 (kn (a := 14) (b := 12) rfl)).trans ((ue hE_3 (kn (a := 14) (b := 17) rfl)).trans ((ue hE_2 (kn (a := 14) (b := 12) rfl)).trans (show E_1 14 = .inl (cs 1, (3, .inr (.inl (fun _ => 0)))) from (by rw [hE_1]; rfl)))))
  have g_15 : E_4 15 = gE (kG D cs s0) V0 W0 SG0 15 := ((ue hE_4 (kn (a := 15) (b := 12) rfl)).trans ((ue hE_3 (kn (a := 15) (b := 17) rfl)).trans ((ue hE_2 (kn (a := 15) (b := 12) rfl)).trans (show E_1 15 = .inl (cs 1, (3, .inr (.inl (fun _ => 0)))) from (by rw [hE_1]; rfl)))))
  have g_16 : E_4 16 = gE (kG D cs s0) V0 W0 SG0 16 := ((ue hE_4 (kn (a := 16) (b := 12) rfl)).trans ((ue hE_3 (kn (a := 16) (b := 17) rfl)).trans ((ue hE_2 (kn (a := 16) (b := 12) rfl)).trans (show E_1 16 = .inl (cs 1, (3, .inr (.inl (fun _ => 0)))) from (by rw [hE_1]; rfl)))))
  have g_17 : E_4 17 = gE (kG D cs s0) V0 W0 SG0 17 := ((ue hE_4 (kn (a := 17) (b := 12) rfl)).trans (show E_3 17 = .inl (cs 1, (3, .inr (.inl (fun _ => 0)))) from (by rw [hE_3]; rfl)))
  have t_13 : ∀ k, 13 ≤ k → k < 13 → E_4 k = gE (kG D cs s0) V0 W0 SG0 k := fun k h1 h2 => absurd h2 (by omega)
  have t_14 : ∀ k, 13 ≤ k → k < 14 → E_4 k = gE (kG D cs s0) V0 W0 SG0 k := k_upto (b := 13) t_13 g_13
  have t_15 : ∀ k, 13 ≤ k → k < 15 → E_4 k = gE (kG D cs s0) V0 W0 SG0 k := k_upto (b := 14) t_14 g_14
  have t_16 : ∀ k, 13 ≤ k → k < 16 → E_4 k = gE (kG D cs s0) V0 W0 SG0 k := k_upto (b := 15) t_15 g_15
  have t_17 : ∀ k, 13 ≤ k → k < 17 → E_4 k = gE (kG D cs s0) V0 W0 SG0 k := k_upto (b := 16) t_16 g_16
  have t_18 : ∀ k, 13 ≤ k → k < 18 → E_4 k = gE (kG D cs s0) V0 W0 SG0 k := k_upto (b := 17) t_17 g_17
  have f3 := t_18
  exact k_vret C hlk hr h dX4_init_21 ⟨f1, f2, f3⟩

set_option maxHeartbeats 4000000 in
set_option maxRecDepth 100000 in
theorem c_X0_init_1 (l : Launch) (D : va_G) (cs : Nat → ClassId) (s0 : Nat) (E : Nat → va_E) (ho : E 1 = .inr (0, [.null, .null, .null, .int 0, .int 0, .null, .null])) : Met l yX0_init wsX0_init ({ frames := 2, cells := 16, slots := 56, locals := 40 }) (kPre D cs s0 2 E [.ref (s0 + 1)]) (kQ D s0 18 (kP D cs s0 2 18 1 E)) 16 56 (fun q => s0 ≤ q) := by
  refine kM_of (cc := cX0_init) (maxL := 1) (by decide) rfl (Nat.le_of_ble_eq_true rfl) ?_
  intro p e R s m args below meth c ls C hR hlk hr hin2 h hl
  have hx := C.1.1
  have hb := C.1.2.1
  have hml := C.1.2.2.1
  have hown := C.1.2.2.2.1
  have hts := C.1.2.2.2.2
  have hl : lv_has ls 1 [(0, .ref (s0 + 1))] := hl
  have hi0 : ∀ x ∈ u_ws RX0 TX0 7, x ∈ wsX0_init := fun x q => List.mem_cons_of_mem _ (List.mem_append_left _ (List.mem_append_right _ q))
  have hi4 : ∀ x ∈ u_ws RX4 TX4 2, x ∈ wsX0_init := fun x q => List.mem_cons_of_mem _ (List.mem_append_right _ q)
  refine lv_aload_n hx hb dX0_init_0 rfl (lv_at hl 0 rfl) ?_
  refine W.objInit hx hb hown (hts (.methodLink RX0 3 objectInit) (List.mem_of_getElem? (i := 1) rfl)) (hts (.instanceMethod objectInit) (List.mem_of_getElem? (i := 2) rfl)) (hts (.code objectInit ⟨#[0xb1]⟩ 1 none) (List.mem_of_getElem? (i := 3) rfl)) rfl (by rw [hml]; exact hl.1) rfl dX0_init_1 (by rw [hR]; exact Nat.le_of_ble_eq_true rfl) (by rw [hR]; exact Nat.le_of_ble_eq_true rfl) ?_
  refine W.eq (g2 := F0 m 4 ls []) rfl ?_
  refine lv_aload_n hx hb dX0_init_4 rfl (lv_at hl 0 rfl) ?_
  refine lv_iconst (v := 3) hx hb dX0_init_5 (by decide) ?_
  refine k_newA (ty := .int) (N' := 3) (k := 3) C h (List.mem_of_getElem? (i := 4) rfl) C.2.1.2.1.1 3 rfl (by decide) (by decide) (by decide) (by rw [hR]; exact Nat.le_of_ble_eq_true rfl) (by rw [hR]; exact Nat.le_of_ble_eq_true rfl) dX0_init_6 (fun H h => ?_)
  obtain ⟨E_1, hE_1⟩ : ∃ z, z = va_up E 2 (.inl (cs 3, 3, .inr (.inr (.inr (.inr (fun _ => none)))))) := ⟨_, rfl⟩
  have h : kS D s s0 3 E_1 H [] := by rw [hE_1]; exact h
  refine lv_dup hx hb dX0_init_9 rfl ?_
  refine lv_iconst (v := 0) hx hb dX0_init_10 (by decide) ?_
  refine lv_iconst (v := 3) hx hb dX0_init_11 (by decide) ?_
  refine k_newa (atype := .int) (ty := .int) (a0 := (3, .inl (fun _ => 0))) (N' := 3) (k := 3) C h (List.mem_of_getElem? (i := 5) rfl) rfl 0 rfl ra_i (fun _ => rfl) (by decide) (by decide) (by decide) (by rw [hR]; exact Nat.le_of_ble_eq_true rfl) (by rw [hR]; exact Nat.le_of_ble_eq_true rfl) dX0_init_12 (fun H h => ?_)
  obtain ⟨E_2, hE_2⟩ : ∃ z, z = va_up E_1 3 (.inl (cs 0, (3, .inl (fun _ => 0)))) := ⟨_, rfl⟩
  have h : kS D s s0 4 E_2 H [] := by rw [hE_2]; exact h
  refine lv_dup hx hb dX0_init_14 rfl ?_
  refine lv_iconst (v := 0) hx hb dX0_init_15 (by decide) ?_
  refine lv_bipush (v := 10) hx hb dX0_init_16 (by decide) ?_
  refine k_iast (f := fun _ => 0) C h 3 (by decide) (show E_2 3 = .inl (cs 0, (3, .inl (fun _ => 0))) from (by rw [hE_2]; rfl)) (vp_of (I := 0) (by decide) (by decide) (by decide)) dX0_init_18 (fun H locs h => ?_)
  obtain ⟨E_3, hE_3⟩ : ∃ z, z = va_up E_2 3 (.inl (cs 0, 3, .inl (upd (fun _ => 0) 0 10))) := ⟨_, rfl⟩
  have h : kS D s s0 4 E_3 H locs := by rw [hE_3]; exact h
  refine lv_dup hx hb dX0_init_19 rfl ?_
  refine lv_iconst (v := 1) hx hb dX0_init_20 (by decide) ?_
  refine lv_iconst (v := 0) hx hb dX0_init_21 (by decide) ?_
  refine k_iast (f := (upd (fun _ => 0) 0 10)) C h 3 (by decide) (show E_3 3 = .inl (cs 0, 3, .inl (upd (fun _ => 0) 0 10)) from (by rw [hE_3]; rfl)) (vp_of (I := 1) (by decide) (by decide) (by decide)) dX0_init_22 (fun H locs h => ?_)
  obtain ⟨E_4, hE_4⟩ : ∃ z, z = va_up E_3 3 (.inl (cs 0, 3, .inl (upd ((upd (fun _ => 0) 0 10)) 1 0))) := ⟨_, rfl⟩
  have h : kS D s s0 4 E_4 H locs := by rw [hE_4]; exact h
  refine lv_dup hx hb dX0_init_23 rfl ?_
  refine lv_iconst (v := 2) hx hb dX0_init_24 (by decide) ?_
  refine lv_iconst (v := 0) hx hb dX0_init_25 (by decide) ?_
  refine k_iast (f := (upd ((upd (fun _ => 0) 0 10)) 1 0)) C h 3 (by decide) (show E_4 3 = .inl (cs 0, 3, .inl (upd ((upd (fun _ => 0) 0 10)) 1 0)) from (by rw [hE_4]; rfl)) (vp_of (I := 2) (by decide) (by decide) (by decide)) dX0_init_26 (fun H locs h => ?_)
  obtain ⟨E_5, hE_5⟩ : ∃ z, z = va_up E_4 3 (.inl (cs 0, 3, .inl (upd ((upd ((upd (fun _ => 0) 0 10)) 1 0)) 2 0))) := ⟨_, rfl⟩
  have h : kS D s s0 4 E_5 H locs := by rw [hE_5]; exact h
  refine k_aastA (f := fun _ => none) C h 2 3 (by decide) (by decide) ((ue hE_5 (kn (a := 2) (b := 3) rfl)).trans ((ue hE_4 (kn (a := 2) (b := 3) rfl)).trans ((ue hE_3 (kn (a := 2) (b := 3) rfl)).trans ((ue hE_2 (kn (a := 2) (b := 3) rfl)).trans (show E_1 2 = .inl (cs 3, 3, .inr (.inr (.inr (.inr (fun _ => none))))) from (by rw [hE_1]; rfl)))))) (show E_5 3 = .inl (cs 0, 3, .inl (upd ((upd ((upd (fun _ => 0) 0 10)) 1 0)) 2 0)) from (by rw [hE_5]; rfl)) (vp_of (I := 0) (by decide) (by decide) (by decide)) dX0_init_27 (fun H locs h => ?_)
  obtain ⟨E_6, hE_6⟩ : ∃ z, z = va_up E_5 2 (.inl (cs 3, 3, .inr (.inr (.inr (.inr (va_up (fun _ => none) 0 (some (s0 + 3)))))))) := ⟨_, rfl⟩
  have h : kS D s s0 4 E_6 H locs := by rw [hE_6]; exact h
  refine lv_dup hx hb dX0_init_28 rfl ?_
  refine lv_iconst (v := 1) hx hb dX0_init_29 (by decide) ?_
  refine lv_iconst (v := 3) hx hb dX0_init_30 (by decide) ?_
  refine k_newa (atype := .int) (ty := .int) (a0 := (3, .inl (fun _ => 0))) (N' := 3) (k := 3) C h (List.mem_of_getElem? (i := 5) rfl) rfl 0 rfl ra_i (fun _ => rfl) (by decide) (by decide) (by decide) (by rw [hR]; exact Nat.le_of_ble_eq_true rfl) (by rw [hR]; exact Nat.le_of_ble_eq_true rfl) dX0_init_31 (fun H h => ?_)
  obtain ⟨E_7, hE_7⟩ : ∃ z, z = va_up E_6 4 (.inl (cs 0, (3, .inl (fun _ => 0)))) := ⟨_, rfl⟩
  have h : kS D s s0 5 E_7 H locs := by rw [hE_7]; exact h
  refine lv_dup hx hb dX0_init_33 rfl ?_
  refine lv_iconst (v := 0) hx hb dX0_init_34 (by decide) ?_
  refine lv_iconst (v := 0) hx hb dX0_init_35 (by decide) ?_
  refine k_iast (f := fun _ => 0) C h 4 (by decide) (show E_7 4 = .inl (cs 0, (3, .inl (fun _ => 0))) from (by rw [hE_7]; rfl)) (vp_of (I := 0) (by decide) (by decide) (by decide)) dX0_init_36 (fun H locs h => ?_)
  obtain ⟨E_8, hE_8⟩ : ∃ z, z = va_up E_7 4 (.inl (cs 0, 3, .inl (upd (fun _ => 0) 0 0))) := ⟨_, rfl⟩
  have h : kS D s s0 5 E_8 H locs := by rw [hE_8]; exact h
  refine lv_dup hx hb dX0_init_37 rfl ?_
  refine lv_iconst (v := 1) hx hb dX0_init_38 (by decide) ?_
  refine lv_bipush (v := 10) hx hb dX0_init_39 (by decide) ?_
  refine k_iast (f := (upd (fun _ => 0) 0 0)) C h 4 (by decide) (show E_8 4 = .inl (cs 0, 3, .inl (upd (fun _ => 0) 0 0)) from (by rw [hE_8]; rfl)) (vp_of (I := 1) (by decide) (by decide) (by decide)) dX0_init_41 (fun H locs h => ?_)
  obtain ⟨E_9, hE_9⟩ : ∃ z, z = va_up E_8 4 (.inl (cs 0, 3, .inl (upd ((upd (fun _ => 0) 0 0)) 1 10))) := ⟨_, rfl⟩
  have h : kS D s s0 5 E_9 H locs := by rw [hE_9]; exact h
  refine lv_dup hx hb dX0_init_42 rfl ?_
  refine lv_iconst (v := 2) hx hb dX0_init_43 (by decide) ?_
  refine lv_iconst (v := 0) hx hb dX0_init_44 (by decide) ?_
  refine k_iast (f := (upd ((upd (fun _ => 0) 0 0)) 1 10)) C h 4 (by decide) (show E_9 4 = .inl (cs 0, 3, .inl (upd ((upd (fun _ => 0) 0 0)) 1 10)) from (by rw [hE_9]; rfl)) (vp_of (I := 2) (by decide) (by decide) (by decide)) dX0_init_45 (fun H locs h => ?_)
  obtain ⟨E_10, hE_10⟩ : ∃ z, z = va_up E_9 4 (.inl (cs 0, 3, .inl (upd ((upd ((upd (fun _ => 0) 0 0)) 1 10)) 2 0))) := ⟨_, rfl⟩
  have h : kS D s s0 5 E_10 H locs := by rw [hE_10]; exact h
  refine k_aastA (f := (va_up (fun _ => none) 0 (some (s0 + 3)))) C h 2 4 (by decide) (by decide) ((ue hE_10 (kn (a := 2) (b := 4) rfl)).trans ((ue hE_9 (kn (a := 2) (b := 4) rfl)).trans ((ue hE_8 (kn (a := 2) (b := 4) rfl)).trans ((ue hE_7 (kn (a := 2) (b := 4) rfl)).trans (show E_6 2 = .inl (cs 3, 3, .inr (.inr (.inr (.inr (va_up (fun _ => none) 0 (some (s0 + 3))))))) from (by rw [hE_6]; rfl)))))) (show E_10 4 = .inl (cs 0, 3, .inl (upd ((upd ((upd (fun _ => 0) 0 0)) 1 10)) 2 0)) from (by rw [hE_10]; rfl)) (vp_of (I := 1) (by decide) (by decide) (by decide)) dX0_init_46 (fun H locs h => ?_)
  obtain ⟨E_11, hE_11⟩ : ∃ z, z = va_up E_10 2 (.inl (cs 3, 3, .inr (.inr (.inr (.inr (va_up ((va_up (fun _ => none) 0 (some (s0 + 3)))) 1 (some (s0 + 4)))))))) := ⟨_, rfl⟩
  have h : kS D s s0 5 E_11 H locs := by rw [hE_11]; exact h
  refine lv_dup hx hb dX0_init_47 rfl ?_
  refine lv_iconst (v := 2) hx hb dX0_init_48 (by decide) ?_
  refine lv_iconst (v := 3) hx hb dX0_init_49 (by decide) ?_
  refine k_newa (atype := .int) (ty := .int) (a0 := (3, .inl (fun _ => 0))) (N' := 3) (k := 3) C h (List.mem_of_getElem? (i := 5) rfl) rfl 0 rfl ra_i (fun _ => rfl) (by decide) (by decide) (by decide) (by rw [hR]; exact Nat.le_of_ble_eq_true rfl) (by rw [hR]; exact Nat.le_of_ble_eq_true rfl) dX0_init_50 (fun H h => ?_)
  obtain ⟨E_12, hE_12⟩ : ∃ z, z = va_up E_11 5 (.inl (cs 0, (3, .inl (fun _ => 0)))) := ⟨_, rfl⟩
  have h : kS D s s0 6 E_12 H locs := by rw [hE_12]; exact h
  refine lv_dup hx hb dX0_init_52 rfl ?_
  refine lv_iconst (v := 0) hx hb dX0_init_53 (by decide) ?_
  refine lv_iconst (v := 0) hx hb dX0_init_54 (by decide) ?_
  refine k_iast (f := fun _ => 0) C h 5 (by decide) (show E_12 5 = .inl (cs 0, (3, .inl (fun _ => 0))) from (by rw [hE_12]; rfl)) (vp_of (I := 0) (by decide) (by decide) (by decide)) dX0_init_55 (fun H locs h => ?_)
  obtain ⟨E_13, hE_13⟩ : ∃ z, z = va_up E_12 5 (.inl (cs 0, 3, .inl (upd (fun _ => 0) 0 0))) := ⟨_, rfl⟩
  have h : kS D s s0 6 E_13 H locs := by rw [hE_13]; exact h
  refine lv_dup hx hb dX0_init_56 rfl ?_
  refine lv_iconst (v := 1) hx hb dX0_init_57 (by decide) ?_
  refine lv_iconst (v := 0) hx hb dX0_init_58 (by decide) ?_
  refine k_iast (f := (upd (fun _ => 0) 0 0)) C h 5 (by decide) (show E_13 5 = .inl (cs 0, 3, .inl (upd (fun _ => 0) 0 0)) from (by rw [hE_13]; rfl)) (vp_of (I := 1) (by decide) (by decide) (by decide)) dX0_init_59 (fun H locs h => ?_)
  obtain ⟨E_14, hE_14⟩ : ∃ z, z = va_up E_13 5 (.inl (cs 0, 3, .inl (upd ((upd (fun _ => 0) 0 0)) 1 0))) := ⟨_, rfl⟩
  have h : kS D s s0 6 E_14 H locs := by rw [hE_14]; exact h
  refine lv_dup hx hb dX0_init_60 rfl ?_
  refine lv_iconst (v := 2) hx hb dX0_init_61 (by decide) ?_
  refine lv_bipush (v := 10) hx hb dX0_init_62 (by decide) ?_
  refine k_iast (f := (upd ((upd (fun _ => 0) 0 0)) 1 0)) C h 5 (by decide) (show E_14 5 = .inl (cs 0, 3, .inl (upd ((upd (fun _ => 0) 0 0)) 1 0)) from (by rw [hE_14]; rfl)) (vp_of (I := 2) (by decide) (by decide) (by decide)) dX0_init_64 (fun H locs h => ?_)
  obtain ⟨E_15, hE_15⟩ : ∃ z, z = va_up E_14 5 (.inl (cs 0, 3, .inl (upd ((upd ((upd (fun _ => 0) 0 0)) 1 0)) 2 10))) := ⟨_, rfl⟩
  have h : kS D s s0 6 E_15 H locs := by rw [hE_15]; exact h
  refine k_aastA (f := (va_up ((va_up (fun _ => none) 0 (some (s0 + 3)))) 1 (some (s0 + 4)))) C h 2 5 (by decide) (by decide) ((ue hE_15 (kn (a := 2) (b := 5) rfl)).trans ((ue hE_14 (kn (a := 2) (b := 5) rfl)).trans ((ue hE_13 (kn (a := 2) (b := 5) rfl)).trans ((ue hE_12 (kn (a := 2) (b := 5) rfl)).trans (show E_11 2 = .inl (cs 3, 3, .inr (.inr (.inr (.inr (va_up ((va_up (fun _ => none) 0 (some (s0 + 3)))) 1 (some (s0 + 4))))))) from (by rw [hE_11]; rfl)))))) (show E_15 5 = .inl (cs 0, 3, .inl (upd ((upd ((upd (fun _ => 0) 0 0)) 1 0)) 2 10)) from (by rw [hE_15]; rfl)) (vp_of (I := 2) (by decide) (by decide) (by decide)) dX0_init_65 (fun H locs h => ?_)
  obtain ⟨E_16, hE_16⟩ : ∃ z, z = va_up E_15 2 (.inl (cs 3, 3, .inr (.inr (.inr (.inr (va_up ((va_up ((va_up (fun _ => none) 0 (some (s0 + 3)))) 1 (some (s0 + 4)))) 2 (some (s0 + 5)))))))) := ⟨_, rfl⟩
  have h : kS D s s0 6 E_16 H locs := by rw [hE_16]; exact h
  refine k_put (ci := 0) (x := .ref (s0 + 2)) (ty := tyX0 0) (fs := [.null, .null, .null, .int 0, .int 0, .null, .null]) C hin2 h 1 (by decide) ((ue hE_16 (kn (a := 1) (b := 2) rfl)).trans ((ue hE_15 (kn (a := 1) (b := 5) rfl)).trans ((ue hE_14 (kn (a := 1) (b := 5) rfl)).trans ((ue hE_13 (kn (a := 1) (b := 5) rfl)).trans ((ue hE_12 (kn (a := 1) (b := 5) rfl)).trans ((ue hE_11 (kn (a := 1) (b := 2) rfl)).trans ((ue hE_10 (kn (a := 1) (b := 4) rfl)).trans ((ue hE_9 (kn (a := 1) (b := 4) rfl)).trans ((ue hE_8 (kn (a := 1) (b := 4) rfl)).trans ((ue hE_7 (kn (a := 1) (b := 4) rfl)).trans ((ue hE_6 (kn (a := 1) (b := 2) rfl)).trans ((ue hE_5 (kn (a := 1) (b := 3) rfl)).trans ((ue hE_4 (kn (a := 1) (b := 3) rfl)).trans ((ue hE_3 (kn (a := 1) (b := 3) rfl)).trans ((ue hE_2 (kn (a := 1) (b := 3) rfl)).trans ((ue hE_1 (kn (a := 1) (b := 2) rfl)).trans ho)))))))))))))))) rfl hi0 tyX0 tyX0_ok nmX0 0 (by decide) (index := 11) (List.mem_of_getElem? (i := 6) rfl) rfl rfl (by decide +kernel) rfl rfl (Nat.le_of_ble_eq_true rfl) dX0_init_66 (fun H locs h => ?_)
  obtain ⟨E_17, hE_17⟩ : ∃ z, z = va_up E_16 1 (.inr (0, [.ref (s0 + 2), .null, .null, .int 0, .int 0, .null, .null])) := ⟨_, rfl⟩
  have h : kS D s s0 6 E_17 H locs := by rw [hE_17]; exact h
  refine lv_aload_n hx hb dX0_init_69 rfl (lv_at hl 0 rfl) ?_
  refine lv_iconst (v := 3) hx hb dX0_init_70 (by decide) ?_
  refine lv_bipush (v := 6) hx hb dX0_init_71 (by decide) ?_
  refine k_mna (ty := .int) (z := (6, .inl (fun _ => 0))) (N := 3) (K := 6) (a := 3) (b := 6) C h (List.mem_of_getElem? (i := 7) rfl) C.2.1.2.1.1 (List.mem_of_getElem? (i := 5) rfl) 3 0 rfl rfl (fun _ _ h => h) (by decide) (by decide) (by decide) (by decide) (by decide) (by decide) (by decide) rfl rfl (by rw [hR]; exact Nat.le_of_ble_eq_true rfl) (by rw [hR]; exact Nat.le_of_ble_eq_true rfl) (fun _ => by rw [vp_cell_i, ← arrV_new]; rfl) dX0_init_73 (fun H h => ?_)
  obtain ⟨E_18, hE_18⟩ : ∃ z, z = kM s0 E_17 6 3 (cs 3) (cs 0) (6, .inl (fun _ => 0)) := ⟨_, rfl⟩
  have h : kS D s s0 10 E_18 H locs := by rw [hE_18]; exact h
  refine k_put (ci := 0) (x := .ref (s0 + 6)) (ty := tyX0 1) (fs := [.ref (s0 + 2), .null, .null, .int 0, .int 0, .null, .null]) C hin2 h 1 (by decide) ((um hE_18 (show 1 < 6 by decide)).trans (show E_17 1 = .inr (0, [.ref (s0 + 2), .null, .null, .int 0, .int 0, .null, .null]) from (by rw [hE_17]; rfl))) rfl hi0 tyX0 tyX0_ok nmX0 1 (by decide) (index := 18) (List.mem_of_getElem? (i := 8) rfl) rfl rfl (by decide +kernel) rfl rfl (Nat.le_of_ble_eq_true rfl) dX0_init_77 (fun H locs h => ?_)
  obtain ⟨E_19, hE_19⟩ : ∃ z, z = va_up E_18 1 (.inr (0, [.ref (s0 + 2), .ref (s0 + 6), .null, .int 0, .int 0, .null, .null])) := ⟨_, rfl⟩
  have h : kS D s s0 10 E_19 H locs := by rw [hE_19]; exact h
  refine lv_aload_n hx hb dX0_init_80 rfl (lv_at hl 0 rfl) ?_
  refine lv_iconst (v := 3) hx hb dX0_init_81 (by decide) ?_
  refine k_newa (atype := .int) (ty := .int) (a0 := (3, .inl (fun _ => 0))) (N' := 3) (k := 3) C h (List.mem_of_getElem? (i := 5) rfl) rfl 0 rfl ra_i (fun _ => rfl) (by decide) (by decide) (by decide) (by rw [hR]; exact Nat.le_of_ble_eq_true rfl) (by rw [hR]; exact Nat.le_of_ble_eq_true rfl) dX0_init_82 (fun H h => ?_)
  obtain ⟨E_20, hE_20⟩ : ∃ z, z = va_up E_19 10 (.inl (cs 0, (3, .inl (fun _ => 0)))) := ⟨_, rfl⟩
  have h : kS D s s0 11 E_20 H locs := by rw [hE_20]; exact h
  refine k_put (ci := 0) (x := .ref (s0 + 10)) (ty := tyX0 2) (fs := [.ref (s0 + 2), .ref (s0 + 6), .null, .int 0, .int 0, .null, .null]) C hin2 h 1 (by decide) ((ue hE_20 (kn (a := 1) (b := 10) rfl)).trans (show E_19 1 = .inr (0, [.ref (s0 + 2), .ref (s0 + 6), .null, .int 0, .int 0, .null, .null]) from (by rw [hE_19]; rfl))) rfl hi0 tyX0 tyX0_ok nmX0 2 (by decide) (index := 21) (List.mem_of_getElem? (i := 9) rfl) rfl rfl (by decide +kernel) rfl rfl (Nat.le_of_ble_eq_true rfl) dX0_init_84 (fun H locs h => ?_)
  obtain ⟨E_21, hE_21⟩ : ∃ z, z = va_up E_20 1 (.inr (0, [.ref (s0 + 2), .ref (s0 + 6), .ref (s0 + 10), .int 0, .int 0, .null, .null])) := ⟨_, rfl⟩
  have h : kS D s s0 11 E_21 H locs := by rw [hE_21]; exact h
  refine lv_aload_n hx hb dX0_init_87 rfl (lv_at hl 0 rfl) ?_
  refine lv_iconst (v := 0) hx hb dX0_init_88 (by decide) ?_
  refine k_put (ci := 0) (x := .int 0) (ty := .boolean) (fs := [.ref (s0 + 2), .ref (s0 + 6), .ref (s0 + 10), .int 0, .int 0, .null, .null]) C hin2 h 1 (by decide) (show E_21 1 = .inr (0, [.ref (s0 + 2), .ref (s0 + 6), .ref (s0 + 10), .int 0, .int 0, .null, .null]) from (by rw [hE_21]; rfl)) rfl hi0 tyX0 tyX0_ok nmX0 3 (by decide) (index := 24) (List.mem_of_getElem? (i := 10) rfl) rfl rfl (by decide +kernel) rfl rfl (Nat.le_of_ble_eq_true rfl) dX0_init_89 (fun H locs h => ?_)
  obtain ⟨E_22, hE_22⟩ : ∃ z, z = va_up E_21 1 (.inr (0, [.ref (s0 + 2), .ref (s0 + 6), .ref (s0 + 10), .int 0, .int 0, .null, .null])) := ⟨_, rfl⟩
  have h : kS D s s0 11 E_22 H locs := by rw [hE_22]; exact h
  refine lv_aload_n hx hb dX0_init_92 rfl (lv_at hl 0 rfl) ?_
  refine lv_iconst (v := 0) hx hb dX0_init_93 (by decide) ?_
  refine k_put (ci := 0) (x := .int 0) (ty := .int) (fs := [.ref (s0 + 2), .ref (s0 + 6), .ref (s0 + 10), .int 0, .int 0, .null, .null]) C hin2 h 1 (by decide) (show E_22 1 = .inr (0, [.ref (s0 + 2), .ref (s0 + 6), .ref (s0 + 10), .int 0, .int 0, .null, .null]) from (by rw [hE_22]; rfl)) rfl hi0 tyX0 tyX0_ok nmX0 4 (by decide) (index := 28) (List.mem_of_getElem? (i := 11) rfl) rfl rfl (by decide +kernel) rfl rfl (Nat.le_of_ble_eq_true rfl) dX0_init_94 (fun H locs h => ?_)
  obtain ⟨E_23, hE_23⟩ : ∃ z, z = va_up E_22 1 (.inr (0, [.ref (s0 + 2), .ref (s0 + 6), .ref (s0 + 10), .int 0, .int 0, .null, .null])) := ⟨_, rfl⟩
  have h : kS D s s0 11 E_23 H locs := by rw [hE_23]; exact h
  refine lv_aload_n hx hb dX0_init_97 rfl (lv_at hl 0 rfl) ?_
  refine lv_iconst (v := 3) hx hb dX0_init_98 (by decide) ?_
  refine k_newa (atype := .int) (ty := .int) (a0 := (3, .inl (fun _ => 0))) (N' := 3) (k := 3) C h (List.mem_of_getElem? (i := 5) rfl) rfl 0 rfl ra_i (fun _ => rfl) (by decide) (by decide) (by decide) (by rw [hR]; exact Nat.le_of_ble_eq_true rfl) (by rw [hR]; exact Nat.le_of_ble_eq_true rfl) dX0_init_99 (fun H h => ?_)
  obtain ⟨E_24, hE_24⟩ : ∃ z, z = va_up E_23 11 (.inl (cs 0, (3, .inl (fun _ => 0)))) := ⟨_, rfl⟩
  have h : kS D s s0 12 E_24 H locs := by rw [hE_24]; exact h
  refine k_put (ci := 0) (x := .ref (s0 + 11)) (ty := tyX0 5) (fs := [.ref (s0 + 2), .ref (s0 + 6), .ref (s0 + 10), .int 0, .int 0, .null, .null]) C hin2 h 1 (by decide) ((ue hE_24 (kn (a := 1) (b := 11) rfl)).trans (show E_23 1 = .inr (0, [.ref (s0 + 2), .ref (s0 + 6), .ref (s0 + 10), .int 0, .int 0, .null, .null]) from (by rw [hE_23]; rfl))) rfl hi0 tyX0 tyX0_ok nmX0 5 (by decide) (index := 32) (List.mem_of_getElem? (i := 12) rfl) rfl rfl (by decide +kernel) rfl rfl (Nat.le_of_ble_eq_true rfl) dX0_init_101 (fun H locs h => ?_)
  obtain ⟨E_25, hE_25⟩ : ∃ z, z = va_up E_24 1 (.inr (0, [.ref (s0 + 2), .ref (s0 + 6), .ref (s0 + 10), .int 0, .int 0, .ref (s0 + 11), .null])) := ⟨_, rfl⟩
  have h : kS D s s0 12 E_25 H locs := by rw [hE_25]; exact h
  refine lv_aload_n hx hb dX0_init_104 rfl (lv_at hl 0 rfl) ?_
  refine k_new (ci := 4) (fs := [.null, .null]) C h hi4 tyX4 tyX4_ok (List.mem_of_getElem? (i := 13) rfl) (List.mem_of_getElem? (i := 14) rfl) (List.mem_of_getElem? (i := 15) rfl) rfl (fun j hj => by rcases (show j = 0 ∨ j = 1 by omega) with rfl | rfl <;> rfl) (by rw [hR]; exact Nat.le_of_ble_eq_true rfl) (by rw [hR]; exact Nat.le_of_ble_eq_true rfl) dX0_init_105 (fun H h => ?_)
  obtain ⟨E_26, hE_26⟩ : ∃ z, z = va_up E_25 12 (.inr (4, [.null, .null])) := ⟨_, rfl⟩
  have h : kS D s s0 13 E_26 H locs := by rw [hE_26]; exact h
  refine lv_dup hx hb dX0_init_108 rfl ?_
  refine k_callv C (va_runIN (As := []) (rest := [.ref (s0 + 12), .ref (s0 + 1)]) C.1 (c_X4_init_12 l D cs s0 E_26 (show E_26 12 = .inr (4, [.null, .null]) from (by rw [hE_26]; rfl))) ⟨va_cnB 0 hts ggX0_init_X4_init rfl rfl rfl (C.2.1.2.2.2 (RX0, 37, yX4_init) (List.mem_of_getElem? (i := 1) rfl)) (hts (.initialized RX4) (List.mem_of_getElem? (i := 15) rfl)) (by decide +kernel) ⟨by rw [hR]; exact Nat.le_of_ble_eq_true rfl, by rw [hR]; exact Nat.le_of_ble_eq_true rfl⟩, rfl, hts (.instanceMethod yX4_init) (List.mem_of_getElem? (i := 17) rfl)⟩ ⟨kPre_blind, kS_pre C h _⟩ rfl rfl hl.1 rfl (lv_room (Nat.le_of_ble_eq_true rfl)) dX0_init_109 ⟨(by rw [hR]; exact Nat.le_of_ble_eq_true rfl), (by rw [hR]; exact Nat.le_of_ble_eq_true rfl)⟩) h (fun E_27 H locs p_28 h => ?_)
  refine k_put (ci := 0) (x := .ref (s0 + 12)) (ty := tyX0 6) (fs := [.ref (s0 + 2), .ref (s0 + 6), .ref (s0 + 10), .int 0, .int 0, .ref (s0 + 11), .null]) C hin2 h 1 (by decide) ((p_28.1 1 (kl rfl) (kn rfl)).trans ((ue hE_26 (kn (a := 1) (b := 12) rfl)).trans (show E_25 1 = .inr (0, [.ref (s0 + 2), .ref (s0 + 6), .ref (s0 + 10), .int 0, .int 0, .ref (s0 + 11), .null]) from (by rw [hE_25]; rfl)))) rfl hi0 tyX0 tyX0_ok nmX0 6 (by decide) (index := 38) (List.mem_of_getElem? (i := 16) rfl) rfl rfl (by decide +kernel) rfl rfl (Nat.le_of_ble_eq_true rfl) dX0_init_112 (fun H locs h => ?_)
  obtain ⟨E_29, hE_29⟩ : ∃ z, z = va_up E_27 1 (.inr (0, [.ref (s0 + 2), .ref (s0 + 6), .ref (s0 + 10), .int 0, .int 0, .ref (s0 + 11), .ref (s0 + 12)])) := ⟨_, rfl⟩
  have h : kS D s s0 18 E_29 H locs := by rw [hE_29]; exact h
  have h := kS_cg h 2 (by decide) (fun i => some (s0 + gR SG0 2 i)) ((ue hE_29 (kn (a := 2) (b := 1) rfl)).trans ((p_28.1 2 (kl rfl) (kn rfl)).trans ((ue hE_26 (kn (a := 2) (b := 12) rfl)).trans ((ue hE_25 (kn (a := 2) (b := 1) rfl)).trans ((ue hE_24 (kn (a := 2) (b := 11) rfl)).trans ((ue hE_23 (kn (a := 2) (b := 1) rfl)).trans ((ue hE_22 (kn (a := 2) (b := 1) rfl)).trans ((ue hE_21 (kn (a := 2) (b := 1) rfl)).trans ((ue hE_20 (kn (a := 2) (b := 10) rfl)).trans ((ue hE_19 (kn (a := 2) (b := 1) rfl)).trans ((um hE_18 (show 2 < 6 by decide)).trans ((ue hE_17 (kn (a := 2) (b := 1) rfl)).trans (show E_16 2 = .inl (cs 3, 3, .inr (.inr (.inr (.inr (va_up ((va_up ((va_up (fun _ => none) 0 (some (s0 + 3)))) 1 (some (s0 + 4)))) 2 (some (s0 + 5))))))) from (by rw [hE_16]; rfl)))))))))))))) (by intro i hi; rcases (show i = 0 ∨ i = 1 ∨ i = 2 by omega) with rfl | rfl | rfl <;> rfl)
  obtain ⟨E_30, hE_30⟩ : ∃ z, z = va_up E_29 2 (.inl (cs 3, 3, .inr (.inr (.inr (.inr (fun i => some (s0 + gR SG0 2 i))))))) := ⟨_, rfl⟩
  have h : kS D s s0 18 E_30 H locs := by rw [hE_30]; exact h
  have f1 : ∀ k, k < 2 → k ≠ 1 → E_30 k = E k := fun k h1 h2 => ((ue hE_30 (by omega)).trans ((ue hE_29 (by omega)).trans ((p_28.1 _ (by omega) (by omega)).trans ((ue hE_26 (by omega)).trans ((ue hE_25 (by omega)).trans ((ue hE_24 (by omega)).trans ((ue hE_23 (by omega)).trans ((ue hE_22 (by omega)).trans ((ue hE_21 (by omega)).trans ((ue hE_20 (by omega)).trans ((ue hE_19 (by omega)).trans ((um hE_18 (by omega)).trans ((ue hE_17 (by omega)).trans ((ue hE_16 (by omega)).trans ((ue hE_15 (by omega)).trans ((ue hE_14 (by omega)).trans ((ue hE_13 (by omega)).trans ((ue hE_12 (by omega)).trans ((ue hE_11 (by omega)).trans ((ue hE_10 (by omega)).trans ((ue hE_9 (by omega)).trans ((ue hE_8 (by omega)).trans ((ue hE_7 (by omega)).trans ((ue hE_6 (by omega)).trans ((ue hE_5 (by omega)).trans ((ue hE_4 (by omega)).trans ((ue hE_3 (by omega)).trans ((ue hE_2 (by omega)).trans ((ue hE_1 (by omega)).trans rfl)))))))))))))))))))))))))))))
  have f2 : E_30 1 = gE (kG D cs s0) V0 W0 SG0 1 := ((ue hE_30 (kn (a := 1) (b := 2) rfl)).trans (show E_29 1 = .inr (0, [.ref (s0 + 2), .ref (s0 + 6), .ref (s0 + 10), .int 0, .int 0, .ref (s0 + 11), .ref (s0 + 12)]) from (by rw [hE_29]; rfl)))
  have g_2 : E_30 2 = gE (kG D cs s0) V0 W0 SG0 2 := (show E_30 2 = .inl (cs 3, 3, .inr (.inr (.inr (.inr (fun i => some (s0 + gR SG0 2 i)))))) from (by rw [hE_30]; rfl))
  have g_3 : E_30 3 = gE (kG D cs s0) V0 W0 SG0 3 := ((ue hE_30 (kn (a := 3) (b := 2) rfl)).trans ((ue hE_29 (kn (a := 3) (b := 1) rfl)).trans ((p_28.1 3 (kl rfl) (kn rfl)).trans ((ue hE_26 (kn (a := 3) (b := 12) rfl)).trans ((ue hE_25 (kn (a := 3) (b := 1) rfl)).trans ((ue hE_24 (kn (a := 3) (b := 11) rfl)).trans ((ue hE_23 (kn (a := 3) (b := 1) rfl)).trans ((ue hE_22 (kn (a := 3) (b := 1) rfl)).trans ((ue hE_21 (kn (a := 3) (b := 1) rfl)).trans ((ue hE_20 (kn (a := 3) (b := 10) rfl)).trans ((ue hE_19 (kn (a := 3) (b := 1) rfl)).trans ((um hE_18 (show 3 < 6 by decide)).trans ((ue hE_17 (kn (a := 3) (b := 1) rfl)).trans ((ue hE_16 (kn (a := 3) (b := 2) rfl)).trans ((ue hE_15 (kn (a := 3) (b := 5) rfl)).trans ((ue hE_14 (kn (a := 3) (b := 5) rfl)).trans ((ue hE_13 (kn (a := 3) (b := 5) rfl)).trans ((ue hE_12 (kn (a := 3) (b := 5) rfl)).trans ((ue hE_11 (kn (a := 3) (b := 2) rfl)).trans ((ue hE_10 (kn (a := 3) (b := 4) rfl)).trans ((ue hE_9 (kn (a := 3) (b := 4) rfl)).trans ((ue hE_8 (kn (a := 3) (b := 4) rfl)).trans ((ue hE_7 (kn (a := 3) (b := 4) rfl)).trans ((ue hE_6 (kn (a := 3) (b := 2) rfl)).trans (show E_5 3 = .inl (cs 0, 3, .inl (upd ((upd ((upd (fun _ => 0) 0 10)) 1 0)) 2 0)) from (by rw [hE_5]; rfl))))))))))))))))))))))))))
  have g_4 : E_30 4 = gE (kG D cs s0) V0 W0 SG0 4 := ((ue hE_30 (kn (a := 4) (b := 2) rfl)).trans ((ue hE_29 (kn (a := 4) (b := 1) rfl)).trans ((p_28.1 4 (kl rfl) (kn rfl)).trans ((ue hE_26 (kn (a := 4) (b := 12) rfl)).trans ((ue hE_25 (kn (a := 4) (b := 1) rfl)).trans ((ue hE_24 (kn (a := 4) (b := 11) rfl)).trans ((ue hE_23 (kn (a := 4) (b := 1) rfl)).trans ((ue hE_22 (kn (a := 4) (b := 1) rfl)).trans ((ue hE_21 (kn (a := 4) (b := 1) rfl)).trans ((ue hE_20 (kn (a := 4) (b := 10) rfl)).trans ((ue hE_19 (kn (a := 4) (b := 1) rfl)).trans ((um hE_18 (show 4 < 6 by decide)).trans ((ue hE_17 (kn (a := 4) (b := 1) rfl)).trans ((ue hE_16 (kn (a := 4) (b := 2) rfl)).trans ((ue hE_15 (kn (a := 4) (b := 5) rfl)).trans ((ue hE_14 (kn (a := 4) (b := 5) rfl)).trans ((ue hE_13 (kn (a := 4) (b := 5) rfl)).trans ((ue hE_12 (kn (a := 4) (b := 5) rfl)).trans ((ue hE_11 (kn (a := 4) (b := 2) rfl)).trans (show E_10 4 = .inl (cs 0, 3, .inl (upd ((upd ((upd (fun _ => 0) 0 0)) 1 10)) 2 0)) from (by rw [hE_10]; rfl)))))))))))))))))))))
  have g_5 : E_30 5 = gE (kG D cs s0) V0 W0 SG0 5 := ((ue hE_30 (kn (a := 5) (b := 2) rfl)).trans ((ue hE_29 (kn (a := 5) (b := 1) rfl)).trans ((p_28.1 5 (kl rfl) (kn rfl)).trans ((ue hE_26 (kn (a := 5) (b := 12) rfl)).trans ((ue hE_25 (kn (a := 5) (b := 1) rfl)).trans ((ue hE_24 (kn (a := 5) (b := 11) rfl)).trans ((ue hE_23 (kn (a := 5) (b := 1) rfl)).trans ((ue hE_22 (kn (a := 5) (b := 1) rfl)).trans ((ue hE_21 (kn (a := 5) (b := 1) rfl)).trans ((ue hE_20 (kn (a := 5) (b := 10) rfl)).trans ((ue hE_19 (kn (a := 5) (b := 1) rfl)).trans ((um hE_18 (show 5 < 6 by decide)).trans ((ue hE_17 (kn (a := 5) (b := 1) rfl)).trans ((ue hE_16 (kn (a := 5) (b := 2) rfl)).trans (show E_15 5 = .inl (cs 0, 3, .inl (upd ((upd ((upd (fun _ => 0) 0 0)) 1 0)) 2 10)) from (by rw [hE_15]; rfl))))))))))))))))
  have g_6 : E_30 6 = gE (kG D cs s0) V0 W0 SG0 6 := ((ue hE_30 (kn (a := 6) (b := 2) rfl)).trans ((ue hE_29 (kn (a := 6) (b := 1) rfl)).trans ((p_28.1 6 (kl rfl) (kn rfl)).trans ((ue hE_26 (kn (a := 6) (b := 12) rfl)).trans ((ue hE_25 (kn (a := 6) (b := 1) rfl)).trans ((ue hE_24 (kn (a := 6) (b := 11) rfl)).trans ((ue hE_23 (kn (a := 6) (b := 1) rfl)).trans ((ue hE_22 (kn (a := 6) (b := 1) rfl)).trans ((ue hE_21 (kn (a := 6) (b := 1) rfl)).trans ((ue hE_20 (kn (a := 6) (b := 10) rfl)).trans ((ue hE_19 (kn (a := 6) (b := 1) rfl)).trans (show E_18 6 = .inl (cs 3, 3, .inr (.inr (.inr (.inr (fun i => some (s0 + (6 + 1 + i))))))) from (by rw [hE_18]; rfl)))))))))))))
  have g_7 : E_30 7 = gE (kG D cs s0) V0 W0 SG0 7 := ((ue hE_30 (kn (a := 7) (b := 2) rfl)).trans ((ue hE_29 (kn (a := 7) (b := 1) rfl)).trans ((p_28.1 7 (kl rfl) (kn rfl)).trans ((ue hE_26 (kn (a := 7) (b := 12) rfl)).trans ((ue hE_25 (kn (a := 7) (b := 1) rfl)).trans ((ue hE_24 (kn (a := 7) (b := 11) rfl)).trans ((ue hE_23 (kn (a := 7) (b := 1) rfl)).trans ((ue hE_22 (kn (a := 7) (b := 1) rfl)).trans ((ue hE_21 (kn (a := 7) (b := 1) rfl)).trans ((ue hE_20 (kn (a := 7) (b := 10) rfl)).trans ((ue hE_19 (kn (a := 7) (b := 1) rfl)).trans (show E_18 7 = .inl (cs 0, (6, .inl (fun _ => 0))) from (by rw [hE_18]; rfl)))))))))))))
  have g_8 : E_30 8 = gE (kG D cs s0) V0 W0 SG0 8 := ((ue hE_30 (kn (a := 8) (b := 2) rfl)).trans ((ue hE_29 (kn (a := 8) (b := 1) rfl)).trans ((p_28.1 8 (kl rfl) (kn rfl)).trans ((ue hE_26 (kn (a := 8) (b := 12) rfl)).trans ((ue hE_25 (kn (a := 8) (b := 1) rfl)).trans ((ue hE_24 (kn (a := 8) (b := 11) rfl)).trans ((ue hE_23 (kn (a := 8) (b := 1) rfl)).trans ((ue hE_22 (kn (a := 8) (b := 1) rfl)).trans ((ue hE_21 (kn (a := 8) (b := 1) rfl)).trans ((ue hE_20 (kn (a := 8) (b := 10) rfl)).trans ((ue hE_19 (kn (a := 8) (b := 1) rfl)).trans (show E_18 8 = .inl (cs 0, (6, .inl (fun _ => 0))) from (by rw [hE_18]; rfl)))))))))))))
  have g_9 : E_30 9 = gE (kG D cs s0) V0 W0 SG0 9 := ((ue hE_30 (kn (a := 9) (b := 2) rfl)).trans ((ue hE_29 (kn (a := 9) (b := 1) rfl)).trans ((p_28.1 9 (kl rfl) (kn rfl)).trans ((ue hE_26 (kn (a := 9) (b := 12) rfl)).trans ((ue hE_25 (kn (a := 9) (b := 1) rfl)).trans ((ue hE_24 (kn (a := 9) (b := 11) rfl)).trans ((ue hE_23 (kn (a := 9) (b := 1) rfl)).trans ((ue hE_22 (kn (a := 9) (b := 1) rfl)).trans ((ue hE_21 (kn (a := 9) (b := 1) rfl)).trans ((ue hE_20 (kn (a := 9) (b := 10) rfl)).trans ((ue hE_19 (kn (a := 9) (b := 1) rfl)).trans (show E_18 9 = .inl (cs 0, (6, .inl (fun _ => 0))) from (by rw [hE_18]; rfl)))))))))))))
  have g_10 : E_30 10 = gE (kG D cs s0) V0 W0 SG0 10 := ((ue hE_30 (kn (a := 10) (b := 2) rfl)).trans ((ue hE_29 (kn (a := 10) (b := 1) rfl)).trans ((p_28.1 10 (kl rfl) (kn rfl)).trans ((ue hE_26 (kn (a := 10) (b := 12) rfl)).trans ((ue hE_25 (kn (a := 10) (b := 1) rfl)).trans ((ue hE_24 (kn (a := 10) (b := 11) rfl)).trans ((ue hE_23 (kn (a := 10) (b := 1) rfl)).trans ((ue hE_22 (kn (a := 10) (b := 1) rfl)).trans ((ue hE_21 (kn (a := 10) (b := 1) rfl)).trans (show E_20 10 = .inl (cs 0, (3, .inl (fun _ => 0))) from (by rw [hE_20]; rfl)))))))))))
  have g_11 : E_30 11 = gE (kG D cs s0) V0 W0 SG0 11 := ((ue hE_30 (kn (a := 11) (b := 2) rfl)).trans ((ue hE_29 (kn (a := 11) (b := 1) rfl)).trans ((p_28.1 11 (kl rfl) (kn rfl)).trans ((ue hE_26 (kn (a := 11) (b := 12) rfl)).trans ((ue hE_25 (kn (a := 11) (b := 1) rfl)).trans (show E_24 11 = .inl (cs 0, (3, .inl (fun _ => 0))) from (by rw [hE_24]; rfl)))))))
  have g_12 : E_30 12 = gE (kG D cs s0) V0 W0 SG0 12 := ((ue hE_30 (kn (a := 12) (b := 2) rfl)).trans ((ue hE_29 (kn (a := 12) (b := 1) rfl)).trans (p_28.2.1)))
  have g_13 : E_30 13 = gE (kG D cs s0) V0 W0 SG0 13 := ((ue hE_30 (kn (a := 13) (b := 2) rfl)).trans ((ue hE_29 (kn (a := 13) (b := 1) rfl)).trans (p_28.2.2 13 (ke rfl) (kl rfl))))
  have g_14 : E_30 14 = gE (kG D cs s0) V0 W0 SG0 14 := ((ue hE_30 (kn (a := 14) (b := 2) rfl)).trans ((ue hE_29 (kn (a := 14) (b := 1) rfl)).trans (p_28.2.2 14 (ke rfl) (kl rfl))))
  have g_15 : E_30 15 = gE (kG D cs s0) V0 W0 SG0 15 := ((ue hE_30 (kn (a := 15) (b := 2) rfl)).trans ((ue hE_29 (kn (a := 15) (b := 1) rfl)).trans (p_28.2.2 15 (ke rfl) (kl rfl))))
  have g_16 : E_30 16 = gE (kG D cs s0) V0 W0 SG0 16 := ((ue hE_30 (kn (a := 16) (b := 2) rfl)).trans ((ue hE_29 (kn (a := 16) (b := 1) rfl)).trans (p_28.2.2 16 (ke rfl) (kl rfl))))
  have g_17 : E_30 17 = gE (kG D cs s0) V0 W0 SG0 17 := ((ue hE_30 (kn (a := 17) (b := 2) rfl)).trans ((ue hE_29 (kn (a := 17) (b := 1) rfl)).trans (p_28.2.2 17 (ke rfl) (kl rfl))))
  have t_2 : ∀ k, 2 ≤ k → k < 2 → E_30 k = gE (kG D cs s0) V0 W0 SG0 k := fun k h1 h2 => absurd h2 (by omega)
  have t_3 : ∀ k, 2 ≤ k → k < 3 → E_30 k = gE (kG D cs s0) V0 W0 SG0 k := k_upto (b := 2) t_2 g_2
  have t_4 : ∀ k, 2 ≤ k → k < 4 → E_30 k = gE (kG D cs s0) V0 W0 SG0 k := k_upto (b := 3) t_3 g_3
  have t_5 : ∀ k, 2 ≤ k → k < 5 → E_30 k = gE (kG D cs s0) V0 W0 SG0 k := k_upto (b := 4) t_4 g_4
  have t_6 : ∀ k, 2 ≤ k → k < 6 → E_30 k = gE (kG D cs s0) V0 W0 SG0 k := k_upto (b := 5) t_5 g_5
  have t_7 : ∀ k, 2 ≤ k → k < 7 → E_30 k = gE (kG D cs s0) V0 W0 SG0 k := k_upto (b := 6) t_6 g_6
  have t_8 : ∀ k, 2 ≤ k → k < 8 → E_30 k = gE (kG D cs s0) V0 W0 SG0 k := k_upto (b := 7) t_7 g_7
  have t_9 : ∀ k, 2 ≤ k → k < 9 → E_30 k = gE (kG D cs s0) V0 W0 SG0 k := k_upto (b := 8) t_8 g_8
  have t_10 : ∀ k, 2 ≤ k → k < 10 → E_30 k = gE (kG D cs s0) V0 W0 SG0 k := k_upto (b := 9) t_9 g_9
  have t_11 : ∀ k, 2 ≤ k → k < 11 → E_30 k = gE (kG D cs s0) V0 W0 SG0 k := k_upto (b := 10) t_10 g_10
  have t_12 : ∀ k, 2 ≤ k → k < 12 → E_30 k = gE (kG D cs s0) V0 W0 SG0 k := k_upto (b := 11) t_11 g_11
  have t_13 : ∀ k, 2 ≤ k → k < 13 → E_30 k = gE (kG D cs s0) V0 W0 SG0 k := k_upto (b := 12) t_12 g_12
  have t_14 : ∀ k, 2 ≤ k → k < 14 → E_30 k = gE (kG D cs s0) V0 W0 SG0 k := k_upto (b := 13) t_13 g_13
  have t_15 : ∀ k, 2 ≤ k → k < 15 → E_30 k = gE (kG D cs s0) V0 W0 SG0 k := k_upto (b := 14) t_14 g_14
  have t_16 : ∀ k, 2 ≤ k → k < 16 → E_30 k = gE (kG D cs s0) V0 W0 SG0 k := k_upto (b := 15) t_15 g_15
  have t_17 : ∀ k, 2 ≤ k → k < 17 → E_30 k = gE (kG D cs s0) V0 W0 SG0 k := k_upto (b := 16) t_16 g_16
  have t_18 : ∀ k, 2 ≤ k → k < 18 → E_30 k = gE (kG D cs s0) V0 W0 SG0 k := k_upto (b := 17) t_17 g_17
  have f3 := t_18
  exact k_vret C hlk hr h dX0_init_115 ⟨f1, f2, f3⟩

set_option maxHeartbeats 4000000 in
set_option maxRecDepth 100000 in
theorem c_X4_init_45 (l : Launch) (D : va_G) (cs : Nat → ClassId) (s0 : Nat) (E : Nat → va_E) (ho : E 45 = .inr (4, [.null, .null])) : Met l yX4_init wsX4_init ({ frames := 1, cells := 5, slots := 15, locals := 20 }) (kPre D cs s0 46 E [.ref (s0 + 45)]) (kQ D s0 51 (kP D cs s0 46 51 45 E)) 5 15 (fun q => s0 ≤ q) := by
  refine kM_of (cc := cX4_init) (maxL := 1) (by decide) rfl (Nat.le_of_ble_eq_true rfl) ?_
  intro p e R s m args below meth c ls C hR hlk hr hin2 h hl
  have hx := C.1.1
  have hb := C.1.2.1
  have hml := C.1.2.2.1
  have hown := C.1.2.2.2.1
  have hts := C.1.2.2.2.2
  have hl : lv_has ls 1 [(0, .ref (s0 + 45))] := hl
  have hi4 : ∀ x ∈ u_ws RX4 TX4 2, x ∈ wsX4_init := fun x q => List.mem_cons_of_mem _ (List.mem_append_right _ q)
  refine lv_aload_n hx hb dX4_init_0 rfl (lv_at hl 0 rfl) ?_
  refine W.objInit hx hb hown (hts (.methodLink RX4 3 objectInit) (List.mem_of_getElem? (i := 1) rfl)) (hts (.instanceMethod objectInit) (List.mem_of_getElem? (i := 2) rfl)) (hts (.code objectInit ⟨#[0xb1]⟩ 1 none) (List.mem_of_getElem? (i := 3) rfl)) rfl (by rw [hml]; exact hl.1) rfl dX4_init_1 (by rw [hR]; exact Nat.le_of_ble_eq_true rfl) (by rw [hR]; exact Nat.le_of_ble_eq_true rfl) ?_
  refine W.eq (g2 := F0 m 4 ls []) rfl ?_
  refine lv_aload_n hx hb dX4_init_4 rfl (lv_at hl 0 rfl) ?_
  refine lv_iconst (v := 3) hx hb dX4_init_5 (by decide) ?_
  refine lv_iconst (v := 3) hx hb dX4_init_6 (by decide) ?_
  refine k_mna (ty := .long) (z := (3, .inr (.inl (fun _ => 0)))) (N := 3) (K := 3) (a := 3) (b := 3) C h (List.mem_of_getElem? (i := 4) rfl) C.2.1.2.1.2 (List.mem_of_getElem? (i := 5) rfl) 4 1 rfl rfl (fun _ _ h => h) (by decide) (by decide) (by decide) (by decide) (by decide) (by decide) (by decide) rfl rfl (by rw [hR]; exact Nat.le_of_ble_eq_true rfl) (by rw [hR]; exact Nat.le_of_ble_eq_true rfl) (fun _ => by rw [vp_cell_l, ← arrV_new]; rfl) dX4_init_7 (fun H h => ?_)
  obtain ⟨E_1, hE_1⟩ : ∃ z, z = kM s0 E 46 3 (cs 4) (cs 1) (3, .inr (.inl (fun _ => 0))) := ⟨_, rfl⟩
  have h : kS D s s0 50 E_1 H [] := by rw [hE_1]; exact h
  refine k_put (ci := 4) (x := .ref (s0 + 46)) (ty := tyX4 0) (fs := [.null, .null]) C hin2 h 45 (by decide) ((um hE_1 (show 45 < 46 by decide)).trans ho) rfl hi4 tyX4 tyX4_ok nmX4 0 (by decide) (index := 11) (List.mem_of_getElem? (i := 6) rfl) rfl rfl (by decide +kernel) rfl rfl (Nat.le_of_ble_eq_true rfl) dX4_init_11 (fun H locs h => ?_)
  obtain ⟨E_2, hE_2⟩ : ∃ z, z = va_up E_1 45 (.inr (4, [.ref (s0 + 46), .null])) := ⟨_, rfl⟩
  have h : kS D s s0 50 E_2 H locs := by rw [hE_2]; exact h
  refine lv_aload_n hx hb dX4_init_14 rfl (lv_at hl 0 rfl) ?_
  refine lv_iconst (v := 3) hx hb dX4_init_15 (by decide) ?_
  refine k_newa (atype := .long) (ty := .long) (a0 := (3, .inr (.inl (fun _ => 0)))) (N' := 3) (k := 3) C h (List.mem_of_getElem? (i := 5) rfl) rfl 1 rfl ra_l (fun _ => rfl) (by decide) (by decide) (by decide) (by rw [hR]; exact Nat.le_of_ble_eq_true rfl) (by rw [hR]; exact Nat.le_of_ble_eq_true rfl) dX4_init_16 (fun H h => ?_)
  obtain ⟨E_3, hE_3⟩ : ∃ z, z = va_up E_2 50 (.inl (cs 1, (3, .inr (.inl (fun _ => 0))))) := ⟨_, rfl⟩
  have h : kS D s s0 51 E_3 H locs := by rw [hE_3]; exact h
  refine k_put (ci := 4) (x := .ref (s0 + 50)) (ty := tyX4 1) (fs := [.ref (s0 + 46), .null]) C hin2 h 45 (by decide) ((ue hE_3 (kn (a := 45) (b := 50) rfl)).trans (show E_2 45 = .inr (4, [.ref (s0 + 46), .null]) from (by rw [hE_2]; rfl))) rfl hi4 tyX4 tyX4_ok nmX4 1 (by decide) (index := 16) (List.mem_of_getElem? (i := 7) rfl) rfl rfl (by decide +kernel) rfl rfl (Nat.le_of_ble_eq_true rfl) dX4_init_18 (fun H locs h => ?_)
  obtain ⟨E_4, hE_4⟩ : ∃ z, z = va_up E_3 45 (.inr (4, [.ref (s0 + 46), .ref (s0 + 50)])) := ⟨_, rfl⟩
  have h : kS D s s0 51 E_4 H locs := by rw [hE_4]; exact h
  have f1 : ∀ k, k < 46 → k ≠ 45 → E_4 k = E k := fun k h1 h2 => ((ue hE_4 (by omega)).trans ((ue hE_3 (by omega)).trans ((ue hE_2 (by omega)).trans ((um hE_1 (by omega)).trans rfl))))
  have f2 : E_4 45 = gE (kG D cs s0) V0 W0 SG0 45 := (show E_4 45 = .inr (4, [.ref (s0 + 46), .ref (s0 + 50)]) from (by rw [hE_4]; rfl))
  have g_46 : E_4 46 = gE (kG D cs s0) V0 W0 SG0 46 := ((ue hE_4 (kn (a := 46) (b := 45) rfl)).trans ((ue hE_3 (kn (a := 46) (b := 50) rfl)).trans ((ue hE_2 (kn (a := 46) (b := 45) rfl)).trans (show E_1 46 = .inl (cs 4, 3, .inr (.inr (.inr (.inr (fun i => some (s0 + (46 + 1 + i))))))) from (by rw [hE_1]; rfl)))))
  have g_47 : E_4 47 = gE (kG D cs s0) V0 W0 SG0 47 := ((ue hE_4 (kn (a := 47) (b := 45) rfl)).trans ((ue hE_3 (kn (a := 47) (b := 50) rfl)).trans ((ue hE_2 (kn (a := 47) (b := 45) rfl)).trans (show E_1 47 = .inl (cs 1, (3, .inr (.inl (fun _ => 0)))) from (by rw [hE_1]; rfl)))))
  have g_48 : E_4 48 = gE (kG D cs s0) V0 W0 SG0 48 := ((ue hE_4 (kn (a := 48) (b := 45) rfl)).trans ((ue hE_3 (kn (a := 48) (b := 50) rfl)).trans ((ue hE_2 (kn (a := 48) (b := 45) rfl)).trans (show E_1 48 = .inl (cs 1, (3, .inr (.inl (fun _ => 0)))) from (by rw [hE_1]; rfl)))))
  have g_49 : E_4 49 = gE (kG D cs s0) V0 W0 SG0 49 := ((ue hE_4 (kn (a := 49) (b := 45) rfl)).trans ((ue hE_3 (kn (a := 49) (b := 50) rfl)).trans ((ue hE_2 (kn (a := 49) (b := 45) rfl)).trans (show E_1 49 = .inl (cs 1, (3, .inr (.inl (fun _ => 0)))) from (by rw [hE_1]; rfl)))))
  have g_50 : E_4 50 = gE (kG D cs s0) V0 W0 SG0 50 := ((ue hE_4 (kn (a := 50) (b := 45) rfl)).trans (show E_3 50 = .inl (cs 1, (3, .inr (.inl (fun _ => 0)))) from (by rw [hE_3]; rfl)))
  have t_46 : ∀ k, 46 ≤ k → k < 46 → E_4 k = gE (kG D cs s0) V0 W0 SG0 k := fun k h1 h2 => absurd h2 (by omega)
  have t_47 : ∀ k, 46 ≤ k → k < 47 → E_4 k = gE (kG D cs s0) V0 W0 SG0 k := k_upto (b := 46) t_46 g_46
  have t_48 : ∀ k, 46 ≤ k → k < 48 → E_4 k = gE (kG D cs s0) V0 W0 SG0 k := k_upto (b := 47) t_47 g_47
  have t_49 : ∀ k, 46 ≤ k → k < 49 → E_4 k = gE (kG D cs s0) V0 W0 SG0 k := k_upto (b := 48) t_48 g_48
  have t_50 : ∀ k, 46 ≤ k → k < 50 → E_4 k = gE (kG D cs s0) V0 W0 SG0 k := k_upto (b := 49) t_49 g_49
  have t_51 : ∀ k, 46 ≤ k → k < 51 → E_4 k = gE (kG D cs s0) V0 W0 SG0 k := k_upto (b := 50) t_50 g_50
  have f3 := t_51
  exact k_vret C hlk hr h dX4_init_21 ⟨f1, f2, f3⟩

set_option maxHeartbeats 4000000 in
set_option maxRecDepth 100000 in
theorem c_X1_init_18 (l : Launch) (D : va_G) (cs : Nat → ClassId) (s0 : Nat) (E : Nat → va_E) (ho : E 18 = .inr (1, [.null, .null, .int 0, .null])) : Met l yX1_init wsX1_init ({ frames := 2, cells := 32, slots := 113, locals := 40 }) (kPre D cs s0 19 E [.ref (s0 + 18)]) (kQ D s0 51 (kP D cs s0 19 51 18 E)) 32 113 (fun q => s0 ≤ q) := by
  refine kM_of (cc := cX1_init) (maxL := 1) (by decide) rfl (Nat.le_of_ble_eq_true rfl) ?_
  intro p e R s m args below meth c ls C hR hlk hr hin2 h hl
  have hx := C.1.1
  have hb := C.1.2.1
  have hml := C.1.2.2.1
  have hown := C.1.2.2.2.1
  have hts := C.1.2.2.2.2
  have hl : lv_has ls 1 [(0, .ref (s0 + 18))] := hl
  have hi1 : ∀ x ∈ u_ws RX1 TX1 4, x ∈ wsX1_init := fun x q => List.mem_cons_of_mem _ (List.mem_append_left _ (List.mem_append_right _ q))
  have hi4 : ∀ x ∈ u_ws RX4 TX4 2, x ∈ wsX1_init := fun x q => List.mem_cons_of_mem _ (List.mem_append_right _ q)
  refine lv_aload_n hx hb dX1_init_0 rfl (lv_at hl 0 rfl) ?_
  refine W.objInit hx hb hown (hts (.methodLink RX1 3 objectInit) (List.mem_of_getElem? (i := 1) rfl)) (hts (.instanceMethod objectInit) (List.mem_of_getElem? (i := 2) rfl)) (hts (.code objectInit ⟨#[0xb1]⟩ 1 none) (List.mem_of_getElem? (i := 3) rfl)) rfl (by rw [hml]; exact hl.1) rfl dX1_init_1 (by rw [hR]; exact Nat.le_of_ble_eq_true rfl) (by rw [hR]; exact Nat.le_of_ble_eq_true rfl) ?_
  refine W.eq (g2 := F0 m 4 ls []) rfl ?_
  refine lv_aload_n hx hb dX1_init_4 rfl (lv_at hl 0 rfl) ?_
  refine lv_bipush (v := 12) hx hb dX1_init_5 (by decide) ?_
  refine lv_iconst (v := 3) hx hb dX1_init_7 (by decide) ?_
  refine k_mna (ty := .int) (z := (3, .inl (fun _ => 0))) (N := 12) (K := 3) (a := 12) (b := 3) C h (List.mem_of_getElem? (i := 4) rfl) C.2.1.2.1.1 (List.mem_of_getElem? (i := 5) rfl) 3 0 rfl rfl (fun _ _ h => h) (by decide) (by decide) (by decide) (by decide) (by decide) (by decide) (by decide) rfl rfl (by rw [hR]; exact Nat.le_of_ble_eq_true rfl) (by rw [hR]; exact Nat.le_of_ble_eq_true rfl) (fun _ => by rw [vp_cell_i, ← arrV_new]; rfl) dX1_init_8 (fun H h => ?_)
  obtain ⟨E_1, hE_1⟩ : ∃ z, z = kM s0 E 19 12 (cs 3) (cs 0) (3, .inl (fun _ => 0)) := ⟨_, rfl⟩
  have h : kS D s s0 32 E_1 H [] := by rw [hE_1]; exact h
  refine k_put (ci := 1) (x := .ref (s0 + 19)) (ty := tyX1 0) (fs := [.null, .null, .int 0, .null]) C hin2 h 18 (by decide) ((um hE_1 (show 18 < 19 by decide)).trans ho) rfl hi1 tyX1 tyX1_ok nmX1 0 (by decide) (index := 13) (List.mem_of_getElem? (i := 6) rfl) rfl rfl (by decide +kernel) rfl rfl (Nat.le_of_ble_eq_true rfl) dX1_init_12 (fun H locs h => ?_)
  obtain ⟨E_2, hE_2⟩ : ∃ z, z = va_up E_1 18 (.inr (1, [.ref (s0 + 19), .null, .int 0, .null])) := ⟨_, rfl⟩
  have h : kS D s s0 32 E_2 H locs := by rw [hE_2]; exact h
  refine lv_aload_n hx hb dX1_init_15 rfl (lv_at hl 0 rfl) ?_
  refine lv_bipush (v := 12) hx hb dX1_init_16 (by decide) ?_
  refine lv_iconst (v := 3) hx hb dX1_init_18 (by decide) ?_
  refine k_mna (ty := .int) (z := (3, .inl (fun _ => 0))) (N := 12) (K := 3) (a := 12) (b := 3) C h (List.mem_of_getElem? (i := 4) rfl) C.2.1.2.1.1 (List.mem_of_getElem? (i := 5) rfl) 3 0 rfl rfl (fun _ _ h => h) (by decide) (by decide) (by decide) (by decide) (by decide) (by decide) (by decide) rfl rfl (by rw [hR]; exact Nat.le_of_ble_eq_true rfl) (by rw [hR]; exact Nat.le_of_ble_eq_true rfl) (fun _ => by rw [vp_cell_i, ← arrV_new]; rfl) dX1_init_19 (fun H h => ?_)
  obtain ⟨E_3, hE_3⟩ : ∃ z, z = kM s0 E_2 32 12 (cs 3) (cs 0) (3, .inl (fun _ => 0)) := ⟨_, rfl⟩
  have h : kS D s s0 45 E_3 H locs := by rw [hE_3]; exact h
  refine k_put (ci := 1) (x := .ref (s0 + 32)) (ty := tyX1 1) (fs := [.ref (s0 + 19), .null, .int 0, .null]) C hin2 h 18 (by decide) ((um hE_3 (show 18 < 32 by decide)).trans (show E_2 18 = .inr (1, [.ref (s0 + 19), .null, .int 0, .null]) from (by rw [hE_2]; rfl))) rfl hi1 tyX1 tyX1_ok nmX1 1 (by decide) (index := 16) (List.mem_of_getElem? (i := 7) rfl) rfl rfl (by decide +kernel) rfl rfl (Nat.le_of_ble_eq_true rfl) dX1_init_23 (fun H locs h => ?_)
  obtain ⟨E_4, hE_4⟩ : ∃ z, z = va_up E_3 18 (.inr (1, [.ref (s0 + 19), .ref (s0 + 32), .int 0, .null])) := ⟨_, rfl⟩
  have h : kS D s s0 45 E_4 H locs := by rw [hE_4]; exact h
  refine lv_aload_n hx hb dX1_init_26 rfl (lv_at hl 0 rfl) ?_
  refine lv_iconst (v := 0) hx hb dX1_init_27 (by decide) ?_
  refine k_put (ci := 1) (x := .int 0) (ty := .int) (fs := [.ref (s0 + 19), .ref (s0 + 32), .int 0, .null]) C hin2 h 18 (by decide) (show E_4 18 = .inr (1, [.ref (s0 + 19), .ref (s0 + 32), .int 0, .null]) from (by rw [hE_4]; rfl)) rfl hi1 tyX1 tyX1_ok nmX1 2 (by decide) (index := 19) (List.mem_of_getElem? (i := 8) rfl) rfl rfl (by decide +kernel) rfl rfl (Nat.le_of_ble_eq_true rfl) dX1_init_28 (fun H locs h => ?_)
  obtain ⟨E_5, hE_5⟩ : ∃ z, z = va_up E_4 18 (.inr (1, [.ref (s0 + 19), .ref (s0 + 32), .int 0, .null])) := ⟨_, rfl⟩
  have h : kS D s s0 45 E_5 H locs := by rw [hE_5]; exact h
  refine lv_aload_n hx hb dX1_init_31 rfl (lv_at hl 0 rfl) ?_
  refine k_new (ci := 4) (fs := [.null, .null]) C h hi4 tyX4 tyX4_ok (List.mem_of_getElem? (i := 9) rfl) (List.mem_of_getElem? (i := 10) rfl) (List.mem_of_getElem? (i := 11) rfl) rfl (fun j hj => by rcases (show j = 0 ∨ j = 1 by omega) with rfl | rfl <;> rfl) (by rw [hR]; exact Nat.le_of_ble_eq_true rfl) (by rw [hR]; exact Nat.le_of_ble_eq_true rfl) dX1_init_32 (fun H h => ?_)
  obtain ⟨E_6, hE_6⟩ : ∃ z, z = va_up E_5 45 (.inr (4, [.null, .null])) := ⟨_, rfl⟩
  have h : kS D s s0 46 E_6 H locs := by rw [hE_6]; exact h
  refine lv_dup hx hb dX1_init_35 rfl ?_
  refine k_callv C (va_runIN (As := []) (rest := [.ref (s0 + 45), .ref (s0 + 18)]) C.1 (c_X4_init_45 l D cs s0 E_6 (show E_6 45 = .inr (4, [.null, .null]) from (by rw [hE_6]; rfl))) ⟨va_cnB 0 hts ggX1_init_X4_init rfl rfl rfl (C.2.1.2.2.2 (RX1, 25, yX4_init) (List.mem_of_getElem? (i := 3) rfl)) (hts (.initialized RX4) (List.mem_of_getElem? (i := 11) rfl)) (by decide +kernel) ⟨by rw [hR]; exact Nat.le_of_ble_eq_true rfl, by rw [hR]; exact Nat.le_of_ble_eq_true rfl⟩, rfl, hts (.instanceMethod yX4_init) (List.mem_of_getElem? (i := 13) rfl)⟩ ⟨kPre_blind, kS_pre C h _⟩ rfl rfl hl.1 rfl (lv_room (Nat.le_of_ble_eq_true rfl)) dX1_init_36 ⟨(by rw [hR]; exact Nat.le_of_ble_eq_true rfl), (by rw [hR]; exact Nat.le_of_ble_eq_true rfl)⟩) h (fun E_7 H locs p_8 h => ?_)
  refine k_put (ci := 1) (x := .ref (s0 + 45)) (ty := tyX1 3) (fs := [.ref (s0 + 19), .ref (s0 + 32), .int 0, .null]) C hin2 h 18 (by decide) ((p_8.1 18 (kl rfl) (kn rfl)).trans ((ue hE_6 (kn (a := 18) (b := 45) rfl)).trans (show E_5 18 = .inr (1, [.ref (s0 + 19), .ref (s0 + 32), .int 0, .null]) from (by rw [hE_5]; rfl)))) rfl hi1 tyX1 tyX1_ok nmX1 3 (by decide) (index := 26) (List.mem_of_getElem? (i := 12) rfl) rfl rfl (by decide +kernel) rfl rfl (Nat.le_of_ble_eq_true rfl) dX1_init_39 (fun H locs h => ?_)
  obtain ⟨E_9, hE_9⟩ : ∃ z, z = va_up E_7 18 (.inr (1, [.ref (s0 + 19), .ref (s0 + 32), .int 0, .ref (s0 + 45)])) := ⟨_, rfl⟩
  have h : kS D s s0 51 E_9 H locs := by rw [hE_9]; exact h
  have f1 : ∀ k, k < 19 → k ≠ 18 → E_9 k = E k := fun k h1 h2 => ((ue hE_9 (by omega)).trans ((p_8.1 _ (by omega) (by omega)).trans ((ue hE_6 (by omega)).trans ((ue hE_5 (by omega)).trans ((ue hE_4 (by omega)).trans ((um hE_3 (by omega)).trans ((ue hE_2 (by omega)).trans ((um hE_1 (by omega)).trans rfl))))))))
  have f2 : E_9 18 = gE (kG D cs s0) V0 W0 SG0 18 := (show E_9 18 = .inr (1, [.ref (s0 + 19), .ref (s0 + 32), .int 0, .ref (s0 + 45)]) from (by rw [hE_9]; rfl))
  have g_19 : E_9 19 = gE (kG D cs s0) V0 W0 SG0 19 := ((ue hE_9 (kn (a := 19) (b := 18) rfl)).trans ((p_8.1 19 (kl rfl) (kn rfl)).trans ((ue hE_6 (kn (a := 19) (b := 45) rfl)).trans ((ue hE_5 (kn (a := 19) (b := 18) rfl)).trans ((ue hE_4 (kn (a := 19) (b := 18) rfl)).trans ((um hE_3 (show 19 < 32 by decide)).trans ((ue hE_2 (kn (a := 19) (b := 18) rfl)).trans (show E_1 19 = .inl (cs 3, 12, .inr (.inr (.inr (.inr (fun i => some (s0 + (19 + 1 + i))))))) from (by rw [hE_1]; rfl)))))))))
  have g_20 : E_9 20 = gE (kG D cs s0) V0 W0 SG0 20 := ((ue hE_9 (kn (a := 20) (b := 18) rfl)).trans ((p_8.1 20 (kl rfl) (kn rfl)).trans ((ue hE_6 (kn (a := 20) (b := 45) rfl)).trans ((ue hE_5 (kn (a := 20) (b := 18) rfl)).trans ((ue hE_4 (kn (a := 20) (b := 18) rfl)).trans ((um hE_3 (show 20 < 32 by decide)).trans ((ue hE_2 (kn (a := 20) (b := 18) rfl)).trans (show E_1 20 = .inl (cs 0, (3, .inl (fun _ => 0))) from (by rw [hE_1]; rfl)))))))))
  have g_21 : E_9 21 = gE (kG D cs s0) V0 W0 SG0 21 := ((ue hE_9 (kn (a := 21) (b := 18) rfl)).trans ((p_8.1 21 (kl rfl) (kn rfl)).trans ((ue hE_6 (kn (a := 21) (b := 45) rfl)).trans ((ue hE_5 (kn (a := 21) (b := 18) rfl)).trans ((ue hE_4 (kn (a := 21) (b := 18) rfl)).trans ((um hE_3 (show 21 < 32 by decide)).trans ((ue hE_2 (kn (a := 21) (b := 18) rfl)).trans (show E_1 21 = .inl (cs 0, (3, .inl (fun _ => 0))) from (by rw [hE_1]; rfl)))))))))
  have g_22 : E_9 22 = gE (kG D cs s0) V0 W0 SG0 22 := ((ue hE_9 (kn (a := 22) (b := 18) rfl)).trans ((p_8.1 22 (kl rfl) (kn rfl)).trans ((ue hE_6 (kn (a := 22) (b := 45) rfl)).trans ((ue hE_5 (kn (a := 22) (b := 18) rfl)).trans ((ue hE_4 (kn (a := 22) (b := 18) rfl)).trans ((um hE_3 (show 22 < 32 by decide)).trans ((ue hE_2 (kn (a := 22) (b := 18) rfl)).trans (show E_1 22 = .inl (cs 0, (3, .inl (fun _ => 0))) from (by rw [hE_1]; rfl)))))))))
  have g_23 : E_9 23 = gE (kG D cs s0) V0 W0 SG0 23 := ((ue hE_9 (kn (a := 23) (b := 18) rfl)).trans ((p_8.1 23 (kl rfl) (kn rfl)).trans ((ue hE_6 (kn (a := 23) (b := 45) rfl)).trans ((ue hE_5 (kn (a := 23) (b := 18) rfl)).trans ((ue hE_4 (kn (a := 23) (b := 18) rfl)).trans ((um hE_3 (show 23 < 32 by decide)).trans ((ue hE_2 (kn (a := 23) (b := 18) rfl)).trans (show E_1 23 = .inl (cs 0, (3, .inl (fun _ => 0))) from (by rw [hE_1]; rfl)))))))))
  have g_24 : E_9 24 = gE (kG D cs s0) V0 W0 SG0 24 := ((ue hE_9 (kn (a := 24) (b := 18) rfl)).trans ((p_8.1 24 (kl rfl) (kn rfl)).trans ((ue hE_6 (kn (a := 24) (b := 45) rfl)).trans ((ue hE_5 (kn (a := 24) (b := 18) rfl)).trans ((ue hE_4 (kn (a := 24) (b := 18) rfl)).trans ((um hE_3 (show 24 < 32 by decide)).trans ((ue hE_2 (kn (a := 24) (b := 18) rfl)).trans (show E_1 24 = .inl (cs 0, (3, .inl (fun _ => 0))) from (by rw [hE_1]; rfl)))))))))
  have g_25 : E_9 25 = gE (kG D cs s0) V0 W0 SG0 25 := ((ue hE_9 (kn (a := 25) (b := 18) rfl)).trans ((p_8.1 25 (kl rfl) (kn rfl)).trans ((ue hE_6 (kn (a := 25) (b := 45) rfl)).trans ((ue hE_5 (kn (a := 25) (b := 18) rfl)).trans ((ue hE_4 (kn (a := 25) (b := 18) rfl)).trans ((um hE_3 (show 25 < 32 by decide)).trans ((ue hE_2 (kn (a := 25) (b := 18) rfl)).trans (show E_1 25 = .inl (cs 0, (3, .inl (fun _ => 0))) from (by rw [hE_1]; rfl)))))))))
  have g_26 : E_9 26 = gE (kG D cs s0) V0 W0 SG0 26 := ((ue hE_9 (kn (a := 26) (b := 18) rfl)).trans ((p_8.1 26 (kl rfl) (kn rfl)).trans ((ue hE_6 (kn (a := 26) (b := 45) rfl)).trans ((ue hE_5 (kn (a := 26) (b := 18) rfl)).trans ((ue hE_4 (kn (a := 26) (b := 18) rfl)).trans ((um hE_3 (show 26 < 32 by decide)).trans ((ue hE_2 (kn (a := 26) (b := 18) rfl)).trans (show E_1 26 = .inl (cs 0, (3, .inl (fun _ => 0))) from (by rw [hE_1]; rfl)))))))))
  have g_27 : E_9 27 = gE (kG D cs s0) V0 W0 SG0 27 := ((ue hE_9 (kn (a := 27) (b := 18) rfl)).trans ((p_8.1 27 (kl rfl) (kn rfl)).trans ((ue hE_6 (kn (a := 27) (b := 45) rfl)).trans ((ue hE_5 (kn (a := 27) (b := 18) rfl)).trans ((ue hE_4 (kn (a := 27) (b := 18) rfl)).trans ((um hE_3 (show 27 < 32 by decide)).trans ((ue hE_2 (kn (a := 27) (b := 18) rfl)).trans (show E_1 27 = .inl (cs 0, (3, .inl (fun _ => 0))) from (by rw [hE_1]; rfl)))))))))
  have g_28 : E_9 28 = gE (kG D cs s0) V0 W0 SG0 28 := ((ue hE_9 (kn (a := 28) (b := 18) rfl)).trans ((p_8.1 28 (kl rfl) (kn rfl)).trans ((ue hE_6 (kn (a := 28) (b := 45) rfl)).trans ((ue hE_5 (kn (a := 28) (b := 18) rfl)).trans ((ue hE_4 (kn (a := 28) (b := 18) rfl)).trans ((um hE_3 (show 28 < 32 by decide)).trans ((ue hE_2 (kn (a := 28) (b := 18) rfl)).trans (show E_1 28 = .inl (cs 0, (3, .inl (fun _ => 0))) from (by rw [hE_1]; rfl)))))))))
  have g_29 : E_9 29 = gE (kG D cs s0) V0 W0 SG0 29 := ((ue hE_9 (kn (a := 29) (b := 18) rfl)).trans ((p_8.1 29 (kl rfl) (kn rfl)).trans ((ue hE_6 (kn (a := 29) (b := 45) rfl)).trans ((ue hE_5 (kn (a := 29) (b := 18) rfl)).trans ((ue hE_4 (kn (a := 29) (b := 18) rfl)).trans ((um hE_3 (show 29 < 32 by decide)).trans ((ue hE_2 (kn (a := 29) (b := 18) rfl)).trans (show E_1 29 = .inl (cs 0, (3, .inl (fun _ => 0))) from (by rw [hE_1]; rfl)))))))))
  have g_30 : E_9 30 = gE (kG D cs s0) V0 W0 SG0 30 := ((ue hE_9 (kn (a := 30) (b := 18) rfl)).trans ((p_8.1 30 (kl rfl) (kn rfl)).trans ((ue hE_6 (kn (a := 30) (b := 45) rfl)).trans ((ue hE_5 (kn (a := 30) (b := 18) rfl)).trans ((ue hE_4 (kn (a := 30) (b := 18) rfl)).trans ((um hE_3 (show 30 < 32 by decide)).trans ((ue hE_2 (kn (a := 30) (b := 18) rfl)).trans (show E_1 30 = .inl (cs 0, (3, .inl (fun _ => 0))) from (by rw [hE_1]; rfl)))))))))
  have g_31 : E_9 31 = gE (kG D cs s0) V0 W0 SG0 31 := ((ue hE_9 (kn (a := 31) (b := 18) rfl)).trans ((p_8.1 31 (kl rfl) (kn rfl)).trans ((ue hE_6 (kn (a := 31) (b := 45) rfl)).trans ((ue hE_5 (kn (a := 31) (b := 18) rfl)).trans ((ue hE_4 (kn (a := 31) (b := 18) rfl)).trans ((um hE_3 (show 31 < 32 by decide)).trans ((ue hE_2 (kn (a := 31) (b := 18) rfl)).trans (show E_1 31 = .inl (cs 0, (3, .inl (fun _ => 0))) from (by rw [hE_1]; rfl)))))))))
  have g_32 : E_9 32 = gE (kG D cs s0) V0 W0 SG0 32 := ((ue hE_9 (kn (a := 32) (b := 18) rfl)).trans ((p_8.1 32 (kl rfl) (kn rfl)).trans ((ue hE_6 (kn (a := 32) (b := 45) rfl)).trans ((ue hE_5 (kn (a := 32) (b := 18) rfl)).trans ((ue hE_4 (kn (a := 32) (b := 18) rfl)).trans (show E_3 32 = .inl (cs 3, 12, .inr (.inr (.inr (.inr (fun i => some (s0 + (32 + 1 + i))))))) from (by rw [hE_3]; rfl)))))))
  have g_33 : E_9 33 = gE (kG D cs s0) V0 W0 SG0 33 := ((ue hE_9 (kn (a := 33) (b := 18) rfl)).trans ((p_8.1 33 (kl rfl) (kn rfl)).trans ((ue hE_6 (kn (a := 33) (b := 45) rfl)).trans ((ue hE_5 (kn (a := 33) (b := 18) rfl)).trans ((ue hE_4 (kn (a := 33) (b := 18) rfl)).trans (show E_3 33 = .inl (cs 0, (3, .inl (fun _ => 0))) from (by rw [hE_3]; rfl)))))))
  have g_34 : E_9 34 = gE (kG D cs s0) V0 W0 SG0 34 := ((ue hE_9 (kn (a := 34) (b := 18) rfl)).trans ((p_8.1 34 (kl rfl) (kn rfl)).trans ((ue hE_6 (kn (a := 34) (b := 45) rfl)).trans ((ue hE_5 (kn (a := 34) (b := 18) rfl)).trans ((ue hE_4 (kn (a := 34) (b := 18) rfl)).trans (show E_3 34 = .inl (cs 0, (3, .inl (fun _ => 0))) from (by rw [hE_3]; rfl)))))))
  have g_35 : E_9 35 = gE (kG D cs s0) V0 W0 SG0 35 := ((ue hE_9 (kn (a := 35) (b := 18) rfl)).trans ((p_8.1 35 (kl rfl) (kn rfl)).trans ((ue hE_6 (kn (a := 35) (b := 45) rfl)).trans ((ue hE_5 (kn (a := 35) (b := 18) rfl)).trans ((ue hE_4 (kn (a := 35) (b := 18) rfl)).trans (show E_3 35 = .inl (cs 0, (3, .inl (fun _ => 0))) from (by rw [hE_3]; rfl)))))))
  have g_36 : E_9 36 = gE (kG D cs s0) V0 W0 SG0 36 := ((ue hE_9 (kn (a := 36) (b := 18) rfl)).trans ((p_8.1 36 (kl rfl) (kn rfl)).trans ((ue hE_6 (kn (a := 36) (b := 45) rfl)).trans ((ue hE_5 (kn (a := 36) (b := 18) rfl)).trans ((ue hE_4 (kn (a := 36) (b := 18) rfl)).trans (show E_3 36 = .inl (cs 0, (3, .inl (fun _ => 0))) from (by rw [hE_3]; rfl)))))))
  have g_37 : E_9 37 = gE (kG D cs s0) V0 W0 SG0 37 := ((ue hE_9 (kn (a := 37) (b := 18) rfl)).trans ((p_8.1 37 (kl rfl) (kn rfl)).trans ((ue hE_6 (kn (a := 37) (b := 45) rfl)).trans ((ue hE_5 (kn (a := 37) (b := 18) rfl)).trans ((ue hE_4 (kn (a := 37) (b := 18) rfl)).trans (show E_3 37 = .inl (cs 0, (3, .inl (fun _ => 0))) from (by rw [hE_3]; rfl)))))))
  have g_38 : E_9 38 = gE (kG D cs s0) V0 W0 SG0 38 := ((ue hE_9 (kn (a := 38) (b := 18) rfl)).trans ((p_8.1 38 (kl rfl) (kn rfl)).trans ((ue hE_6 (kn (a := 38) (b := 45) rfl)).trans ((ue hE_5 (kn (a := 38) (b := 18) rfl)).trans ((ue hE_4 (kn (a := 38) (b := 18) rfl)).trans (show E_3 38 = .inl (cs 0, (3, .inl (fun _ => 0))) from (by rw [hE_3]; rfl)))))))
  have g_39 : E_9 39 = gE (kG D cs s0) V0 W0 SG0 39 := ((ue hE_9 (kn (a := 39) (b := 18) rfl)).trans ((p_8.1 39 (kl rfl) (kn rfl)).trans ((ue hE_6 (kn (a := 39) (b := 45) rfl)).trans ((ue hE_5 (kn (a := 39) (b := 18) rfl)).trans ((ue hE_4 (kn (a := 39) (b := 18) rfl)).trans (show E_3 39 = .inl (cs 0, (3, .inl (fun _ => 0))) from (by rw [hE_3]; rfl)))))))
  have g_40 : E_9 40 = gE (kG D cs s0) V0 W0 SG0 40 := ((ue hE_9 (kn (a := 40) (b := 18) rfl)).trans ((p_8.1 40 (kl rfl) (kn rfl)).trans ((ue hE_6 (kn (a := 40) (b := 45) rfl)).trans ((ue hE_5 (kn (a := 40) (b := 18) rfl)).trans ((ue hE_4 (kn (a := 40) (b := 18) rfl)).trans (show E_3 40 = .inl (cs 0, (3, .inl (fun _ => 0))) from (by rw [hE_3]; rfl)))))))
  have g_41 : E_9 41 = gE (kG D cs s0) V0 W0 SG0 41 := ((ue hE_9 (kn (a := 41) (b := 18) rfl)).trans ((p_8.1 41 (kl rfl) (kn rfl)).trans ((ue hE_6 (kn (a := 41) (b := 45) rfl)).trans ((ue hE_5 (kn (a := 41) (b := 18) rfl)).trans ((ue hE_4 (kn (a := 41) (b := 18) rfl)).trans (show E_3 41 = .inl (cs 0, (3, .inl (fun _ => 0))) from (by rw [hE_3]; rfl)))))))
  have g_42 : E_9 42 = gE (kG D cs s0) V0 W0 SG0 42 := ((ue hE_9 (kn (a := 42) (b := 18) rfl)).trans ((p_8.1 42 (kl rfl) (kn rfl)).trans ((ue hE_6 (kn (a := 42) (b := 45) rfl)).trans ((ue hE_5 (kn (a := 42) (b := 18) rfl)).trans ((ue hE_4 (kn (a := 42) (b := 18) rfl)).trans (show E_3 42 = .inl (cs 0, (3, .inl (fun _ => 0))) from (by rw [hE_3]; rfl)))))))
  have g_43 : E_9 43 = gE (kG D cs s0) V0 W0 SG0 43 := ((ue hE_9 (kn (a := 43) (b := 18) rfl)).trans ((p_8.1 43 (kl rfl) (kn rfl)).trans ((ue hE_6 (kn (a := 43) (b := 45) rfl)).trans ((ue hE_5 (kn (a := 43) (b := 18) rfl)).trans ((ue hE_4 (kn (a := 43) (b := 18) rfl)).trans (show E_3 43 = .inl (cs 0, (3, .inl (fun _ => 0))) from (by rw [hE_3]; rfl)))))))
  have g_44 : E_9 44 = gE (kG D cs s0) V0 W0 SG0 44 := ((ue hE_9 (kn (a := 44) (b := 18) rfl)).trans ((p_8.1 44 (kl rfl) (kn rfl)).trans ((ue hE_6 (kn (a := 44) (b := 45) rfl)).trans ((ue hE_5 (kn (a := 44) (b := 18) rfl)).trans ((ue hE_4 (kn (a := 44) (b := 18) rfl)).trans (show E_3 44 = .inl (cs 0, (3, .inl (fun _ => 0))) from (by rw [hE_3]; rfl)))))))
  have g_45 : E_9 45 = gE (kG D cs s0) V0 W0 SG0 45 := ((ue hE_9 (kn (a := 45) (b := 18) rfl)).trans (p_8.2.1))
  have g_46 : E_9 46 = gE (kG D cs s0) V0 W0 SG0 46 := ((ue hE_9 (kn (a := 46) (b := 18) rfl)).trans (p_8.2.2 46 (ke rfl) (kl rfl)))
  have g_47 : E_9 47 = gE (kG D cs s0) V0 W0 SG0 47 := ((ue hE_9 (kn (a := 47) (b := 18) rfl)).trans (p_8.2.2 47 (ke rfl) (kl rfl)))
  have g_48 : E_9 48 = gE (kG D cs s0) V0 W0 SG0 48 := ((ue hE_9 (kn (a := 48) (b := 18) rfl)).trans (p_8.2.2 48 (ke rfl) (kl rfl)))
  have g_49 : E_9 49 = gE (kG D cs s0) V0 W0 SG0 49 := ((ue hE_9 (kn (a := 49) (b := 18) rfl)).trans (p_8.2.2 49 (ke rfl) (kl rfl)))
  have g_50 : E_9 50 = gE (kG D cs s0) V0 W0 SG0 50 := ((ue hE_9 (kn (a := 50) (b := 18) rfl)).trans (p_8.2.2 50 (ke rfl) (kl rfl)))
  have t_19 : ∀ k, 19 ≤ k → k < 19 → E_9 k = gE (kG D cs s0) V0 W0 SG0 k := fun k h1 h2 => absurd h2 (by omega)
  have t_20 : ∀ k, 19 ≤ k → k < 20 → E_9 k = gE (kG D cs s0) V0 W0 SG0 k := k_upto (b := 19) t_19 g_19
  have t_21 : ∀ k, 19 ≤ k → k < 21 → E_9 k = gE (kG D cs s0) V0 W0 SG0 k := k_upto (b := 20) t_20 g_20
  have t_22 : ∀ k, 19 ≤ k → k < 22 → E_9 k = gE (kG D cs s0) V0 W0 SG0 k := k_upto (b := 21) t_21 g_21
  have t_23 : ∀ k, 19 ≤ k → k < 23 → E_9 k = gE (kG D cs s0) V0 W0 SG0 k := k_upto (b := 22) t_22 g_22
  have t_24 : ∀ k, 19 ≤ k → k < 24 → E_9 k = gE (kG D cs s0) V0 W0 SG0 k := k_upto (b := 23) t_23 g_23
  have t_25 : ∀ k, 19 ≤ k → k < 25 → E_9 k = gE (kG D cs s0) V0 W0 SG0 k := k_upto (b := 24) t_24 g_24
  have t_26 : ∀ k, 19 ≤ k → k < 26 → E_9 k = gE (kG D cs s0) V0 W0 SG0 k := k_upto (b := 25) t_25 g_25
  have t_27 : ∀ k, 19 ≤ k → k < 27 → E_9 k = gE (kG D cs s0) V0 W0 SG0 k := k_upto (b := 26) t_26 g_26
  have t_28 : ∀ k, 19 ≤ k → k < 28 → E_9 k = gE (kG D cs s0) V0 W0 SG0 k := k_upto (b := 27) t_27 g_27
  have t_29 : ∀ k, 19 ≤ k → k < 29 → E_9 k = gE (kG D cs s0) V0 W0 SG0 k := k_upto (b := 28) t_28 g_28
  have t_30 : ∀ k, 19 ≤ k → k < 30 → E_9 k = gE (kG D cs s0) V0 W0 SG0 k := k_upto (b := 29) t_29 g_29
  have t_31 : ∀ k, 19 ≤ k → k < 31 → E_9 k = gE (kG D cs s0) V0 W0 SG0 k := k_upto (b := 30) t_30 g_30
  have t_32 : ∀ k, 19 ≤ k → k < 32 → E_9 k = gE (kG D cs s0) V0 W0 SG0 k := k_upto (b := 31) t_31 g_31
  have t_33 : ∀ k, 19 ≤ k → k < 33 → E_9 k = gE (kG D cs s0) V0 W0 SG0 k := k_upto (b := 32) t_32 g_32
  have t_34 : ∀ k, 19 ≤ k → k < 34 → E_9 k = gE (kG D cs s0) V0 W0 SG0 k := k_upto (b := 33) t_33 g_33
  have t_35 : ∀ k, 19 ≤ k → k < 35 → E_9 k = gE (kG D cs s0) V0 W0 SG0 k := k_upto (b := 34) t_34 g_34
  have t_36 : ∀ k, 19 ≤ k → k < 36 → E_9 k = gE (kG D cs s0) V0 W0 SG0 k := k_upto (b := 35) t_35 g_35
  have t_37 : ∀ k, 19 ≤ k → k < 37 → E_9 k = gE (kG D cs s0) V0 W0 SG0 k := k_upto (b := 36) t_36 g_36
  have t_38 : ∀ k, 19 ≤ k → k < 38 → E_9 k = gE (kG D cs s0) V0 W0 SG0 k := k_upto (b := 37) t_37 g_37
  have t_39 : ∀ k, 19 ≤ k → k < 39 → E_9 k = gE (kG D cs s0) V0 W0 SG0 k := k_upto (b := 38) t_38 g_38
  have t_40 : ∀ k, 19 ≤ k → k < 40 → E_9 k = gE (kG D cs s0) V0 W0 SG0 k := k_upto (b := 39) t_39 g_39
  have t_41 : ∀ k, 19 ≤ k → k < 41 → E_9 k = gE (kG D cs s0) V0 W0 SG0 k := k_upto (b := 40) t_40 g_40
  have t_42 : ∀ k, 19 ≤ k → k < 42 → E_9 k = gE (kG D cs s0) V0 W0 SG0 k := k_upto (b := 41) t_41 g_41
  have t_43 : ∀ k, 19 ≤ k → k < 43 → E_9 k = gE (kG D cs s0) V0 W0 SG0 k := k_upto (b := 42) t_42 g_42
  have t_44 : ∀ k, 19 ≤ k → k < 44 → E_9 k = gE (kG D cs s0) V0 W0 SG0 k := k_upto (b := 43) t_43 g_43
  have t_45 : ∀ k, 19 ≤ k → k < 45 → E_9 k = gE (kG D cs s0) V0 W0 SG0 k := k_upto (b := 44) t_44 g_44
  have t_46 : ∀ k, 19 ≤ k → k < 46 → E_9 k = gE (kG D cs s0) V0 W0 SG0 k := k_upto (b := 45) t_45 g_45
  have t_47 : ∀ k, 19 ≤ k → k < 47 → E_9 k = gE (kG D cs s0) V0 W0 SG0 k := k_upto (b := 46) t_46 g_46
  have t_48 : ∀ k, 19 ≤ k → k < 48 → E_9 k = gE (kG D cs s0) V0 W0 SG0 k := k_upto (b := 47) t_47 g_47
  have t_49 : ∀ k, 19 ≤ k → k < 49 → E_9 k = gE (kG D cs s0) V0 W0 SG0 k := k_upto (b := 48) t_48 g_48
  have t_50 : ∀ k, 19 ≤ k → k < 50 → E_9 k = gE (kG D cs s0) V0 W0 SG0 k := k_upto (b := 49) t_49 g_49
  have t_51 : ∀ k, 19 ≤ k → k < 51 → E_9 k = gE (kG D cs s0) V0 W0 SG0 k := k_upto (b := 50) t_50 g_50
  have f3 := t_51
  exact k_vret C hlk hr h dX1_init_42 ⟨f1, f2, f3⟩
