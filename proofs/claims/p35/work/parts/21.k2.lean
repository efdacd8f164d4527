set_option maxHeartbeats 4000000 in
set_option maxRecDepth 100000 in
theorem c_X2_init_56 (l : Launch) (D : va_G) (cs : Nat → ClassId) (s0 : Nat) (E : Nat → va_E) (ho : E 56 = .inr (2, [.int 0, .int 0, .int 0, .int 0, .int 0])) : Met l yX2_init wsX2_init ({ frames := 1, cells := 0, slots := 0, locals := 20 }) (kPre D cs s0 57 E [.ref (s0 + 56)]) (kQ D s0 57 (kP D cs s0 57 57 56 E)) 0 0 (fun q => s0 ≤ q) := by
  refine kM_of (cc := cX2_init) (maxL := 1) (by decide) rfl (Nat.le_of_ble_eq_true rfl) ?_
  intro p e R s m args below meth c ls C hR hlk hr hin2 h hl
  have hx := C.1.1
  have hb := C.1.2.1
  have hml := C.1.2.2.1
  have hown := C.1.2.2.2.1
  have hts := C.1.2.2.2.2
  have hl : lv_has ls 1 [(0, .ref (s0 + 56))] := hl
  have hi2 : ∀ x ∈ u_ws RX2 TX2 5, x ∈ wsX2_init := fun x q => List.mem_cons_of_mem _ (List.mem_append_right _ q)
  refine lv_aload_n hx hb dX2_init_0 rfl (lv_at hl 0 rfl) ?_
  refine W.objInit hx hb hown (hts (.methodLink RX2 3 objectInit) (List.mem_of_getElem? (i := 1) rfl)) (hts (.instanceMethod objectInit) (List.mem_of_getElem? (i := 2) rfl)) (hts (.code objectInit ⟨#[0xb1]⟩ 1 none) (List.mem_of_getElem? (i := 3) rfl)) rfl (by rw [hml]; exact hl.1) rfl dX2_init_1 (by rw [hR]; exact Nat.le_of_ble_eq_true rfl) (by rw [hR]; exact Nat.le_of_ble_eq_true rfl) ?_
  refine W.eq (g2 := F0 m 4 ls []) rfl ?_
  refine lv_aload_n hx hb dX2_init_4 rfl (lv_at hl 0 rfl) ?_
  refine lv_iconst (v := 0) hx hb dX2_init_5 (by decide) ?_
  refine k_put (ci := 2) (x := .int 0) (ty := .boolean) (fs := [.int 0, .int 0, .int 0, .int 0, .int 0]) C hin2 h 56 (by decide) ho rfl hi2 tyX2 tyX2_ok nmX2 0 (by decide) (index := 9) (List.mem_of_getElem? (i := 4) rfl) rfl rfl (by decide +kernel) rfl rfl (Nat.le_of_ble_eq_true rfl) dX2_init_6 (fun H locs h => ?_)
  obtain ⟨E_1, hE_1⟩ : ∃ z, z = va_up E 56 (.inr (2, [.int 0, .int 0, .int 0, .int 0, .int 0])) := ⟨_, rfl⟩
  have h : kS D s s0 57 E_1 H locs := by rw [hE_1]; exact h
  refine lv_aload_n hx hb dX2_init_9 rfl (lv_at hl 0 rfl) ?_
  refine lv_iconst (v := 0) hx hb dX2_init_10 (by decide) ?_
  refine k_put (ci := 2) (x := .int 0) (ty := .int) (fs := [.int 0, .int 0, .int 0, .int 0, .int 0]) C hin2 h 56 (by decide) (show E_1 56 = .inr (2, [.int 0, .int 0, .int 0, .int 0, .int 0]) from (by rw [hE_1]; rfl)) rfl hi2 tyX2 tyX2_ok nmX2 1 (by decide) (index := 15) (List.mem_of_getElem? (i := 5) rfl) rfl rfl (by decide +kernel) rfl rfl (Nat.le_of_ble_eq_true rfl) dX2_init_11 (fun H locs h => ?_)
  obtain ⟨E_2, hE_2⟩ : ∃ z, z = va_up E_1 56 (.inr (2, [.int 0, .int 0, .int 0, .int 0, .int 0])) := ⟨_, rfl⟩
  have h : kS D s s0 57 E_2 H locs := by rw [hE_2]; exact h
  refine lv_aload_n hx hb dX2_init_14 rfl (lv_at hl 0 rfl) ?_
  refine lv_iconst (v := 0) hx hb dX2_init_15 (by decide) ?_
  refine k_put (ci := 2) (x := .int 0) (ty := .int) (fs := [.int 0, .int 0, .int 0, .int 0, .int 0]) C hin2 h 56 (by decide) (show E_2 56 = .inr (2, [.int 0, .int 0, .int 0, .int 0, .int 0]) from (by rw [hE_2]; rfl)) rfl hi2 tyX2 tyX2_ok nmX2 2 (by decide) (index := 19) (List.mem_of_getElem? (i := 6) rfl) rfl rfl (by decide +kernel) rfl rfl (Nat.le_of_ble_eq_true rfl) dX2_init_16 (fun H locs h => ?_)
  obtain ⟨E_3, hE_3⟩ : ∃ z, z = va_up E_2 56 (.inr (2, [.int 0, .int 0, .int 0, .int 0, .int 0])) := ⟨_, rfl⟩
  have h : kS D s s0 57 E_3 H locs := by rw [hE_3]; exact h
  refine lv_aload_n hx hb dX2_init_19 rfl (lv_at hl 0 rfl) ?_
  refine lv_iconst (v := 0) hx hb dX2_init_20 (by decide) ?_
  refine k_put (ci := 2) (x := .int 0) (ty := .int) (fs := [.int 0, .int 0, .int 0, .int 0, .int 0]) C hin2 h 56 (by decide) (show E_3 56 = .inr (2, [.int 0, .int 0, .int 0, .int 0, .int 0]) from (by rw [hE_3]; rfl)) rfl hi2 tyX2 tyX2_ok nmX2 3 (by decide) (index := 22) (List.mem_of_getElem? (i := 7) rfl) rfl rfl (by decide +kernel) rfl rfl (Nat.le_of_ble_eq_true rfl) dX2_init_21 (fun H locs h => ?_)
  obtain ⟨E_4, hE_4⟩ : ∃ z, z = va_up E_3 56 (.inr (2, [.int 0, .int 0, .int 0, .int 0, .int 0])) := ⟨_, rfl⟩
  have h : kS D s s0 57 E_4 H locs := by rw [hE_4]; exact h
  refine lv_aload_n hx hb dX2_init_24 rfl (lv_at hl 0 rfl) ?_
  refine lv_iconst (v := 0) hx hb dX2_init_25 (by decide) ?_
  refine k_put (ci := 2) (x := .int 0) (ty := .int) (fs := [.int 0, .int 0, .int 0, .int 0, .int 0]) C hin2 h 56 (by decide) (show E_4 56 = .inr (2, [.int 0, .int 0, .int 0, .int 0, .int 0]) from (by rw [hE_4]; rfl)) rfl hi2 tyX2 tyX2_ok nmX2 4 (by decide) (index := 25) (List.mem_of_getElem? (i := 8) rfl) rfl rfl (by decide +kernel) rfl rfl (Nat.le_of_ble_eq_true rfl) dX2_init_26 (fun H locs h => ?_)
  obtain ⟨E_5, hE_5⟩ : ∃ z, z = va_up E_4 56 (.inr (2, [.int 0, .int 0, .int 0, .int 0, .int 0])) := ⟨_, rfl⟩
  have h : kS D s s0 57 E_5 H locs := by rw [hE_5]; exact h
  have f1 : ∀ k, k < 57 → k ≠ 56 → E_5 k = E k := fun k h1 h2 => ((ue hE_5 (by omega)).trans ((ue hE_4 (by omega)).trans ((ue hE_3 (by omega)).trans ((ue hE_2 (by omega)).trans ((ue hE_1 (by omega)).trans rfl)))))
  have f2 : E_5 56 = gE (kG D cs s0) V0 W0 SG0 56 := (show E_5 56 = .inr (2, [.int 0, .int 0, .int 0, .int 0, .int 0]) from (by rw [hE_5]; rfl))
  have f3 : ∀ k, 57 ≤ k → k < 57 → E_5 k = gE (kG D cs s0) V0 W0 SG0 k := fun k h1 h2 => absurd h2 (by omega)
  exact k_vret C hlk hr h dX2_init_29 ⟨f1, f2, f3⟩

set_option maxHeartbeats 4000000 in
set_option maxRecDepth 100000 in
theorem c_X2_init_57 (l : Launch) (D : va_G) (cs : Nat → ClassId) (s0 : Nat) (E : Nat → va_E) (ho : E 57 = .inr (2, [.int 0, .int 0, .int 0, .int 0, .int 0])) : Met l yX2_init wsX2_init ({ frames := 1, cells := 0, slots := 0, locals := 20 }) (kPre D cs s0 58 E [.ref (s0 + 57)]) (kQ D s0 58 (kP D cs s0 58 58 57 E)) 0 0 (fun q => s0 ≤ q) := by
  refine kM_of (cc := cX2_init) (maxL := 1) (by decide) rfl (Nat.le_of_ble_eq_true rfl) ?_
  intro p e R s m args below meth c ls C hR hlk hr hin2 h hl
  have hx := C.1.1
  have hb := C.1.2.1
  have hml := C.1.2.2.1
  have hown := C.1.2.2.2.1
  have hts := C.1.2.2.2.2
  have hl : lv_has ls 1 [(0, .ref (s0 + 57))] := hl
  have hi2 : ∀ x ∈ u_ws RX2 TX2 5, x ∈ wsX2_init := fun x q => List.mem_cons_of_mem _ (List.mem_append_right _ q)
  refine lv_aload_n hx hb dX2_init_0 rfl (lv_at hl 0 rfl) ?_
  refine W.objInit hx hb hown (hts (.methodLink RX2 3 objectInit) (List.mem_of_getElem? (i := 1) rfl)) (hts (.instanceMethod objectInit) (List.mem_of_getElem? (i := 2) rfl)) (hts (.code objectInit ⟨#[0xb1]⟩ 1 none) (List.mem_of_getElem? (i := 3) rfl)) rfl (by rw [hml]; exact hl.1) rfl dX2_init_1 (by rw [hR]; exact Nat.le_of_ble_eq_true rfl) (by rw [hR]; exact Nat.le_of_ble_eq_true rfl) ?_
  refine W.eq (g2 := F0 m 4 ls []) rfl ?_
  refine lv_aload_n hx hb dX2_init_4 rfl (lv_at hl 0 rfl) ?_
  refine lv_iconst (v := 0) hx hb dX2_init_5 (by decide) ?_
  refine k_put (ci := 2) (x := .int 0) (ty := .boolean) (fs := [.int 0, .int 0, .int 0, .int 0, .int 0]) C hin2 h 57 (by decide) ho rfl hi2 tyX2 tyX2_ok nmX2 0 (by decide) (index := 9) (List.mem_of_getElem? (i := 4) rfl) rfl rfl (by decide +kernel) rfl rfl (Nat.le_of_ble_eq_true rfl) dX2_init_6 (fun H locs h => ?_)
  obtain ⟨E_1, hE_1⟩ : ∃ z, z = va_up E 57 (.inr (2, [.int 0, .int 0, .int 0, .int 0, .int 0])) := ⟨_, rfl⟩
  have h : kS D s s0 58 E_1 H locs := by rw [hE_1]; exact h
  refine lv_aload_n hx hb dX2_init_9 rfl (lv_at hl 0 rfl) ?_
  refine lv_iconst (v := 0) hx hb dX2_init_10 (by decide) ?_
  refine k_put (ci := 2) (x := .int 0) (ty := .int) (fs := [.int 0, .int 0, .int 0, .int 0, .int 0]) C hin2 h 57 (by decide) (show E_1 57 = .inr (2, [.int 0, .int 0, .int 0, .int 0, .int 0]) from (by rw [hE_1]; rfl)) rfl hi2 tyX2 tyX2_ok nmX2 1 (by decide) (index := 15) (List.mem_of_getElem? (i := 5) rfl) rfl rfl (by decide +kernel) rfl rfl (Nat.le_of_ble_eq_true rfl) dX2_init_11 (fun H locs h => ?_)
  obtain ⟨E_2, hE_2⟩ : ∃ z, z = va_up E_1 57 (.inr (2, [.int 0, .int 0, .int 0, .int 0, .int 0])) := ⟨_, rfl⟩
  have h : kS D s s0 58 E_2 H locs := by rw [hE_2]; exact h
  refine lv_aload_n hx hb dX2_init_14 rfl (lv_at hl 0 rfl) ?_
  refine lv_iconst (v := 0) hx hb dX2_init_15 (by decide) ?_
  refine k_put (ci := 2) (x := .int 0) (ty := .int) (fs := [.int 0, .int 0, .int 0, .int 0, .int 0]) C hin2 h 57 (by decide) (show E_2 57 = .inr (2, [.int 0, .int 0, .int 0, .int 0, .int 0]) from (by rw [hE_2]; rfl)) rfl hi2 tyX2 tyX2_ok nmX2 2 (by decide) (index := 19) (List.mem_of_getElem? (i := 6) rfl) rfl rfl (by decide +kernel) rfl rfl (Nat.le_of_ble_eq_true rfl) dX2_init_16 (fun H locs h => ?_)
  obtain ⟨E_3, hE_3⟩ : ∃ z, z = va_up E_2 57 (.inr (2, [.int 0, .int 0, .int 0, .int 0, .int 0])) := ⟨_, rfl⟩
  have h : kS D s s0 58 E_3 H locs := by rw [hE_3]; exact h
  refine lv_aload_n hx hb dX2_init_19 rfl (lv_at hl 0 rfl) ?_
  refine lv_iconst (v := 0) hx hb dX2_init_20 (by decide) ?_
  refine k_put (ci := 2) (x := .int 0) (ty := .int) (fs := [.int 0, .int 0, .int 0, .int 0, .int 0]) C hin2 h 57 (by decide) (show E_3 57 = .inr (2, [.int 0, .int 0, .int 0, .int 0, .int 0]) from (by rw [hE_3]; rfl)) rfl hi2 tyX2 tyX2_ok nmX2 3 (by decide) (index := 22) (List.mem_of_getElem? (i := 7) rfl) rfl rfl (by decide +kernel) rfl rfl (Nat.le_of_ble_eq_true rfl) dX2_init_21 (fun H locs h => ?_)
  obtain ⟨E_4, hE_4⟩ : ∃ z, z = va_up E_3 57 (.inr (2, [.int 0, .int 0, .int 0, .int 0, .int 0])) := ⟨_, rfl⟩
  have h : kS D s s0 58 E_4 H locs := by rw [hE_4]; exact h
  refine lv_aload_n hx hb dX2_init_24 rfl (lv_at hl 0 rfl) ?_
  refine lv_iconst (v := 0) hx hb dX2_init_25 (by decide) ?_
  refine k_put (ci := 2) (x := .int 0) (ty := .int) (fs := [.int 0, .int 0, .int 0, .int 0, .int 0]) C hin2 h 57 (by decide) (show E_4 57 = .inr (2, [.int 0, .int 0, .int 0, .int 0, .int 0]) from (by rw [hE_4]; rfl)) rfl hi2 tyX2 tyX2_ok nmX2 4 (by decide) (index := 25) (List.mem_of_getElem? (i := 8) rfl) rfl rfl (by decide +kernel) rfl rfl (Nat.le_of_ble_eq_true rfl) dX2_init_26 (fun H locs h => ?_)
  obtain ⟨E_5, hE_5⟩ : ∃ z, z = va_up E_4 57 (.inr (2, [.int 0, .int 0, .int 0, .int 0, .int 0])) := ⟨_, rfl⟩
  have h : kS D s s0 58 E_5 H locs := by rw [hE_5]; exact h
  have f1 : ∀ k, k < 58 → k ≠ 57 → E_5 k = E k := fun k h1 h2 => ((ue hE_5 (by omega)).trans ((ue hE_4 (by omega)).trans ((ue hE_3 (by omega)).trans ((ue hE_2 (by omega)).trans ((ue hE_1 (by omega)).trans rfl)))))
  have f2 : E_5 57 = gE (kG D cs s0) V0 W0 SG0 57 := (show E_5 57 = .inr (2, [.int 0, .int 0, .int 0, .int 0, .int 0]) from (by rw [hE_5]; rfl))
  have f3 : ∀ k, 58 ≤ k → k < 58 → E_5 k = gE (kG D cs s0) V0 W0 SG0 k := fun k h1 h2 => absurd h2 (by omega)
  exact k_vret C hlk hr h dX2_init_29 ⟨f1, f2, f3⟩

set_option maxHeartbeats 4000000 in
set_option maxRecDepth 100000 in
theorem c_X2_init_58 (l : Launch) (D : va_G) (cs : Nat → ClassId) (s0 : Nat) (E : Nat → va_E) (ho : E 58 = .inr (2, [.int 0, .int 0, .int 0, .int 0, .int 0])) : Met l yX2_init wsX2_init ({ frames := 1, cells := 0, slots := 0, locals := 20 }) (kPre D cs s0 59 E [.ref (s0 + 58)]) (kQ D s0 59 (kP D cs s0 59 59 58 E)) 0 0 (fun q => s0 ≤ q) := by
  refine kM_of (cc := cX2_init) (maxL := 1) (by decide) rfl (Nat.le_of_ble_eq_true rfl) ?_
  intro p e R s m args below meth c ls C hR hlk hr hin2 h hl
  have hx := C.1.1
  have hb := C.1.2.1
  have hml := C.1.2.2.1
  have hown := C.1.2.2.2.1
  have hts := C.1.2.2.2.2
  have hl : lv_has ls 1 [(0, .ref (s0 + 58))] := hl
  have hi2 : ∀ x ∈ u_ws RX2 TX2 5, x ∈ wsX2_init := fun x q => List.mem_cons_of_mem _ (List.mem_append_right _ q)
  refine lv_aload_n hx hb dX2_init_0 rfl (lv_at hl 0 rfl) ?_
  refine W.objInit hx hb hown (hts (.methodLink RX2 3 objectInit) (List.mem_of_getElem? (i := 1) rfl)) (hts (.instanceMethod objectInit) (List.mem_of_getElem? (i := 2) rfl)) (hts (.code objectInit ⟨#[0xb1]⟩ 1 none) (List.mem_of_getElem? (i := 3) rfl)) rfl (by rw [hml]; exact hl.1) rfl dX2_init_1 (by rw [hR]; exact Nat.le_of_ble_eq_true rfl) (by rw [hR]; exact Nat.le_of_ble_eq_true rfl) ?_
  refine W.eq (g2 := F0 m 4 ls []) rfl ?_
  refine lv_aload_n hx hb dX2_init_4 rfl (lv_at hl 0 rfl) ?_
  refine lv_iconst (v := 0) hx hb dX2_init_5 (by decide) ?_
  refine k_put (ci := 2) (x := .int 0) (ty := .boolean) (fs := [.int 0, .int 0, .int 0, .int 0, .int 0]) C hin2 h 58 (by decide) ho rfl hi2 tyX2 tyX2_ok nmX2 0 (by decide) (index := 9) (List.mem_of_getElem? (i := 4) rfl) rfl rfl (by decide +kernel) rfl rfl (Nat.le_of_ble_eq_true rfl) dX2_init_6 (fun H locs h => ?_)
  obtain ⟨E_1, hE_1⟩ : ∃ z, z = va_up E 58 (.inr (2, [.int 0, .int 0, .int 0, .int 0, .int 0])) := ⟨_, rfl⟩
  have h : kS D s s0 59 E_1 H locs := by rw [hE_1]; exact h
  refine lv_aload_n hx hb dX2_init_9 rfl (lv_at hl 0 rfl) ?_
  refine lv_iconst (v := 0) hx hb dX2_init_10 (by decide) ?_
  refine k_put (ci := 2) (x := .int 0) (ty := .int) (fs := [.int 0, .int 0, .int 0, .int 0, .int 0]) C hin2 h 58 (by decide) (show E_1 58 = .inr (2, [.int 0, .int 0, .int 0, .int 0, .int 0]) from (by rw [hE_1]; rfl)) rfl hi2 tyX2 tyX2_ok nmX2 1 (by decide) (index := 15) (List.mem_of_getElem? (i := 5) rfl) rfl rfl (by decide +kernel) rfl rfl (Nat.le_of_ble_eq_true rfl) dX2_init_11 (fun H locs h => ?_)
  obtain ⟨E_2, hE_2⟩ : ∃ z, z = va_up E_1 58 (.inr (2, [.int 0, .int 0, .int 0, .int 0, .int 0])) := ⟨_, rfl⟩
  have h : kS D s s0 59 E_2 H locs := by rw [hE_2]; exact h
  refine lv_aload_n hx hb dX2_init_14 rfl (lv_at hl 0 rfl) ?_
  refine lv_iconst (v := 0) hx hb dX2_init_15 (by decide) ?_
  refine k_put (ci := 2) (x := .int 0) (ty := .int) (fs := [.int 0, .int 0, .int 0, .int 0, .int 0]) C hin2 h 58 (by decide) (show E_2 58 = .inr (2, [.int 0, .int 0, .int 0, .int 0, .int 0]) from (by rw [hE_2]; rfl)) rfl hi2 tyX2 tyX2_ok nmX2 2 (by decide) (index := 19) (List.mem_of_getElem? (i := 6) rfl) rfl rfl (by decide +kernel) rfl rfl (Nat.le_of_ble_eq_true rfl) dX2_init_16 (fun H locs h => ?_)
  obtain ⟨E_3, hE_3⟩ : ∃ z, z = va_up E_2 58 (.inr (2, [.int 0, .int 0, .int 0, .int 0, .int 0])) := ⟨_, rfl⟩
  have h : kS D s s0 59 E_3 H locs := by rw [hE_3]; exact h
  refine lv_aload_n hx hb dX2_init_19 rfl (lv_at hl 0 rfl) ?_
  refine lv_iconst (v := 0) hx hb dX2_init_20 (by decide) ?_
  refine k_put (ci := 2) (x := .int 0) (ty := .int) (fs := [.int 0, .int 0, .int 0, .int 0, .int 0]) C hin2 h 58 (by decide) (show E_3 58 = .inr (2, [.int 0, .int 0, .int 0, .int 0, .int 0]) from (by rw [hE_3]; rfl)) rfl hi2 tyX2 tyX2_ok nmX2 3 (by decide) (index := 22) (List.mem_of_getElem? (i := 7) rfl) rfl rfl (by decide +kernel) rfl rfl (Nat.le_of_ble_eq_true rfl) dX2_init_21 (fun H locs h => ?_)
  obtain ⟨E_4, hE_4⟩ : ∃ z, z = va_up E_3 58 (.inr (2, [.int 0, .int 0, .int 0, .int 0, .int 0])) := ⟨_, rfl⟩
  have h : kS D s s0 59 E_4 H locs := by rw [hE_4]; exact h
  refine lv_aload_n hx hb dX2_init_24 rfl (lv_at hl 0 rfl) ?_
  refine lv_iconst (v := 0) hx hb dX2_init_25 (by decide) ?_
  refine k_put (ci := 2) (x := .int 0) (ty := .int) (fs := [.int 0, .int 0, .int 0, .int 0, .int 0]) C hin2 h 58 (by decide) (show E_4 58 = .inr (2, [.int 0, .int 0, .int 0, .int 0, .int 0]) from (by rw [hE_4]; rfl)) rfl hi2 tyX2 tyX2_ok nmX2 4 (by decide) (index := 25) (List.mem_of_getElem? (i := 8) rfl) rfl rfl (by decide +kernel) rfl rfl (Nat.le_of_ble_eq_true rfl) dX2_init_26 (fun H locs h => ?_)
  obtain ⟨E_5, hE_5⟩ : ∃ z, z = va_up E_4 58 (.inr (2, [.int 0, .int 0, .int 0, .int 0, .int 0])) := ⟨_, rfl⟩
  have h : kS D s s0 59 E_5 H locs := by rw [hE_5]; exact h
  have f1 : ∀ k, k < 59 → k ≠ 58 → E_5 k = E k := fun k h1 h2 => ((ue hE_5 (by omega)).trans ((ue hE_4 (by omega)).trans ((ue hE_3 (by omega)).trans ((ue hE_2 (by omega)).trans ((ue hE_1 (by omega)).trans rfl)))))
  have f2 : E_5 58 = gE (kG D cs s0) V0 W0 SG0 58 := (show E_5 58 = .inr (2, [.int 0, .int 0, .int 0, .int 0, .int 0]) from (by rw [hE_5]; rfl))
  have f3 : ∀ k, 59 ≤ k → k < 59 → E_5 k = gE (kG D cs s0) V0 W0 SG0 k := fun k h1 h2 => absurd h2 (by omega)
  exact k_vret C hlk hr h dX2_init_29 ⟨f1, f2, f3⟩

set_option maxHeartbeats 4000000 in
set_option maxRecDepth 100000 in
theorem c_X2_init_59 (l : Launch) (D : va_G) (cs : Nat → ClassId) (s0 : Nat) (E : Nat → va_E) (ho : E 59 = .inr (2, [.int 0, .int 0, .int 0, .int 0, .int 0])) : Met l yX2_init wsX2_init ({ frames := 1, cells := 0, slots := 0, locals := 20 }) (kPre D cs s0 60 E [.ref (s0 + 59)]) (kQ D s0 60 (kP D cs s0 60 60 59 E)) 0 0 (fun q => s0 ≤ q) := by
  refine kM_of (cc := cX2_init) (maxL := 1) (by decide) rfl (Nat.le_of_ble_eq_true rfl) ?_
  intro p e R s m args below meth c ls C hR hlk hr hin2 h hl
  have hx := C.1.1
  have hb := C.1.2.1
  have hml := C.1.2.2.1
  have hown := C.1.2.2.2.1
  have hts := C.1.2.2.2.2
  have hl : lv_has ls 1 [(0, .ref (s0 + 59))] := hl
  have hi2 : ∀ x ∈ u_ws RX2 TX2 5, x ∈ wsX2_init := fun x q => List.mem_cons_of_mem _ (List.mem_append_right _ q)
  refine lv_aload_n hx hb dX2_init_0 rfl (lv_at hl 0 rfl) ?_
  refine W.objInit hx hb hown (hts (.methodLink RX2 3 objectInit) (List.mem_of_getElem? (i := 1) rfl)) (hts (.instanceMethod objectInit) (List.mem_of_getElem? (i := 2) rfl)) (hts (.code objectInit ⟨#[0xb1]⟩ 1 none) (List.mem_of_getElem? (i := 3) rfl)) rfl (by rw [hml]; exact hl.1) rfl dX2_init_1 (by rw [hR]; exact Nat.le_of_ble_eq_true rfl) (by rw [hR]; exact Nat.le_of_ble_eq_true rfl) ?_
  refine W.eq (g2 := F0 m 4 ls []) rfl ?_
  refine lv_aload_n hx hb dX2_init_4 rfl (lv_at hl 0 rfl) ?_
  refine lv_iconst (v := 0) hx hb dX2_init_5 (by decide) ?_
  refine k_put (ci := 2) (x := .int 0) (ty := .boolean) (fs := [.int 0, .int 0, .int 0, .int 0, .int 0]) C hin2 h 59 (by decide) ho rfl hi2 tyX2 tyX2_ok nmX2 0 (by decide) (index := 9) (List.mem_of_getElem? (i := 4) rfl) rfl rfl (by decide +kernel) rfl rfl (Nat.le_of_ble_eq_true rfl) dX2_init_6 (fun H locs h => ?_)
  obtain ⟨E_1, hE_1⟩ : ∃ z, z = va_up E 59 (.inr (2, [.int 0, .int 0, .int 0, .int 0, .int 0])) := ⟨_, rfl⟩
  have h : kS D s s0 60 E_1 H locs := by rw [hE_1]; exact h
  refine lv_aload_n hx hb dX2_init_9 rfl (lv_at hl 0 rfl) ?_
  refine lv_iconst (v := 0) hx hb dX2_init_10 (by decide) ?_
  refine k_put (ci := 2) (x := .int 0) (ty := .int) (fs := [.int 0, .int 0, .int 0, .int 0, .int 0]) C hin2 h 59 (by decide) (show E_1 59 = .inr (2, [.int 0, .int 0, .int 0, .int 0, .int 0]) from (by rw [hE_1]; rfl)) rfl hi2 tyX2 tyX2_ok nmX2 1 (by decide) (index := 15) (List.mem_of_getElem? (i := 5) rfl) rfl rfl (by decide +kernel) rfl rfl (Nat.le_of_ble_eq_true rfl) dX2_init_11 (fun H locs h => ?_)
  obtain ⟨E_2, hE_2⟩ : ∃ z, z = va_up E_1 59 (.inr (2, [.int 0, .int 0, .int 0, .int 0, .int 0])) := ⟨_, rfl⟩
  have h : kS D s s0 60 E_2 H locs := by rw [hE_2]; exact h
  refine lv_aload_n hx hb dX2_init_14 rfl (lv_at hl 0 rfl) ?_
  refine lv_iconst (v := 0) hx hb dX2_init_15 (by decide) ?_
  refine k_put (ci := 2) (x := .int 0) (ty := .int) (fs := [.int 0, .int 0, .int 0, .int 0, .int 0]) C hin2 h 59 (by decide) (show E_2 59 = .inr (2, [.int 0, .int 0, .int 0, .int 0, .int 0]) from (by rw [hE_2]; rfl)) rfl hi2 tyX2 tyX2_ok nmX2 2 (by decide) (index := 19) (List.mem_of_getElem? (i := 6) rfl) rfl rfl (by decide +kernel) rfl rfl (Nat.le_of_ble_eq_true rfl) dX2_init_16 (fun H locs h => ?_)
  obtain ⟨E_3, hE_3⟩ : ∃ z, z = va_up E_2 59 (.inr (2, [.int 0, .int 0, .int 0, .int 0, .int 0])) := ⟨_, rfl⟩
  have h : kS D s s0 60 E_3 H locs := by rw [hE_3]; exact h
  refine lv_aload_n hx hb dX2_init_19 rfl (lv_at hl 0 rfl) ?_
  refine lv_iconst (v := 0) hx hb dX2_init_20 (by decide) ?_
  refine k_put (ci := 2) (x := .int 0) (ty := .int) (fs := [.int 0, .int 0, .int 0, .int 0, .int 0]) C hin2 h 59 (by decide) (show E_3 59 = .inr (2, [.int 0, .int 0, .int 0, .int 0, .int 0]) from (by rw [hE_3]; rfl)) rfl hi2 tyX2 tyX2_ok nmX2 3 (by decide) (index := 22) (List.mem_of_getElem? (i := 7) rfl) rfl rfl (by decide +kernel) rfl rfl (Nat.le_of_ble_eq_true rfl) dX2_init_21 (fun H locs h => ?_)
  obtain ⟨E_4, hE_4⟩ : ∃ z, z = va_up E_3 59 (.inr (2, [.int 0, .int 0, .int 0, .int 0, .int 0])) := ⟨_, rfl⟩
  have h : kS D s s0 60 E_4 H locs := by rw [hE_4]; exact h
  refine lv_aload_n hx hb dX2_init_24 rfl (lv_at hl 0 rfl) ?_
  refine lv_iconst (v := 0) hx hb dX2_init_25 (by decide) ?_
  refine k_put (ci := 2) (x := .int 0) (ty := .int) (fs := [.int 0, .int 0, .int 0, .int 0, .int 0]) C hin2 h 59 (by decide) (show E_4 59 = .inr (2, [.int 0, .int 0, .int 0, .int 0, .int 0]) from (by rw [hE_4]; rfl)) rfl hi2 tyX2 tyX2_ok nmX2 4 (by decide) (index := 25) (List.mem_of_getElem? (i := 8) rfl) rfl rfl (by decide +kernel) rfl rfl (Nat.le_of_ble_eq_true rfl) dX2_init_26 (fun H locs h => ?_)
  obtain ⟨E_5, hE_5⟩ : ∃ z, z = va_up E_4 59 (.inr (2, [.int 0, .int 0, .int 0, .int 0, .int 0])) := ⟨_, rfl⟩
  have h : kS D s s0 60 E_5 H locs := by rw [hE_5]; exact h
  have f1 : ∀ k, k < 60 → k ≠ 59 → E_5 k = E k := fun k h1 h2 => ((ue hE_5 (by omega)).trans ((ue hE_4 (by omega)).trans ((ue hE_3 (by omega)).trans ((ue hE_2 (by omega)).trans ((ue hE_1 (by omega)).trans rfl)))))
  have f2 : E_5 59 = gE (kG D cs s0) V0 W0 SG0 59 := (show E_5 59 = .inr (2, [.int 0, .int 0, .int 0, .int 0, .int 0]) from (by rw [hE_5]; rfl))
  have f3 : ∀ k, 60 ≤ k → k < 60 → E_5 k = gE (kG D cs s0) V0 W0 SG0 k := fun k h1 h2 => absurd h2 (by omega)
  exact k_vret C hlk hr h dX2_init_29 ⟨f1, f2, f3⟩

set_option maxHeartbeats 4000000 in
set_option maxRecDepth 100000 in
theorem c_X2_init_60 (l : Launch) (D : va_G) (cs : Nat → ClassId) (s0 : Nat) (E : Nat → va_E) (ho : E 60 = .inr (2, [.int 0, .int 0, .int 0, .int 0, .int 0])) : Met l yX2_init wsX2_init ({ frames := 1, cells := 0, slots := 0, locals := 20 }) (kPre D cs s0 61 E [.ref (s0 + 60)]) (kQ D s0 61 (kP D cs s0 61 61 60 E)) 0 0 (fun q => s0 ≤ q) := by
  refine kM_of (cc := cX2_init) (maxL := 1) (by decide) rfl (Nat.le_of_ble_eq_true rfl) ?_
  intro p e R s m args below meth c ls C hR hlk hr hin2 h hl
  have hx := C.1.1
  have hb := C.1.2.1
  have hml := C.1.2.2.1
  have hown := C.1.2.2.2.1
  have hts := C.1.2.2.2.2
  have hl : lv_has ls 1 [(0, .ref (s0 + 60))] := hl
  have hi2 : ∀ x ∈ u_ws RX2 TX2 5, x ∈ wsX2_init := fun x q => List.mem_cons_of_mem _ (List.mem_append_right _ q)
  refine lv_aload_n hx hb dX2_init_0 rfl (lv_at hl 0 rfl) ?_
  refine W.objInit hx hb hown (hts (.methodLink RX2 3 objectInit) (List.mem_of_getElem? (i := 1) rfl)) (hts (.instanceMethod objectInit) (List.mem_of_getElem? (i := 2) rfl)) (hts (.code objectInit ⟨#[0xb1]⟩ 1 none) (List.mem_of_getElem? (i := 3) rfl)) rfl (by rw [hml]; exact hl.1) rfl dX2_init_1 (by rw [hR]; exact Nat.le_of_ble_eq_true rfl) (by rw [hR]; exact Nat.le_of_ble_eq_true rfl) ?_
  refine W.eq (g2 := F0 m 4 ls []) rfl ?_
  refine lv_aload_n hx hb dX2_init_4 rfl (lv_at hl 0 rfl) ?_
  refine lv_iconst (v := 0) hx hb dX2_init_5 (by decide) ?_
  refine k_put (ci := 2) (x := .int 0) (ty := .boolean) (fs := [.int 0, .int 0, .int 0, .int 0, .int 0]) C hin2 h 60 (by decide) ho rfl hi2 tyX2 tyX2_ok nmX2 0 (by decide) (index := 9) (List.mem_of_getElem? (i := 4) rfl) rfl rfl (by decide +kernel) rfl rfl (Nat.le_of_ble_eq_true rfl) dX2_init_6 (fun H locs h => ?_)
  obtain ⟨E_1, hE_1⟩ : ∃ z, z = va_up E 60 (.inr (2, [.int 0, .int 0, .int 0, .int 0, .int 0])) := ⟨_, rfl⟩
  have h : kS D s s0 61 E_1 H locs := by rw [hE_1]; exact h
  refine lv_aload_n hx hb dX2_init_9 rfl (lv_at hl 0 rfl) ?_
  refine lv_iconst (v := 0) hx hb dX2_init_10 (by decide) ?_
  refine k_put (ci := 2) (x := .int 0) (ty := .int) (fs := [.int 0, .int 0, .int 0, .int 0, .int 0]) C hin2 h 60 (by decide) (show E_1 60 = .inr (2, [.int 0, .int 0, .int 0, .int 0, .int 0]) from (by rw [hE_1]; rfl)) rfl hi2 tyX2 tyX2_ok nmX2 1 (by decide) (index := 15) (List.mem_of_getElem? (i := 5) rfl) rfl rfl (by decide +kernel) rfl rfl (Nat.le_of_ble_eq_true rfl) dX2_init_11 (fun H locs h => ?_)
  obtain ⟨E_2, hE_2⟩ : ∃ z, z = va_up E_1 60 (.inr (2, [.int 0, .int 0, .int 0, .int 0, .int 0])) := ⟨_, rfl⟩
  have h : kS D s s0 61 E_2 H locs := by rw [hE_2]; exact h
  refine lv_aload_n hx hb dX2_init_14 rfl (lv_at hl 0 rfl) ?_
  refine lv_iconst (v := 0) hx hb dX2_init_15 (by decide) ?_
  refine k_put (ci := 2) (x := .int 0) (ty := .int) (fs := [.int 0, .int 0, .int 0, .int 0, .int 0]) C hin2 h 60 (by decide) (show E_2 60 = .inr (2, [.int 0, .int 0, .int 0, .int 0, .int 0]) from (by rw [hE_2]; rfl)) rfl hi2 tyX2 tyX2_ok nmX2 2 (by decide) (index := 19) (List.mem_of_getElem? (i := 6) rfl) rfl rfl (by decide +kernel) rfl rfl (Nat.le_of_ble_eq_true rfl) dX2_init_16 (fun H locs h => ?_)
  obtain ⟨E_3, hE_3⟩ : ∃ z, z = va_up E_2 60 (.inr (2, [.int 0, .int 0, .int 0, .int 0, .int 0])) := ⟨_, rfl⟩
  have h : kS D s s0 61 E_3 H locs := by rw [hE_3]; exact h
  refine lv_aload_n hx hb dX2_init_19 rfl (lv_at hl 0 rfl) ?_
  refine lv_iconst (v := 0) hx hb dX2_init_20 (by decide) ?_
  refine k_put (ci := 2) (x := .int 0) (ty := .int) (fs := [.int 0, .int 0, .int 0, .int 0, .int 0]) C hin2 h 60 (by decide) (show E_3 60 = .inr (2, [.int 0, .int 0, .int 0, .int 0, .int 0]) from (by rw [hE_3]; rfl)) rfl hi2 tyX2 tyX2_ok nmX2 3 (by decide) (index := 22) (List.mem_of_getElem? (i := 7) rfl) rfl rfl (by decide +kernel) rfl rfl (Nat.le_of_ble_eq_true rfl) dX2_init_21 (fun H locs h => ?_)
  obtain ⟨E_4, hE_4⟩ : ∃ z, z = va_up E_3 60 (.inr (2, [.int 0, .int 0, .int 0, .int 0, .int 0])) := ⟨_, rfl⟩
  have h : kS D s s0 61 E_4 H locs := by rw [hE_4]; exact h
  refine lv_aload_n hx hb dX2_init_24 rfl (lv_at hl 0 rfl) ?_
  refine lv_iconst (v := 0) hx hb dX2_init_25 (by decide) ?_
  refine k_put (ci := 2) (x := .int 0) (ty := .int) (fs := [.int 0, .int 0, .int 0, .int 0, .int 0]) C hin2 h 60 (by decide) (show E_4 60 = .inr (2, [.int 0, .int 0, .int 0, .int 0, .int 0]) from (by rw [hE_4]; rfl)) rfl hi2 tyX2 tyX2_ok nmX2 4 (by decide) (index := 25) (List.mem_of_getElem? (i := 8) rfl) rfl rfl (by decide +kernel) rfl rfl (Nat.le_of_ble_eq_true rfl) dX2_init_26 (fun H locs h => ?_)
  obtain ⟨E_5, hE_5⟩ : ∃ z, z = va_up E_4 60 (.inr (2, [.int 0, .int 0, .int 0, .int 0, .int 0])) := ⟨_, rfl⟩
  have h : kS D s s0 61 E_5 H locs := by rw [hE_5]; exact h
  have f1 : ∀ k, k < 61 → k ≠ 60 → E_5 k = E k := fun k h1 h2 => ((ue hE_5 (by omega)).trans ((ue hE_4 (by omega)).trans ((ue hE_3 (by omega)).trans ((ue hE_2 (by omega)).trans ((ue hE_1 (by omega)).trans rfl)))))
  have f2 : E_5 60 = gE (kG D cs s0) V0 W0 SG0 60 := (show E_5 60 = .inr (2, [.int 0, .int 0, .int 0, .int 0, .int 0]) from (by rw [hE_5]; rfl))
  have f3 : ∀ k, 61 ≤ k → k < 61 → E_5 k = gE (kG D cs s0) V0 W0 SG0 k := fun k h1 h2 => absurd h2 (by omega)
  exact k_vret C hlk hr h dX2_init_29 ⟨f1, f2, f3⟩

set_option maxHeartbeats 4000000 in
set_option maxRecDepth 100000 in
theorem c_X2_init_61 (l : Launch) (D : va_G) (cs : Nat → ClassId) (s0 : Nat) (E : Nat → va_E) (ho : E 61 = .inr (2, [.int 0, .int 0, .int 0, .int 0, .int 0])) : Met l yX2_init wsX2_init ({ frames := 1, cells := 0, slots := 0, locals := 20 }) (kPre D cs s0 62 E [.ref (s0 + 61)]) (kQ D s0 62 (kP D cs s0 62 62 61 E)) 0 0 (fun q => s0 ≤ q) := by
  refine kM_of (cc := cX2_init) (maxL := 1) (by decide) rfl (Nat.le_of_ble_eq_true rfl) ?_
  intro p e R s m args below meth c ls C hR hlk hr hin2 h hl
  have hx := C.1.1
  have hb := C.1.2.1
  have hml := C.1.2.2.1
  have hown := C.1.2.2.2.1
  have hts := C.1.2.2.2.2
  have hl : lv_has ls 1 [(0, .ref (s0 + 61))] := hl
  have hi2 : ∀ x ∈ u_ws RX2 TX2 5, x ∈ wsX2_init := fun x q => List.mem_cons_of_mem _ (List.mem_append_right _ q)
  refine lv_aload_n hx hb dX2_init_0 rfl (lv_at hl 0 rfl) ?_
  refine W.objInit hx hb hown (hts (.methodLink RX2 3 objectInit) (List.mem_of_getElem? (i := 1) rfl)) (hts (.instanceMethod objectInit) (List.mem_of_getElem? (i := 2) rfl)) (hts (.code objectInit ⟨#[0xb1]⟩ 1 none) (List.mem_of_getElem? (i := 3) rfl)) rfl (by rw [hml]; exact hl.1) rfl dX2_init_1 (by rw [hR]; exact Nat.le_of_ble_eq_true rfl) (by rw [hR]; exact Nat.le_of_ble_eq_true rfl) ?_
  refine W.eq (g2 := F0 m 4 ls []) rfl ?_
  refine lv_aload_n hx hb dX2_init_4 rfl (lv_at hl 0 rfl) ?_
  refine lv_iconst (v := 0) hx hb dX2_init_5 (by decide) ?_
  refine k_put (ci := 2) (x := .int 0) (ty := .boolean) (fs := [.int 0, .int 0, .int 0, .int 0, .int 0]) C hin2 h 61 (by decide) ho rfl hi2 tyX2 tyX2_ok nmX2 0 (by decide) (index := 9) (List.mem_of_getElem? (i := 4) rfl) rfl rfl (by decide +kernel) rfl rfl (Nat.le_of_ble_eq_true rfl) dX2_init_6 (fun H locs h => ?_)
  obtain ⟨E_1, hE_1⟩ : ∃ z, z = va_up E 61 (.inr (2, [.int 0, .int 0, .int 0, .int 0, .int 0])) := ⟨_, rfl⟩
  have h : kS D s s0 62 E_1 H locs := by rw [hE_1]; exact h
  refine lv_aload_n hx hb dX2_init_9 rfl (lv_at hl 0 rfl) ?_
  refine lv_iconst (v := 0) hx hb dX2_init_10 (by decide) ?_
  refine k_put (ci := 2) (x := .int 0) (ty := .int) (fs := [.int 0, .int 0, .int 0, .int 0, .int 0]) C hin2 h 61 (by decide) (show E_1 61 = .inr (2, [.int 0, .int 0, .int 0, .int 0, .int 0]) from (by rw [hE_1]; rfl)) rfl hi2 tyX2 tyX2_ok nmX2 1 (by decide) (index := 15) (List.mem_of_getElem? (i := 5) rfl) rfl rfl (by decide +kernel) rfl rfl (Nat.le_of_ble_eq_true rfl) dX2_init_11 (fun H locs h => ?_)
  obtain ⟨E_2, hE_2⟩ : ∃ z, z = va_up E_1 61 (.inr (2, [.int 0, .int 0, .int 0, .int 0, .int 0])) := ⟨_, rfl⟩
  have h : kS D s s0 62 E_2 H locs := by rw [hE_2]; exact h
  refine lv_aload_n hx hb dX2_init_14 rfl (lv_at hl 0 rfl) ?_
  refine lv_iconst (v := 0) hx hb dX2_init_15 (by decide) ?_
  refine k_put (ci := 2) (x := .int 0) (ty := .int) (fs := [.int 0, .int 0, .int 0, .int 0, .int 0]) C hin2 h 61 (by decide) (show E_2 61 = .inr (2, [.int 0, .int 0, .int 0, .int 0, .int 0]) from (by rw [hE_2]; rfl)) rfl hi2 tyX2 tyX2_ok nmX2 2 (by decide) (index := 19) (List.mem_of_getElem? (i := 6) rfl) rfl rfl (by decide +kernel) rfl rfl (Nat.le_of_ble_eq_true rfl) dX2_init_16 (fun H locs h => ?_)
  obtain ⟨E_3, hE_3⟩ : ∃ z, z = va_up E_2 61 (.inr (2, [.int 0, .int 0, .int 0, .int 0, .int 0])) := ⟨_, rfl⟩
  have h : kS D s s0 62 E_3 H locs := by rw [hE_3]; exact h
  refine lv_aload_n hx hb dX2_init_19 rfl (lv_at hl 0 rfl) ?_
  refine lv_iconst (v := 0) hx hb dX2_init_20 (by decide) ?_
  refine k_put (ci := 2) (x := .int 0) (ty := .int) (fs := [.int 0, .int 0, .int 0, .int 0, .int 0]) C hin2 h 61 (by decide) (show E_3 61 = .inr (2, [.int 0, .int 0, .int 0, .int 0, .int 0]) from (by rw [hE_3]; rfl)) rfl hi2 tyX2 tyX2_ok nmX2 3 (by decide) (index := 22) (List.mem_of_getElem? (i := 7) rfl) rfl rfl (by decide +kernel) rfl rfl (Nat.le_of_ble_eq_true rfl) dX2_init_21 (fun H locs h => ?_)
  obtain ⟨E_4, hE_4⟩ : ∃ z, z = va_up E_3 61 (.inr (2, [.int 0, .int 0, .int 0, .int 0, .int 0])) := ⟨_, rfl⟩
  have h : kS D s s0 62 E_4 H locs := by rw [hE_4]; exact h
  refine lv_aload_n hx hb dX2_init_24 rfl (lv_at hl 0 rfl) ?_
  refine lv_iconst (v := 0) hx hb dX2_init_25 (by decide) ?_
  refine k_put (ci := 2) (x := .int 0) (ty := .int) (fs := [.int 0, .int 0, .int 0, .int 0, .int 0]) C hin2 h 61 (by decide) (show E_4 61 = .inr (2, [.int 0, .int 0, .int 0, .int 0, .int 0]) from (by rw [hE_4]; rfl)) rfl hi2 tyX2 tyX2_ok nmX2 4 (by decide) (index := 25) (List.mem_of_getElem? (i := 8) rfl) rfl rfl (by decide +kernel) rfl rfl (Nat.le_of_ble_eq_true rfl) dX2_init_26 (fun H locs h => ?_)
  obtain ⟨E_5, hE_5⟩ : ∃ z, z = va_up E_4 61 (.inr (2, [.int 0, .int 0, .int 0, .int 0, .int 0])) := ⟨_, rfl⟩
  have h : kS D s s0 62 E_5 H locs := by rw [hE_5]; exact h
  have f1 : ∀ k, k < 62 → k ≠ 61 → E_5 k = E k := fun k h1 h2 => ((ue hE_5 (by omega)).trans ((ue hE_4 (by omega)).trans ((ue hE_3 (by omega)).trans ((ue hE_2 (by omega)).trans ((ue hE_1 (by omega)).trans rfl)))))
  have f2 : E_5 61 = gE (kG D cs s0) V0 W0 SG0 61 := (show E_5 61 = .inr (2, [.int 0, .int 0, .int 0, .int 0, .int 0]) from (by rw [hE_5]; rfl))
  have f3 : ∀ k, 62 ≤ k → k < 62 → E_5 k = gE (kG D cs s0) V0 W0 SG0 k := fun k h1 h2 => absurd h2 (by omega)
  exact k_vret C hlk hr h dX2_init_29 ⟨f1, f2, f3⟩

set_option maxHeartbeats 4000000 in
set_option maxRecDepth 100000 in
theorem c_X2_init_62 (l : Launch) (D : va_G) (cs : Nat → ClassId) (s0 : Nat) (E : Nat → va_E) (ho : E 62 = .inr (2, [.int 0, .int 0, .int 0, .int 0, .int 0])) : Met l yX2_init wsX2_init ({ frames := 1, cells := 0, slots := 0, locals := 20 }) (kPre D cs s0 63 E [.ref (s0 + 62)]) (kQ D s0 63 (kP D cs s0 63 63 62 E)) 0 0 (fun q => s0 ≤ q) := by
  refine kM_of (cc := cX2_init) (maxL := 1) (by decide) rfl (Nat.le_of_ble_eq_true rfl) ?_
  intro p e R s m args below meth c ls C hR hlk hr hin2 h hl
  have hx := C.1.1
  have hb := C.1.2.1
  have hml := C.1.2.2.1
  have hown := C.1.2.2.2.1
  have hts := C.1.2.2.2.2
  have hl : lv_has ls 1 [(0, .ref (s0 + 62))] := hl
  have hi2 : ∀ x ∈ u_ws RX2 TX2 5, x ∈ wsX2_init := fun x q => List.mem_cons_of_mem _ (List.mem_append_right _ q)
  refine lv_aload_n hx hb dX2_init_0 rfl (lv_at hl 0 rfl) ?_
  refine W.objInit hx hb hown (hts (.methodLink RX2 3 objectInit) (List.mem_of_getElem? (i := 1) rfl)) (hts (.instanceMethod objectInit) (List.mem_of_getElem? (i := 2) rfl)) (hts (.code objectInit ⟨#[0xb1]⟩ 1 none) (List.mem_of_getElem? (i := 3) rfl)) rfl (by rw [hml]; exact hl.1) rfl dX2_init_1 (by rw [hR]; exact Nat.le_of_ble_eq_true rfl) (by rw [hR]; exact Nat.le_of_ble_eq_true rfl) ?_
  refine W.eq (g2 := F0 m 4 ls []) rfl ?_
  refine lv_aload_n hx hb dX2_init_4 rfl (lv_at hl 0 rfl) ?_
  refine lv_iconst (v := 0) hx hb dX2_init_5 (by decide) ?_
  refine k_put (ci := 2) (x := .int 0) (ty := .boolean) (fs := [.int 0, .int 0, .int 0, .int 0, .int 0]) C hin2 h 62 (by decide) ho rfl hi2 tyX2 tyX2_ok nmX2 0 (by decide) (index := 9) (List.mem_of_getElem? (i := 4) rfl) rfl rfl (by decide +kernel) rfl rfl (Nat.le_of_ble_eq_true rfl) dX2_init_6 (fun H locs h => ?_)
  obtain ⟨E_1, hE_1⟩ : ∃ z, z = va_up E 62 (.inr (2, [.int 0, .int 0, .int 0, .int 0, .int 0])) := ⟨_, rfl⟩
  have h : kS D s s0 63 E_1 H locs := by rw [hE_1]; exact h
  refine lv_aload_n hx hb dX2_init_9 rfl (lv_at hl 0 rfl) ?_
  refine lv_iconst (v := 0) hx hb dX2_init_10 (by decide) ?_
  refine k_put (ci := 2) (x := .int 0) (ty := .int) (fs := [.int 0, .int 0, .int 0, .int 0, .int 0]) C hin2 h 62 (by decide) (show E_1 62 = .inr (2, [.int 0, .int 0, .int 0, .int 0, .int 0]) from (by rw [hE_1]; rfl)) rfl hi2 tyX2 tyX2_ok nmX2 1 (by decide) (index := 15) (List.mem_of_getElem? (i := 5) rfl) rfl rfl (by decide +kernel) rfl rfl (Nat.le_of_ble_eq_true rfl) dX2_init_11 (fun H locs h => ?_)
  obtain ⟨E_2, hE_2⟩ : ∃ z, z = va_up E_1 62 (.inr (2, [.int 0, .int 0, .int 0, .int 0, .int 0])) := ⟨_, rfl⟩
  have h : kS D s s0 63 E_2 H locs := by rw [hE_2]; exact h
  refine lv_aload_n hx hb dX2_init_14 rfl (lv_at hl 0 rfl) ?_
  refine lv_iconst (v := 0) hx hb dX2_init_15 (by decide) ?_
  refine k_put (ci := 2) (x := .int 0) (ty := .int) (fs := [.int 0, .int 0, .int 0, .int 0, .int 0]) C hin2 h 62 (by decide) (show E_2 62 = .inr (2, [.int 0, .int 0, .int 0, .int 0, .int 0]) from (by rw [hE_2]; rfl)) rfl hi2 tyX2 tyX2_ok nmX2 2 (by decide) (index := 19) (List.mem_of_getElem? (i := 6) rfl) rfl rfl (by decide +kernel) rfl rfl (Nat.le_of_ble_eq_true rfl) dX2_init_16 (fun H locs h => ?_)
  obtain ⟨E_3, hE_3⟩ : ∃ z, z = va_up E_2 62 (.inr (2, [.int 0, .int 0, .int 0, .int 0, .int 0])) := ⟨_, rfl⟩
  have h : kS D s s0 63 E_3 H locs := by rw [hE_3]; exact h
  refine lv_aload_n hx hb dX2_init_19 rfl (lv_at hl 0 rfl) ?_
  refine lv_iconst (v := 0) hx hb dX2_init_20 (by decide) ?_
  refine k_put (ci := 2) (x := .int 0) (ty := .int) (fs := [.int 0, .int 0, .int 0, .int 0, .int 0]) C hin2 h 62 (by decide) (show E_3 62 = .inr (2, [.int 0, .int 0, .int 0, .int 0, .int 0]) from (by rw [hE_3]; rfl)) rfl hi2 tyX2 tyX2_ok nmX2 3 (by decide) (index := 22) (List.mem_of_getElem? (i := 7) rfl) rfl rfl (by decide +kernel) rfl rfl (Nat.le_of_ble_eq_true rfl) dX2_init_21 (fun H locs h => ?_)
  obtain ⟨E_4, hE_4⟩ : ∃ z, z = va_up E_3 62 (.inr (2, [.int 0, .int 0, .int 0, .int 0, .int 0])) := ⟨_, rfl⟩
  have h : kS D s s0 63 E_4 H locs := by rw [hE_4]; exact h
  refine lv_aload_n hx hb dX2_init_24 rfl (lv_at hl 0 rfl) ?_
  refine lv_iconst (v := 0) hx hb dX2_init_25 (by decide) ?_
  refine k_put (ci := 2) (x := .int 0) (ty := .int) (fs := [.int 0, .int 0, .int 0, .int 0, .int 0]) C hin2 h 62 (by decide) (show E_4 62 = .inr (2, [.int 0, .int 0, .int 0, .int 0, .int 0]) from (by rw [hE_4]; rfl)) rfl hi2 tyX2 tyX2_ok nmX2 4 (by decide) (index := 25) (List.mem_of_getElem? (i := 8) rfl) rfl rfl (by decide +kernel) rfl rfl (Nat.le_of_ble_eq_true rfl) dX2_init_26 (fun H locs h => ?_)
  obtain ⟨E_5, hE_5⟩ : ∃ z, z = va_up E_4 62 (.inr (2, [.int 0, .int 0, .int 0, .int 0, .int 0])) := ⟨_, rfl⟩
  have h : kS D s s0 63 E_5 H locs := by rw [hE_5]; exact h
  have f1 : ∀ k, k < 63 → k ≠ 62 → E_5 k = E k := fun k h1 h2 => ((ue hE_5 (by omega)).trans ((ue hE_4 (by omega)).trans ((ue hE_3 (by omega)).trans ((ue hE_2 (by omega)).trans ((ue hE_1 (by omega)).trans rfl)))))
  have f2 : E_5 62 = gE (kG D cs s0) V0 W0 SG0 62 := (show E_5 62 = .inr (2, [.int 0, .int 0, .int 0, .int 0, .int 0]) from (by rw [hE_5]; rfl))
  have f3 : ∀ k, 63 ≤ k → k < 63 → E_5 k = gE (kG D cs s0) V0 W0 SG0 k := fun k h1 h2 => absurd h2 (by omega)
  exact k_vret C hlk hr h dX2_init_29 ⟨f1, f2, f3⟩

set_option maxHeartbeats 4000000 in
set_option maxRecDepth 100000 in
theorem c_X2_init_63 (l : Launch) (D : va_G) (cs : Nat → ClassId) (s0 : Nat) (E : Nat → va_E) (ho : E 63 = .inr (2, [.int 0, .int 0, .int 0, .int 0, .int 0])) : Met l yX2_init wsX2_init ({ frames := 1, cells := 0, slots := 0, locals := 20 }) (kPre D cs s0 64 E [.ref (s0 + 63)]) (kQ D s0 64 (kP D cs s0 64 64 63 E)) 0 0 (fun q => s0 ≤ q) := by
  refine kM_of (cc := cX2_init) (maxL := 1) (by decide) rfl (Nat.le_of_ble_eq_true rfl) ?_
  intro p e R s m args below meth c ls C hR hlk hr hin2 h hl
  have hx := C.1.1
  have hb := C.1.2.1
  have hml := C.1.2.2.1
  have hown := C.1.2.2.2.1
  have hts := C.1.2.2.2.2
  have hl : lv_has ls 1 [(0, .ref (s0 + 63))] := hl
  have hi2 : ∀ x ∈ u_ws RX2 TX2 5, x ∈ wsX2_init := fun x q => List.mem_cons_of_mem _ (List.mem_append_right _ q)
  refine lv_aload_n hx hb dX2_init_0 rfl (lv_at hl 0 rfl) ?_
  refine W.objInit hx hb hown (hts (.methodLink RX2 3 objectInit) (List.mem_of_getElem? (i := 1) rfl)) (hts (.instanceMethod objectInit) (List.mem_of_getElem? (i := 2) rfl)) (hts (.code objectInit ⟨#[0xb1]⟩ 1 none) (List.mem_of_getElem? (i := 3) rfl)) rfl (by rw [hml]; exact hl.1) rfl dX2_init_1 (by rw [hR]; exact Nat.le_of_ble_eq_true rfl) (by rw [hR]; exact Nat.le_of_ble_eq_true rfl) ?_
  refine W.eq (g2 := F0 m 4 ls []) rfl ?_
  refine lv_aload_n hx hb dX2_init_4 rfl (lv_at hl 0 rfl) ?_
  refine lv_iconst (v := 0) hx hb dX2_init_5 (by decide) ?_
  refine k_put (ci := 2) (x := .int 0) (ty := .boolean) (fs := [.int 0, .int 0, .int 0, .int 0, .int 0]) C hin2 h 63 (by decide) ho rfl hi2 tyX2 tyX2_ok nmX2 0 (by decide) (index := 9) (List.mem_of_getElem? (i := 4) rfl) rfl rfl (by decide +kernel) rfl rfl (Nat.le_of_ble_eq_true rfl) dX2_init_6 (fun H locs h => ?_)
  obtain ⟨E_1, hE_1⟩ : ∃ z, z = va_up E 63 (.inr (2, [.int 0, .int 0, .int 0, .int 0, .int 0])) := ⟨_, rfl⟩
  have h : kS D s s0 64 E_1 H locs := by rw [hE_1]; exact h
  refine lv_aload_n hx hb dX2_init_9 rfl (lv_at hl 0 rfl) ?_
  refine lv_iconst (v := 0) hx hb dX2_init_10 (by decide) ?_
  refine k_put (ci := 2) (x := .int 0) (ty := .int) (fs := [.int 0, .int 0, .int 0, .int 0, .int 0]) C hin2 h 63 (by decide) (show E_1 63 = .inr (2, [.int 0, .int 0, .int 0, .int 0, .int 0]) from (by rw [hE_1]; rfl)) rfl hi2 tyX2 tyX2_ok nmX2 1 (by decide) (index := 15) (List.mem_of_getElem? (i := 5) rfl) rfl rfl (by decide +kernel) rfl rfl (Nat.le_of_ble_eq_true rfl) dX2_init_11 (fun H locs h => ?_)
  obtain ⟨E_2, hE_2⟩ : ∃ z, z = va_up E_1 63 (.inr (2, [.int 0, .int 0, .int 0, .int 0, .int 0])) := ⟨_, rfl⟩
  have h : kS D s s0 64 E_2 H locs := by rw [hE_2]; exact h
  refine lv_aload_n hx hb dX2_init_14 rfl (lv_at hl 0 rfl) ?_
  refine lv_iconst (v := 0) hx hb dX2_init_15 (by decide) ?_
  refine k_put (ci := 2) (x := .int 0) (ty := .int) (fs := [.int 0, .int 0, .int 0, .int 0, .int 0]) C hin2 h 63 (by decide) (show E_2 63 = .inr (2, [.int 0, .int 0, .int 0, .int 0, .int 0]) from (by rw [hE_2]; rfl)) rfl hi2 tyX2 tyX2_ok nmX2 2 (by decide) (index := 19) (List.mem_of_getElem? (i := 6) rfl) rfl rfl (by decide +kernel) rfl rfl (Nat.le_of_ble_eq_true rfl) dX2_init_16 (fun H locs h => ?_)
  obtain ⟨E_3, hE_3⟩ : ∃ z, z = va_up E_2 63 (.inr (2, [.int 0, .int 0, .int 0, .int 0, .int 0])) := ⟨_, rfl⟩
  have h : kS D s s0 64 E_3 H locs := by rw [hE_3]; exact h
  refine lv_aload_n hx hb dX2_init_19 rfl (lv_at hl 0 rfl) ?_
  refine lv_iconst (v := 0) hx hb dX2_init_20 (by decide) ?_
  refine k_put (ci := 2) (x := .int 0) (ty := .int) (fs := [.int 0, .int 0, .int 0, .int 0, .int 0]) C hin2 h 63 (by decide) (show E_3 63 = .inr (2, [.int 0, .int 0, .int 0, .int 0, .int 0]) from (by rw [hE_3]; rfl)) rfl hi2 tyX2 tyX2_ok nmX2 3 (by decide) (index := 22) (List.mem_of_getElem? (i := 7) rfl) rfl rfl (by decide +kernel) rfl rfl (Nat.le_of_ble_eq_true rfl) dX2_init_21 (fun H locs h => ?_)
  obtain ⟨E_4, hE_4⟩ : ∃ z, z = va_up E_3 63 (.inr (2, [.int 0, .int 0, .int 0, .int 0, .int 0])) := ⟨_, rfl⟩
  have h : kS D s s0 64 E_4 H locs := by rw [hE_4]; exact h
  refine lv_aload_n hx hb dX2_init_24 rfl (lv_at hl 0 rfl) ?_
  refine lv_iconst (v := 0) hx hb dX2_init_25 (by decide) ?_
  refine k_put (ci := 2) (x := .int 0) (ty := .int) (fs := [.int 0, .int 0, .int 0, .int 0, .int 0]) C hin2 h 63 (by decide) (show E_4 63 = .inr (2, [.int 0, .int 0, .int 0, .int 0, .int 0]) from (by rw [hE_4]; rfl)) rfl hi2 tyX2 tyX2_ok nmX2 4 (by decide) (index := 25) (List.mem_of_getElem? (i := 8) rfl) rfl rfl (by decide +kernel) rfl rfl (Nat.le_of_ble_eq_true rfl) dX2_init_26 (fun H locs h => ?_)
  obtain ⟨E_5, hE_5⟩ : ∃ z, z = va_up E_4 63 (.inr (2, [.int 0, .int 0, .int 0, .int 0, .int 0])) := ⟨_, rfl⟩
  have h : kS D s s0 64 E_5 H locs := by rw [hE_5]; exact h
  have f1 : ∀ k, k < 64 → k ≠ 63 → E_5 k = E k := fun k h1 h2 => ((ue hE_5 (by omega)).trans ((ue hE_4 (by omega)).trans ((ue hE_3 (by omega)).trans ((ue hE_2 (by omega)).trans ((ue hE_1 (by omega)).trans rfl)))))
  have f2 : E_5 63 = gE (kG D cs s0) V0 W0 SG0 63 := (show E_5 63 = .inr (2, [.int 0, .int 0, .int 0, .int 0, .int 0]) from (by rw [hE_5]; rfl))
  have f3 : ∀ k, 64 ≤ k → k < 64 → E_5 k = gE (kG D cs s0) V0 W0 SG0 k := fun k h1 h2 => absurd h2 (by omega)
  exact k_vret C hlk hr h dX2_init_29 ⟨f1, f2, f3⟩

set_option maxHeartbeats 4000000 in
set_option maxRecDepth 100000 in
theorem c_X2_init_64 (l : Launch) (D : va_G) (cs : Nat → ClassId) (s0 : Nat) (E : Nat → va_E) (ho : E 64 = .inr (2, [.int 0, .int 0, .int 0, .int 0, .int 0])) : Met l yX2_init wsX2_init ({ frames := 1, cells := 0, slots := 0, locals := 20 }) (kPre D cs s0 65 E [.ref (s0 + 64)]) (kQ D s0 65 (kP D cs s0 65 65 64 E)) 0 0 (fun q => s0 ≤ q) := by
  refine kM_of (cc := cX2_init) (maxL := 1) (by decide) rfl (Nat.le_of_ble_eq_true rfl) ?_
  intro p e R s m args below meth c ls C hR hlk hr hin2 h hl
  have hx := C.1.1
  have hb := C.1.2.1
  have hml := C.1.2.2.1
  have hown := C.1.2.2.2.1
  have hts := C.1.2.2.2.2
  have hl : lv_has ls 1 [(0, .ref (s0 + 64))] := hl
  have hi2 : ∀ x ∈ u_ws RX2 TX2 5, x ∈ wsX2_init := fun x q => List.mem_cons_of_mem _ (List.mem_append_right _ q)
  refine lv_aload_n hx hb dX2_init_0 rfl (lv_at hl 0 rfl) ?_
  refine W.objInit hx hb hown (hts (.methodLink RX2 3 objectInit) (List.mem_of_getElem? (i := 1) rfl)) (hts (.instanceMethod objectInit) (List.mem_of_getElem? (i := 2) rfl)) (hts (.code objectInit ⟨#[0xb1]⟩ 1 none) (List.mem_of_getElem? (i := 3) rfl)) rfl (by rw [hml]; exact hl.1) rfl dX2_init_1 (by rw [hR]; exact Nat.le_of_ble_eq_true rfl) (by rw [hR]; exact Nat.le_of_ble_eq_true rfl) ?_
  refine W.eq (g2 := F0 m 4 ls []) rfl ?_
  refine lv_aload_n hx hb dX2_init_4 rfl (lv_at hl 0 rfl) ?_
  refine lv_iconst (v := 0) hx hb dX2_init_5 (by decide) ?_
  refine k_put (ci := 2) (x := .int 0) (ty := .boolean) (fs := [.int 0, .int 0, .int 0, .int 0, .int 0]) C hin2 h 64 (by decide) ho rfl hi2 tyX2 tyX2_ok nmX2 0 (by decide) (index := 9) (List.mem_of_getElem? (i := 4) rfl) rfl rfl (by decide +kernel) rfl rfl (Nat.le_of_ble_eq_true rfl) dX2_init_6 (fun H locs h => ?_)
  obtain ⟨E_1, hE_1⟩ : ∃ z, z = va_up E 64 (.inr (2, [.int 0, .int 0, .int 0, .int 0, .int 0])) := ⟨_, rfl⟩
  have h : kS D s s0 65 E_1 H locs := by rw [hE_1]; exact h
  refine lv_aload_n hx hb dX2_init_9 rfl (lv_at hl 0 rfl) ?_
  refine lv_iconst (v := 0) hx hb dX2_init_10 (by decide) ?_
  refine k_put (ci := 2) (x := .int 0) (ty := .int) (fs := [.int 0, .int 0, .int 0, .int 0, .int 0]) C hin2 h 64 (by decide) (show E_1 64 = .inr (2, [.int 0, .int 0, .int 0, .int 0, .int 0]) from (by rw [hE_1]; rfl)) rfl hi2 tyX2 tyX2_ok nmX2 1 (by decide) (index := 15) (List.mem_of_getElem? (i := 5) rfl) rfl rfl (by decide +kernel) rfl rfl (Nat.le_of_ble_eq_true rfl) dX2_init_11 (fun H locs h => ?_)
  obtain ⟨E_2, hE_2⟩ : ∃ z, z = va_up E_1 64 (.inr (2, [.int 0, .int 0, .int 0, .int 0, .int 0])) := ⟨_, rfl⟩
  have h : kS D s s0 65 E_2 H locs := by rw [hE_2]; exact h
  refine lv_aload_n hx hb dX2_init_14 rfl (lv_at hl 0 rfl) ?_
  refine lv_iconst (v := 0) hx hb dX2_init_15 (by decide) ?_
  refine k_put (ci := 2) (x := .int 0) (ty := .int) (fs := [.int 0, .int 0, .int 0, .int 0, .int 0]) C hin2 h 64 (by decide) (show E_2 64 = .inr (2, [.int 0, .int 0, .int 0, .int 0, .int 0]) from (by rw [hE_2]; rfl)) rfl hi2 tyX2 tyX2_ok nmX2 2 (by decide) (index := 19) (List.mem_of_getElem? (i := 6) rfl) rfl rfl (by decide +kernel) rfl rfl (Nat.le_of_ble_eq_true rfl) dX2_init_16 (fun H locs h => ?_)
  obtain ⟨E_3, hE_3⟩ : ∃ z, z = va_up E_2 64 (.inr (2, [.int 0, .int 0, .int 0, .int 0, .int 0])) := ⟨_, rfl⟩
  have h : kS D s s0 65 E_3 H locs := by rw [hE_3]; exact h
  refine lv_aload_n hx hb dX2_init_19 rfl (lv_at hl 0 rfl) ?_
  refine lv_iconst (v := 0) hx hb dX2_init_20 (by decide) ?_
  refine k_put (ci := 2) (x := .int 0) (ty := .int) (fs := [.int 0, .int 0, .int 0, .int 0, .int 0]) C hin2 h 64 (by decide) (show E_3 64 = .inr (2, [.int 0, .int 0, .int 0, .int 0, .int 0]) from (by rw [hE_3]; rfl)) rfl hi2 tyX2 tyX2_ok nmX2 3 (by decide) (index := 22) (List.mem_of_getElem? (i := 7) rfl) rfl rfl (by decide +kernel) rfl rfl (Nat.le_of_ble_eq_true rfl) dX2_init_21 (fun H locs h => ?_)
  obtain ⟨E_4, hE_4⟩ : ∃ z, z = va_up E_3 64 (.inr (2, [.int 0, .int 0, .int 0, .int 0, .int 0])) := ⟨_, rfl⟩
  have h : kS D s s0 65 E_4 H locs := by rw [hE_4]; exact h
  refine lv_aload_n hx hb dX2_init_24 rfl (lv_at hl 0 rfl) ?_
  refine lv_iconst (v := 0) hx hb dX2_init_25 (by decide) ?_
  refine k_put (ci := 2) (x := .int 0) (ty := .int) (fs := [.int 0, .int 0, .int 0, .int 0, .int 0]) C hin2 h 64 (by decide) (show E_4 64 = .inr (2, [.int 0, .int 0, .int 0, .int 0, .int 0]) from (by rw [hE_4]; rfl)) rfl hi2 tyX2 tyX2_ok nmX2 4 (by decide) (index := 25) (List.mem_of_getElem? (i := 8) rfl) rfl rfl (by decide +kernel) rfl rfl (Nat.le_of_ble_eq_true rfl) dX2_init_26 (fun H locs h => ?_)
  obtain ⟨E_5, hE_5⟩ : ∃ z, z = va_up E_4 64 (.inr (2, [.int 0, .int 0, .int 0, .int 0, .int 0])) := ⟨_, rfl⟩
  have h : kS D s s0 65 E_5 H locs := by rw [hE_5]; exact h
  have f1 : ∀ k, k < 65 → k ≠ 64 → E_5 k = E k := fun k h1 h2 => ((ue hE_5 (by omega)).trans ((ue hE_4 (by omega)).trans ((ue hE_3 (by omega)).trans ((ue hE_2 (by omega)).trans ((ue hE_1 (by omega)).trans rfl)))))
  have f2 : E_5 64 = gE (kG D cs s0) V0 W0 SG0 64 := (show E_5 64 = .inr (2, [.int 0, .int 0, .int 0, .int 0, .int 0]) from (by rw [hE_5]; rfl))
  have f3 : ∀ k, 65 ≤ k → k < 65 → E_5 k = gE (kG D cs s0) V0 W0 SG0 k := fun k h1 h2 => absurd h2 (by omega)
  exact k_vret C hlk hr h dX2_init_29 ⟨f1, f2, f3⟩

set_option maxHeartbeats 4000000 in
set_option maxRecDepth 100000 in
theorem c_X2_init_65 (l : Launch) (D : va_G) (cs : Nat → ClassId) (s0 : Nat) (E : Nat → va_E) (ho : E 65 = .inr (2, [.int 0, .int 0, .int 0, .int 0, .int 0])) : Met l yX2_init wsX2_init ({ frames := 1, cells := 0, slots := 0, locals := 20 }) (kPre D cs s0 66 E [.ref (s0 + 65)]) (kQ D s0 66 (kP D cs s0 66 66 65 E)) 0 0 (fun q => s0 ≤ q) := by
  refine kM_of (cc := cX2_init) (maxL := 1) (by decide) rfl (Nat.le_of_ble_eq_true rfl) ?_
  intro p e R s m args below meth c ls C hR hlk hr hin2 h hl
  have hx := C.1.1
  have hb := C.1.2.1
  have hml := C.1.2.2.1
  have hown := C.1.2.2.2.1
  have hts := C.1.2.2.2.2
  have hl : lv_has ls 1 [(0, .ref (s0 + 65))] := hl
  have hi2 : ∀ x ∈ u_ws RX2 TX2 5, x ∈ wsX2_init := fun x q => List.mem_cons_of_mem _ (List.mem_append_right _ q)
  refine lv_aload_n hx hb dX2_init_0 rfl (lv_at hl 0 rfl) ?_
  refine W.objInit hx hb hown (hts (.methodLink RX2 3 objectInit) (List.mem_of_getElem? (i := 1) rfl)) (hts (.instanceMethod objectInit) (List.mem_of_getElem? (i := 2) rfl)) (hts (.code objectInit ⟨#[0xb1]⟩ 1 none) (List.mem_of_getElem? (i := 3) rfl)) rfl (by rw [hml]; exact hl.1) rfl dX2_init_1 (by rw [hR]; exact Nat.le_of_ble_eq_true rfl) (by rw [hR]; exact Nat.le_of_ble_eq_true rfl) ?_
  refine W.eq (g2 := F0 m 4 ls []) rfl ?_
  refine lv_aload_n hx hb dX2_init_4 rfl (lv_at hl 0 rfl) ?_
  refine lv_iconst (v := 0) hx hb dX2_init_5 (by decide) ?_
  refine k_put (ci := 2) (x := .int 0) (ty := .boolean) (fs := [.int 0, .int 0, .int 0, .int 0, .int 0]) C hin2 h 65 (by decide) ho rfl hi2 tyX2 tyX2_ok nmX2 0 (by decide) (index := 9) (List.mem_of_getElem? (i := 4) rfl) rfl rfl (by decide +kernel) rfl rfl (Nat.le_of_ble_eq_true rfl) dX2_init_6 (fun H locs h => ?_)
  obtain ⟨E_1, hE_1⟩ : ∃ z, z = va_up E 65 (.inr (2, [.int 0, .int 0, .int 0, .int 0, .int 0])) := ⟨_, rfl⟩
  have h : kS D s s0 66 E_1 H locs := by rw [hE_1]; exact h
  refine lv_aload_n hx hb dX2_init_9 rfl (lv_at hl 0 rfl) ?_
  refine lv_iconst (v := 0) hx hb dX2_init_10 (by decide) ?_
  refine k_put (ci := 2) (x := .int 0) (ty := .int) (fs := [.int 0, .int 0, .int 0, .int 0, .int 0]) C hin2 h 65 (by decide) (show E_1 65 = .inr (2, [.int 0, .int 0, .int 0, .int 0, .int 0]) from (by rw [hE_1]; rfl)) rfl hi2 tyX2 tyX2_ok nmX2 1 (by decide) (index := 15) (List.mem_of_getElem? (i := 5) rfl) rfl rfl (by decide +kernel) rfl rfl (Nat.le_of_ble_eq_true rfl) dX2_init_11 (fun H locs h => ?_)
  obtain ⟨E_2, hE_2⟩ : ∃ z, z = va_up E_1 65 (.inr (2, [.int 0, .int 0, .int 0, .int 0, .int 0])) := ⟨_, rfl⟩
  have h : kS D s s0 66 E_2 H locs := by rw [hE_2]; exact h
  refine lv_aload_n hx hb dX2_init_14 rfl (lv_at hl 0 rfl) ?_
  refine lv_iconst (v := 0) hx hb dX2_init_15 (by decide) ?_
  refine k_put (ci := 2) (x := .int 0) (ty := .int) (fs := [.int 0, .int 0, .int 0, .int 0, .int 0]) C hin2 h 65 (by decide) (show E_2 65 = .inr (2, [.int 0, .int 0, .int 0, .int 0, .int 0]) from (by rw [hE_2]; rfl)) rfl hi2 tyX2 tyX2_ok nmX2 2 (by decide) (index := 19) (List.mem_of_getElem? (i := 6) rfl) rfl rfl (by decide +kernel) rfl rfl (Nat.le_of_ble_eq_true rfl) dX2_init_16 (fun H locs h => ?_)
  obtain ⟨E_3, hE_3⟩ : ∃ z, z = va_up E_2 65 (.inr (2, [.int 0, .int 0, .int 0, .int 0, .int 0])) := ⟨_, rfl⟩
  have h : kS D s s0 66 E_3 H locs := by rw [hE_3]; exact h
  refine lv_aload_n hx hb dX2_init_19 rfl (lv_at hl 0 rfl) ?_
  refine lv_iconst (v := 0) hx hb dX2_init_20 (by decide) ?_
  refine k_put (ci := 2) (x := .int 0) (ty := .int) (fs := [.int 0, .int 0, .int 0, .int 0, .int 0]) C hin2 h 65 (by decide) (show E_3 65 = .inr (2, [.int 0, .int 0, .int 0, .int 0, .int 0]) from (by rw [hE_3]; rfl)) rfl hi2 tyX2 tyX2_ok nmX2 3 (by decide) (index := 22) (List.mem_of_getElem? (i := 7) rfl) rfl rfl (by decide +kernel) rfl rfl (Nat.le_of_ble_eq_true rfl) dX2_init_21 (fun H locs h => ?_)
  obtain ⟨E_4, hE_4⟩ : ∃ z, z = va_up E_3 65 (.inr (2, [.int 0, .int 0, .int 0, .int 0, .int 0])) := ⟨_, rfl⟩
  have h : kS D s s0 66 E_4 H locs := by rw [hE_4]; exact h
  refine lv_aload_n hx hb dX2_init_24 rfl (lv_at hl 0 rfl) ?_
  refine lv_iconst (v := 0) hx hb dX2_init_25 (by decide) ?_
  refine k_put (ci := 2) (x := .int 0) (ty := .int) (fs := [.int 0, .int 0, .int 0, .int 0, .int 0]) C hin2 h 65 (by decide) (show E_4 65 = .inr (2, [.int 0, .int 0, .int 0, .int 0, .int 0]) from (by rw [hE_4]; rfl)) rfl hi2 tyX2 tyX2_ok nmX2 4 (by decide) (index := 25) (List.mem_of_getElem? (i := 8) rfl) rfl rfl (by decide +kernel) rfl rfl (Nat.le_of_ble_eq_true rfl) dX2_init_26 (fun H locs h => ?_)
  obtain ⟨E_5, hE_5⟩ : ∃ z, z = va_up E_4 65 (.inr (2, [.int 0, .int 0, .int 0, .int 0, .int 0])) := ⟨_, rfl⟩
  have h : kS D s s0 66 E_5 H locs := by rw [hE_5]; exact h
  have f1 : ∀ k, k < 66 → k ≠ 65 → E_5 k = E k := fun k h1 h2 => ((ue hE_5 (by omega)).trans ((ue hE_4 (by omega)).trans ((ue hE_3 (by omega)).trans ((ue hE_2 (by omega)).trans ((ue hE_1 (by omega)).trans rfl)))))
  have f2 : E_5 65 = gE (kG D cs s0) V0 W0 SG0 65 := (show E_5 65 = .inr (2, [.int 0, .int 0, .int 0, .int 0, .int 0]) from (by rw [hE_5]; rfl))
  have f3 : ∀ k, 66 ≤ k → k < 66 → E_5 k = gE (kG D cs s0) V0 W0 SG0 k := fun k h1 h2 => absurd h2 (by omega)
  exact k_vret C hlk hr h dX2_init_29 ⟨f1, f2, f3⟩

set_option maxHeartbeats 4000000 in
set_option maxRecDepth 100000 in
theorem c_X3_init_51 (l : Launch) (D : va_G) (cs : Nat → ClassId) (s0 : Nat) (E : Nat → va_E) (ho : E 51 = .inr (3, [.null, .int 0, .null, .int 0, .int 0, .null, .null])) : Met l yX3_init wsX3_init ({ frames := 2, cells := 14, slots := 69, locals := 40 }) (kPre D cs s0 52 E [.ref (s0 + 51)]) (kQ D s0 66 (kP D cs s0 52 66 51 E)) 14 69 (fun q => s0 ≤ q) := by
  refine kM_of (cc := cX3_init) (maxL := 2) (by decide) rfl (Nat.le_of_ble_eq_true rfl) ?_
  intro p e R s m args below meth c ls C hR hlk hr hin2 h hl
  have hx := C.1.1
  have hb := C.1.2.1
  have hml := C.1.2.2.1
  have hown := C.1.2.2.2.1
  have hts := C.1.2.2.2.2
  have hl : lv_has ls 2 [(0, .ref (s0 + 51))] := hl
  have hi3 : ∀ x ∈ u_ws RX3 TX3 7, x ∈ wsX3_init := fun x q => List.mem_cons_of_mem _ (List.mem_append_left _ (List.mem_append_right _ q))
  have hi2 : ∀ x ∈ u_ws RX2 TX2 5, x ∈ wsX3_init := fun x q => List.mem_cons_of_mem _ (List.mem_append_right _ q)
  refine lv_aload_n hx hb dX3_init_0 rfl (lv_at hl 0 rfl) ?_
  refine W.objInit hx hb hown (hts (.methodLink RX3 3 objectInit) (List.mem_of_getElem? (i := 1) rfl)) (hts (.instanceMethod objectInit) (List.mem_of_getElem? (i := 2) rfl)) (hts (.code objectInit ⟨#[0xb1]⟩ 1 none) (List.mem_of_getElem? (i := 3) rfl)) rfl (by rw [hml]; exact hl.1) rfl dX3_init_1 (by rw [hR]; exact Nat.le_of_ble_eq_true rfl) (by rw [hR]; exact Nat.le_of_ble_eq_true rfl) ?_
  refine W.eq (g2 := F0 m 4 ls []) rfl ?_
  refine lv_aload_n hx hb dX3_init_4 rfl (lv_at hl 0 rfl) ?_
  refine lv_bipush (v := 10) hx hb dX3_init_5 (by decide) ?_
  refine k_newq (N' := 10) (k := 10) C h (List.mem_of_getElem? (i := 4) rfl) C.2.1.2.2.1.1 5 rfl (by decide) (by decide) (by decide) (by rw [hR]; exact Nat.le_of_ble_eq_true rfl) (by rw [hR]; exact Nat.le_of_ble_eq_true rfl) dX3_init_7 (fun H h => ?_)
  obtain ⟨E_1, hE_1⟩ : ∃ z, z = va_up E 52 (.inl (cs 5, 10, .inr (.inr (.inr (.inr (fun _ => none)))))) := ⟨_, rfl⟩
  have h : kS D s s0 53 E_1 H [] := by rw [hE_1]; exact h
  refine k_put (ci := 3) (x := .ref (s0 + 52)) (ty := tyX3 0) (fs := [.null, .int 0, .null, .int 0, .int 0, .null, .null]) C hin2 h 51 (by decide) ((ue hE_1 (kn (a := 51) (b := 52) rfl)).trans ho) rfl hi3 tyX3 tyX3_ok nmX3 0 (by decide) (index := 13) (List.mem_of_getElem? (i := 5) rfl) rfl rfl (by decide +kernel) rfl rfl (Nat.le_of_ble_eq_true rfl) dX3_init_10 (fun H locs h => ?_)
  obtain ⟨E_2, hE_2⟩ : ∃ z, z = va_up E_1 51 (.inr (3, [.ref (s0 + 52), .int 0, .null, .int 0, .int 0, .null, .null])) := ⟨_, rfl⟩
  have h : kS D s s0 53 E_2 H locs := by rw [hE_2]; exact h
  refine lv_aload_n hx hb dX3_init_13 rfl (lv_at hl 0 rfl) ?_
  refine lv_iconst (v := 0) hx hb dX3_init_14 (by decide) ?_
  refine k_put (ci := 3) (x := .int 0) (ty := .int) (fs := [.ref (s0 + 52), .int 0, .null, .int 0, .int 0, .null, .null]) C hin2 h 51 (by decide) (show E_2 51 = .inr (3, [.ref (s0 + 52), .int 0, .null, .int 0, .int 0, .null, .null]) from (by rw [hE_2]; rfl)) rfl hi3 tyX3 tyX3_ok nmX3 1 (by decide) (index := 17) (List.mem_of_getElem? (i := 6) rfl) rfl rfl (by decide +kernel) rfl rfl (Nat.le_of_ble_eq_true rfl) dX3_init_15 (fun H locs h => ?_)
  obtain ⟨E_3, hE_3⟩ : ∃ z, z = va_up E_2 51 (.inr (3, [.ref (s0 + 52), .int 0, .null, .int 0, .int 0, .null, .null])) := ⟨_, rfl⟩
  have h : kS D s s0 53 E_3 H locs := by rw [hE_3]; exact h
  refine lv_aload_n hx hb dX3_init_18 rfl (lv_at hl 0 rfl) ?_
  refine lv_iconst (v := 3) hx hb dX3_init_19 (by decide) ?_
  refine k_newa (atype := .int) (ty := .int) (a0 := (3, .inl (fun _ => 0))) (N' := 3) (k := 3) C h (List.mem_of_getElem? (i := 7) rfl) rfl 0 rfl ra_i (fun _ => rfl) (by decide) (by decide) (by decide) (by rw [hR]; exact Nat.le_of_ble_eq_true rfl) (by rw [hR]; exact Nat.le_of_ble_eq_true rfl) dX3_init_20 (fun H h => ?_)
  obtain ⟨E_4, hE_4⟩ : ∃ z, z = va_up E_3 53 (.inl (cs 0, (3, .inl (fun _ => 0)))) := ⟨_, rfl⟩
  have h : kS D s s0 54 E_4 H locs := by rw [hE_4]; exact h
  refine k_put (ci := 3) (x := .ref (s0 + 53)) (ty := tyX3 2) (fs := [.ref (s0 + 52), .int 0, .null, .int 0, .int 0, .null, .null]) C hin2 h 51 (by decide) ((ue hE_4 (kn (a := 51) (b := 53) rfl)).trans (show E_3 51 = .inr (3, [.ref (s0 + 52), .int 0, .null, .int 0, .int 0, .null, .null]) from (by rw [hE_3]; rfl))) rfl hi3 tyX3 tyX3_ok nmX3 2 (by decide) (index := 21) (List.mem_of_getElem? (i := 8) rfl) rfl rfl (by decide +kernel) rfl rfl (Nat.le_of_ble_eq_true rfl) dX3_init_22 (fun H locs h => ?_)
  obtain ⟨E_5, hE_5⟩ : ∃ z, z = va_up E_4 51 (.inr (3, [.ref (s0 + 52), .int 0, .ref (s0 + 53), .int 0, .int 0, .null, .null])) := ⟨_, rfl⟩
  have h : kS D s s0 54 E_5 H locs := by rw [hE_5]; exact h
  refine lv_aload_n hx hb dX3_init_25 rfl (lv_at hl 0 rfl) ?_
  refine lv_iconst (v := 0) hx hb dX3_init_26 (by decide) ?_
  refine k_put (ci := 3) (x := .int 0) (ty := .int) (fs := [.ref (s0 + 52), .int 0, .ref (s0 + 53), .int 0, .int 0, .null, .null]) C hin2 h 51 (by decide) (show E_5 51 = .inr (3, [.ref (s0 + 52), .int 0, .ref (s0 + 53), .int 0, .int 0, .null, .null]) from (by rw [hE_5]; rfl)) rfl hi3 tyX3 tyX3_ok nmX3 3 (by decide) (index := 25) (List.mem_of_getElem? (i := 9) rfl) rfl rfl (by decide +kernel) rfl rfl (Nat.le_of_ble_eq_true rfl) dX3_init_27 (fun H locs h => ?_)
  obtain ⟨E_6, hE_6⟩ : ∃ z, z = va_up E_5 51 (.inr (3, [.ref (s0 + 52), .int 0, .ref (s0 + 53), .int 0, .int 0, .null, .null])) := ⟨_, rfl⟩
  have h : kS D s s0 54 E_6 H locs := by rw [hE_6]; exact h
  refine lv_aload_n hx hb dX3_init_30 rfl (lv_at hl 0 rfl) ?_
  refine lv_iconst (v := 0) hx hb dX3_init_31 (by decide) ?_
  refine k_put (ci := 3) (x := .int 0) (ty := .int) (fs := [.ref (s0 + 52), .int 0, .ref (s0 + 53), .int 0, .int 0, .null, .null]) C hin2 h 51 (by decide) (show E_6 51 = .inr (3, [.ref (s0 + 52), .int 0, .ref (s0 + 53), .int 0, .int 0, .null, .null]) from (by rw [hE_6]; rfl)) rfl hi3 tyX3 tyX3_ok nmX3 4 (by decide) (index := 28) (List.mem_of_getElem? (i := 10) rfl) rfl rfl (by decide +kernel) rfl rfl (Nat.le_of_ble_eq_true rfl) dX3_init_32 (fun H locs h => ?_)
  obtain ⟨E_7, hE_7⟩ : ∃ z, z = va_up E_6 51 (.inr (3, [.ref (s0 + 52), .int 0, .ref (s0 + 53), .int 0, .int 0, .null, .null])) := ⟨_, rfl⟩
  have h : kS D s s0 54 E_7 H locs := by rw [hE_7]; exact h
  refine lv_aload_n hx hb dX3_init_35 rfl (lv_at hl 0 rfl) ?_
  refine lv_iconst (v := 3) hx hb dX3_init_36 (by decide) ?_
  refine k_newa (atype := .long) (ty := .long) (a0 := (3, .inr (.inl (fun _ => 0)))) (N' := 3) (k := 3) C h (List.mem_of_getElem? (i := 11) rfl) rfl 1 rfl ra_l (fun _ => rfl) (by decide) (by decide) (by decide) (by rw [hR]; exact Nat.le_of_ble_eq_true rfl) (by rw [hR]; exact Nat.le_of_ble_eq_true rfl) dX3_init_37 (fun H h => ?_)
  obtain ⟨E_8, hE_8⟩ : ∃ z, z = va_up E_7 54 (.inl (cs 1, (3, .inr (.inl (fun _ => 0))))) := ⟨_, rfl⟩
  have h : kS D s s0 55 E_8 H locs := by rw [hE_8]; exact h
  refine k_put (ci := 3) (x := .ref (s0 + 54)) (ty := tyX3 5) (fs := [.ref (s0 + 52), .int 0, .ref (s0 + 53), .int 0, .int 0, .null, .null]) C hin2 h 51 (by decide) ((ue hE_8 (kn (a := 51) (b := 54) rfl)).trans (show E_7 51 = .inr (3, [.ref (s0 + 52), .int 0, .ref (s0 + 53), .int 0, .int 0, .null, .null]) from (by rw [hE_7]; rfl))) rfl hi3 tyX3 tyX3_ok nmX3 5 (by decide) (index := 31) (List.mem_of_getElem? (i := 12) rfl) rfl rfl (by decide +kernel) rfl rfl (Nat.le_of_ble_eq_true rfl) dX3_init_39 (fun H locs h => ?_)
  obtain ⟨E_9, hE_9⟩ : ∃ z, z = va_up E_8 51 (.inr (3, [.ref (s0 + 52), .int 0, .ref (s0 + 53), .int 0, .int 0, .ref (s0 + 54), .null])) := ⟨_, rfl⟩
  have h : kS D s s0 55 E_9 H locs := by rw [hE_9]; exact h
  refine lv_aload_n hx hb dX3_init_42 rfl (lv_at hl 0 rfl) ?_
  refine lv_iconst (v := 3) hx hb dX3_init_43 (by decide) ?_
  refine k_newa (atype := .long) (ty := .long) (a0 := (3, .inr (.inl (fun _ => 0)))) (N' := 3) (k := 3) C h (List.mem_of_getElem? (i := 11) rfl) rfl 1 rfl ra_l (fun _ => rfl) (by decide) (by decide) (by decide) (by rw [hR]; exact Nat.le_of_ble_eq_true rfl) (by rw [hR]; exact Nat.le_of_ble_eq_true rfl) dX3_init_44 (fun H h => ?_)
  obtain ⟨E_10, hE_10⟩ : ∃ z, z = va_up E_9 55 (.inl (cs 1, (3, .inr (.inl (fun _ => 0))))) := ⟨_, rfl⟩
  have h : kS D s s0 56 E_10 H locs := by rw [hE_10]; exact h
  refine k_put (ci := 3) (x := .ref (s0 + 55)) (ty := tyX3 6) (fs := [.ref (s0 + 52), .int 0, .ref (s0 + 53), .int 0, .int 0, .ref (s0 + 54), .null]) C hin2 h 51 (by decide) ((ue hE_10 (kn (a := 51) (b := 55) rfl)).trans (show E_9 51 = .inr (3, [.ref (s0 + 52), .int 0, .ref (s0 + 53), .int 0, .int 0, .ref (s0 + 54), .null]) from (by rw [hE_9]; rfl))) rfl hi3 tyX3 tyX3_ok nmX3 6 (by decide) (index := 35) (List.mem_of_getElem? (i := 13) rfl) rfl rfl (by decide +kernel) rfl rfl (Nat.le_of_ble_eq_true rfl) dX3_init_46 (fun H locs h => ?_)
  obtain ⟨E_11, hE_11⟩ : ∃ z, z = va_up E_10 51 (.inr (3, [.ref (s0 + 52), .int 0, .ref (s0 + 53), .int 0, .int 0, .ref (s0 + 54), .ref (s0 + 55)])) := ⟨_, rfl⟩
  have h : kS D s s0 56 E_11 H locs := by rw [hE_11]; exact h
  refine lv_iconst (v := 0) hx hb dX3_init_49 (by decide) ?_
  refine lv_istore_n (lv' := [(1, .int 0), (0, .ref (s0 + 51))]) hx hb dX3_init_50 rfl hl (by decide) rfl (fun ls hl => ?_)
  refine lv_iload_n hx hb dX3_init_51 rfl (lv_at hl 0 rfl) ?_
  refine lv_bipush (v := 10) hx hb dX3_init_52 (by decide) ?_
  refine lv_icmp_ge (tgt := 76) hx hb dX3_init_54 (by decide) (fun c1 => absurd c1 (by decide)) (fun _ => ?_)
  refine lv_aload_n hx hb dX3_init_57 rfl (lv_at hl 1 rfl) ?_
  refine k_get (ci := 3) (fs := [.ref (s0 + 52), .int 0, .ref (s0 + 53), .int 0, .int 0, .ref (s0 + 54), .ref (s0 + 55)]) (x := .ref (s0 + 52)) C h 51 (by decide) (show E_11 51 = .inr (3, [.ref (s0 + 52), .int 0, .ref (s0 + 53), .int 0, .int 0, .ref (s0 + 54), .ref (s0 + 55)]) from (by rw [hE_11]; rfl)) rfl hi3 0 (by decide) (index := 13) (List.mem_of_getElem? (i := 5) rfl) rfl rfl dX3_init_58 ?_
  refine lv_iload_n hx hb dX3_init_61 rfl (lv_at hl 0 rfl) ?_
  refine k_new (ci := 2) (fs := [.int 0, .int 0, .int 0, .int 0, .int 0]) C h hi2 tyX2 tyX2_ok (List.mem_of_getElem? (i := 4) rfl) (List.mem_of_getElem? (i := 14) rfl) (List.mem_of_getElem? (i := 15) rfl) rfl (fun j hj => by rcases (show j = 0 ∨ j = 1 ∨ j = 2 ∨ j = 3 ∨ j = 4 by omega) with rfl | rfl | rfl | rfl | rfl <;> rfl) (by rw [hR]; exact Nat.le_of_ble_eq_true rfl) (by rw [hR]; exact Nat.le_of_ble_eq_true rfl) dX3_init_62 (fun H h => ?_)
  obtain ⟨E_12, hE_12⟩ : ∃ z, z = va_up E_11 56 (.inr (2, [.int 0, .int 0, .int 0, .int 0, .int 0])) := ⟨_, rfl⟩
  have h : kS D s s0 57 E_12 H locs := by rw [hE_12]; exact h
  refine lv_dup hx hb dX3_init_65 rfl ?_
  refine k_callv C (va_runIN (As := []) (rest := [.ref (s0 + 56), .int 0, .ref (s0 + 52)]) C.1 (c_X2_init_56 l D cs s0 E_12 (show E_12 56 = .inr (2, [.int 0, .int 0, .int 0, .int 0, .int 0]) from (by rw [hE_12]; rfl))) ⟨va_cnB 0 hts ggX3_init_X2_init rfl rfl rfl (C.2.1.2.2.2 (RX3, 38, yX2_init) (List.mem_of_getElem? (i := 4) rfl)) (hts (.initialized RX2) (List.mem_of_getElem? (i := 15) rfl)) (by decide +kernel) ⟨by rw [hR]; exact Nat.le_of_ble_eq_true rfl, by rw [hR]; exact Nat.le_of_ble_eq_true rfl⟩, rfl, hts (.instanceMethod yX2_init) (List.mem_of_getElem? (i := 16) rfl)⟩ ⟨kPre_blind, kS_pre C h _⟩ rfl rfl hl.1 rfl (lv_room (Nat.le_of_ble_eq_true rfl)) dX3_init_66 ⟨(by rw [hR]; exact Nat.le_of_ble_eq_true rfl), (by rw [hR]; exact Nat.le_of_ble_eq_true rfl)⟩) h (fun E_13 H locs p_14 h => ?_)
  refine k_aastq (f := fun _ => none) C h 52 56 2 5 (by decide) (by decide) (r := (RX2, TX2, 5)) (vs := gfs (fun k => s0 + k) (V0 56) 56 2) ((p_14.1 52 (kl rfl) (kn rfl)).trans ((ue hE_12 (kn (a := 52) (b := 56) rfl)).trans ((ue hE_11 (kn (a := 52) (b := 51) rfl)).trans ((ue hE_10 (kn (a := 52) (b := 55) rfl)).trans ((ue hE_9 (kn (a := 52) (b := 51) rfl)).trans ((ue hE_8 (kn (a := 52) (b := 54) rfl)).trans ((ue hE_7 (kn (a := 52) (b := 51) rfl)).trans ((ue hE_6 (kn (a := 52) (b := 51) rfl)).trans ((ue hE_5 (kn (a := 52) (b := 51) rfl)).trans ((ue hE_4 (kn (a := 52) (b := 53) rfl)).trans ((ue hE_3 (kn (a := 52) (b := 51) rfl)).trans ((ue hE_2 (kn (a := 52) (b := 51) rfl)).trans (show E_1 52 = .inl (cs 5, 10, .inr (.inr (.inr (.inr (fun _ => none))))) from (by rw [hE_1]; rfl)))))))))))))) rfl (p_14.2.1) rfl (vp_of (I := 0) (by decide) (by decide) (by decide)) dX3_init_69 (fun H locs h => ?_)
  obtain ⟨E_15, hE_15⟩ : ∃ z, z = va_up E_13 52 (.inl (cs 5, 10, .inr (.inr (.inr (.inr (va_up (fun _ => none) 0 (some (s0 + 56)))))))) := ⟨_, rfl⟩
  have h : kS D s s0 57 E_15 H locs := by rw [hE_15]; exact h
  refine lv_iinc (v := 1) (lv' := [(1, .int 1), (0, .ref (s0 + 51))]) hx hb dX3_init_70 hl (k := 0) rfl (by decide) (by decide) rfl (fun ls hl => ?_)
  refine lv_goto (tgt := 51) hx hb dX3_init_73 (by decide) ?_
  refine lv_iload_n hx hb dX3_init_51 rfl (lv_at hl 0 rfl) ?_
  refine lv_bipush (v := 10) hx hb dX3_init_52 (by decide) ?_
  refine lv_icmp_ge (tgt := 76) hx hb dX3_init_54 (by decide) (fun c1 => absurd c1 (by decide)) (fun _ => ?_)
  refine lv_aload_n hx hb dX3_init_57 rfl (lv_at hl 1 rfl) ?_
  refine k_get (ci := 3) (fs := [.ref (s0 + 52), .int 0, .ref (s0 + 53), .int 0, .int 0, .ref (s0 + 54), .ref (s0 + 55)]) (x := .ref (s0 + 52)) C h 51 (by decide) ((ue hE_15 (kn (a := 51) (b := 52) rfl)).trans ((p_14.1 51 (kl rfl) (kn rfl)).trans ((ue hE_12 (kn (a := 51) (b := 56) rfl)).trans (show E_11 51 = .inr (3, [.ref (s0 + 52), .int 0, .ref (s0 + 53), .int 0, .int 0, .ref (s0 + 54), .ref (s0 + 55)]) from (by rw [hE_11]; rfl))))) rfl hi3 0 (by decide) (index := 13) (List.mem_of_getElem? (i := 5) rfl) rfl rfl dX3_init_58 ?_
  refine lv_iload_n hx hb dX3_init_61 rfl (lv_at hl 0 rfl) ?_
  refine k_new (ci := 2) (fs := [.int 0, .int 0, .int 0, .int 0, .int 0]) C h hi2 tyX2 tyX2_ok (List.mem_of_getElem? (i := 4) rfl) (List.mem_of_getElem? (i := 14) rfl) (List.mem_of_getElem? (i := 15) rfl) rfl (fun j hj => by rcases (show j = 0 ∨ j = 1 ∨ j = 2 ∨ j = 3 ∨ j = 4 by omega) with rfl | rfl | rfl | rfl | rfl <;> rfl) (by rw [hR]; exact Nat.le_of_ble_eq_true rfl) (by rw [hR]; exact Nat.le_of_ble_eq_true rfl) dX3_init_62 (fun H h => ?_)
  obtain ⟨E_16, hE_16⟩ : ∃ z, z = va_up E_15 57 (.inr (2, [.int 0, .int 0, .int 0, .int 0, .int 0])) := ⟨_, rfl⟩
  have h : kS D s s0 58 E_16 H locs := by rw [hE_16]; exact h
  refine lv_dup hx hb dX3_init_65 rfl ?_
  refine k_callv C (va_runIN (As := []) (rest := [.ref (s0 + 57), .int 1, .ref (s0 + 52)]) C.1 (c_X2_init_57 l D cs s0 E_16 (show E_16 57 = .inr (2, [.int 0, .int 0, .int 0, .int 0, .int 0]) from (by rw [hE_16]; rfl))) ⟨va_cnB 0 hts ggX3_init_X2_init rfl rfl rfl (C.2.1.2.2.2 (RX3, 38, yX2_init) (List.mem_of_getElem? (i := 4) rfl)) (hts (.initialized RX2) (List.mem_of_getElem? (i := 15) rfl)) (by decide +kernel) ⟨by rw [hR]; exact Nat.le_of_ble_eq_true rfl, by rw [hR]; exact Nat.le_of_ble_eq_true rfl⟩, rfl, hts (.instanceMethod yX2_init) (List.mem_of_getElem? (i := 16) rfl)⟩ ⟨kPre_blind, kS_pre C h _⟩ rfl rfl hl.1 rfl (lv_room (Nat.le_of_ble_eq_true rfl)) dX3_init_66 ⟨(by rw [hR]; exact Nat.le_of_ble_eq_true rfl), (by rw [hR]; exact Nat.le_of_ble_eq_true rfl)⟩) h (fun E_17 H locs p_18 h => ?_)
  refine k_aastq (f := (va_up (fun _ => none) 0 (some (s0 + 56)))) C h 52 57 2 5 (by decide) (by decide) (r := (RX2, TX2, 5)) (vs := gfs (fun k => s0 + k) (V0 57) 57 2) ((p_18.1 52 (kl rfl) (kn rfl)).trans ((ue hE_16 (kn (a := 52) (b := 57) rfl)).trans (show E_15 52 = .inl (cs 5, 10, .inr (.inr (.inr (.inr (va_up (fun _ => none) 0 (some (s0 + 56))))))) from (by rw [hE_15]; rfl)))) rfl (p_18.2.1) rfl (vp_of (I := 1) (by decide) (by decide) (by decide)) dX3_init_69 (fun H locs h => ?_)
  obtain ⟨E_19, hE_19⟩ : ∃ z, z = va_up E_17 52 (.inl (cs 5, 10, .inr (.inr (.inr (.inr (va_up ((va_up (fun _ => none) 0 (some (s0 + 56)))) 1 (some (s0 + 57)))))))) := ⟨_, rfl⟩
  have h : kS D s s0 58 E_19 H locs := by rw [hE_19]; exact h
  refine lv_iinc (v := 2) (lv' := [(1, .int 2), (0, .ref (s0 + 51))]) hx hb dX3_init_70 hl (k := 0) rfl (by decide) (by decide) rfl (fun ls hl => ?_)
  refine lv_goto (tgt := 51) hx hb dX3_init_73 (by decide) ?_
  refine lv_iload_n hx hb dX3_init_51 rfl (lv_at hl 0 rfl) ?_
  refine lv_bipush (v := 10) hx hb dX3_init_52 (by decide) ?_
  refine lv_icmp_ge (tgt := 76) hx hb dX3_init_54 (by decide) (fun c1 => absurd c1 (by decide)) (fun _ => ?_)
  refine lv_aload_n hx hb dX3_init_57 rfl (lv_at hl 1 rfl) ?_
  refine k_get (ci := 3) (fs := [.ref (s0 + 52), .int 0, .ref (s0 + 53), .int 0, .int 0, .ref (s0 + 54), .ref (s0 + 55)]) (x := .ref (s0 + 52)) C h 51 (by decide) ((ue hE_19 (kn (a := 51) (b := 52) rfl)).trans ((p_18.1 51 (kl rfl) (kn rfl)).trans ((ue hE_16 (kn (a := 51) (b := 57) rfl)).trans ((ue hE_15 (kn (a := 51) (b := 52) rfl)).trans ((p_14.1 51 (kl rfl) (kn rfl)).trans ((ue hE_12 (kn (a := 51) (b := 56) rfl)).trans (show E_11 51 = .inr (3, [.ref (s0 + 52), .int 0, .ref (s0 + 53), .int 0, .int 0, .ref (s0 + 54), .ref (s0 + 55)]) from (by rw [hE_11]; rfl)))))))) rfl hi3 0 (by decide) (index := 13) (List.mem_of_getElem? (i := 5) rfl) rfl rfl dX3_init_58 ?_
  refine lv_iload_n hx hb dX3_init_61 rfl (lv_at hl 0 rfl) ?_
  refine k_new (ci := 2) (fs := [.int 0, .int 0, .int 0, .int 0, .int 0]) C h hi2 tyX2 tyX2_ok (List.mem_of_getElem? (i := 4) rfl) (List.mem_of_getElem? (i := 14) rfl) (List.mem_of_getElem? (i := 15) rfl) rfl (fun j hj => by rcases (show j = 0 ∨ j = 1 ∨ j = 2 ∨ j = 3 ∨ j = 4 by omega) with rfl | rfl | rfl | rfl | rfl <;> rfl) (by rw [hR]; exact Nat.le_of_ble_eq_true rfl) (by rw [hR]; exact Nat.le_of_ble_eq_true rfl) dX3_init_62 (fun H h => ?_)
  obtain ⟨E_20, hE_20⟩ : ∃ z, z = va_up E_19 58 (.inr (2, [.int 0, .int 0, .int 0, .int 0, .int 0])) := ⟨_, rfl⟩
  have h : kS D s s0 59 E_20 H locs := by rw [hE_20]; exact h
  refine lv_dup hx hb dX3_init_65 rfl ?_
  refine k_callv C (va_runIN (As := []) (rest := [.ref (s0 + 58), .int 2, .ref (s0 + 52)]) C.1 (c_X2_init_58 l D cs s0 E_20 (show E_20 58 = .inr (2, [.int 0, .int 0, .int 0, .int 0, .int 0]) from (by rw [hE_20]; rfl))) ⟨va_cnB 0 hts ggX3_init_X2_init rfl rfl rfl (C.2.1.2.2.2 (RX3, 38, yX2_init) (List.mem_of_getElem? (i := 4) rfl)) (hts (.initialized RX2) (List.mem_of_getElem? (i := 15) rfl)) (by decide +kernel) ⟨by rw [hR]; exact Nat.le_of_ble_eq_true rfl, by rw [hR]; exact Nat.le_of_ble_eq_true rfl⟩, rfl, hts (.instanceMethod yX2_init) (List.mem_of_getElem? (i := 16) rfl)⟩ ⟨kPre_blind, kS_pre C h _⟩ rfl rfl hl.1 rfl (lv_room (Nat.le_of_ble_eq_true rfl)) dX3_init_66 ⟨(by rw [hR]; exact Nat.le_of_ble_eq_true rfl), (by rw [hR]; exact Nat.le_of_ble_eq_true rfl)⟩) h (fun E_21 H locs p_22 h => ?_)
  refine k_aastq (f := (va_up ((va_up (fun _ => none) 0 (some (s0 + 56)))) 1 (some (s0 + 57)))) C h 52 58 2 5 (by decide) (by decide) (r := (RX2, TX2, 5)) (vs := gfs (fun k => s0 + k) (V0 58) 58 2) ((p_22.1 52 (kl rfl) (kn rfl)).trans ((ue hE_20 (kn (a := 52) (b := 58) rfl)).trans (show E_19 52 = .inl (cs 5, 10, .inr (.inr (.inr (.inr (va_up ((va_up (fun _ => none) 0 (some (s0 + 56)))) 1 (some (s0 + 57))))))) from (by rw [hE_19]; rfl)))) rfl (p_22.2.1) rfl (vp_of (I := 2) (by decide) (by decide) (by decide)) dX3_init_69 (fun H locs h => ?_)
  obtain ⟨E_23, hE_23⟩ : ∃ z, z = va_up E_21 52 (.inl (cs 5, 10, .inr (.inr (.inr (.inr (va_up ((va_up ((va_up (fun _ => none) 0 (some (s0 + 56)))) 1 (some (s0 + 57)))) 2 (some (s0 + 58)))))))) := ⟨_, rfl⟩
  have h : kS D s s0 59 E_23 H locs := by rw [hE_23]; exact h
  refine lv_iinc (v := 3) (lv' := [(1, .int 3), (0, .ref (s0 + 51))]) hx hb dX3_init_70 hl (k := 0) rfl (by decide) (by decide) rfl (fun ls hl => ?_)
  refine lv_goto (tgt := 51) hx hb dX3_init_73 (by decide) ?_
  refine lv_iload_n hx hb dX3_init_51 rfl (lv_at hl 0 rfl) ?_
  refine lv_bipush (v := 10) hx hb dX3_init_52 (by decide) ?_
  refine lv_icmp_ge (tgt := 76) hx hb dX3_init_54 (by decide) (fun c1 => absurd c1 (by decide)) (fun _ => ?_)
  refine lv_aload_n hx hb dX3_init_57 rfl (lv_at hl 1 rfl) ?_
  refine k_get (ci := 3) (fs := [.ref (s0 + 52), .int 0, .ref (s0 + 53), .int 0, .int 0, .ref (s0 + 54), .ref (s0 + 55)]) (x := .ref (s0 + 52)) C h 51 (by decide) ((ue hE_23 (kn (a := 51) (b := 52) rfl)).trans ((p_22.1 51 (kl rfl) (kn rfl)).trans ((ue hE_20 (kn (a := 51) (b := 58) rfl)).trans ((ue hE_19 (kn (a := 51) (b := 52) rfl)).trans ((p_18.1 51 (kl rfl) (kn rfl)).trans ((ue hE_16 (kn (a := 51) (b := 57) rfl)).trans ((ue hE_15 (kn (a := 51) (b := 52) rfl)).trans ((p_14.1 51 (kl rfl) (kn rfl)).trans ((ue hE_12 (kn (a := 51) (b := 56) rfl)).trans (show E_11 51 = .inr (3, [.ref (s0 + 52), .int 0, .ref (s0 + 53), .int 0, .int 0, .ref (s0 + 54), .ref (s0 + 55)]) from (by rw [hE_11]; rfl))))))))))) rfl hi3 0 (by decide) (index := 13) (List.mem_of_getElem? (i := 5) rfl) rfl rfl dX3_init_58 ?_
  refine lv_iload_n hx hb dX3_init_61 rfl (lv_at hl 0 rfl) ?_
  refine k_new (ci := 2) (fs := [.int 0, .int 0, .int 0, .int 0, .int 0]) C h hi2 tyX2 tyX2_ok (List.mem_of_getElem? (i := 4) rfl) (List.mem_of_getElem? (i := 14) rfl) (List.mem_of_getElem? (i := 15) rfl) rfl (fun j hj => by rcases (show j = 0 ∨ j = 1 ∨ j = 2 ∨ j = 3 ∨ j = 4 by omega) with rfl | rfl | rfl | rfl | rfl <;> rfl) (by rw [hR]; exact Nat.le_of_ble_eq_true rfl) (by rw [hR]; exact Nat.le_of_ble_eq_true rfl) dX3_init_62 (fun H h => ?_)
  obtain ⟨E_24, hE_24⟩ : ∃ z, z = va_up E_23 59 (.inr (2, [.int 0, .int 0, .int 0, .int 0, .int 0])) := ⟨_, rfl⟩
  have h : kS D s s0 60 E_24 H locs := by rw [hE_24]; exact h
  refine lv_dup hx hb dX3_init_65 rfl ?_
  refine k_callv C (va_runIN (As := []) (rest := [.ref (s0 + 59), .int 3, .ref (s0 + 52)]) C.1 (c_X2_init_59 l D cs s0 E_24 (show E_24 59 = .inr (2, [.int 0, .int 0, .int 0, .int 0, .int 0]) from (by rw [hE_24]; rfl))) ⟨va_cnB 0 hts ggX3_init_X2_init rfl rfl rfl (C.2.1.2.2.2 (RX3, 38, yX2_init) (List.mem_of_getElem? (i := 4) rfl)) (hts (.initialized RX2) (List.mem_of_getElem? (i := 15) rfl)) (by decide +kernel) ⟨by rw [hR]; exact Nat.le_of_ble_eq_true rfl, by rw [hR]; exact Nat.le_of_ble_eq_true rfl⟩, rfl, hts (.instanceMethod yX2_init) (List.mem_of_getElem? (i := 16) rfl)⟩ ⟨kPre_blind, kS_pre C h _⟩ rfl rfl hl.1 rfl (lv_room (Nat.le_of_ble_eq_true rfl)) dX3_init_66 ⟨(by rw [hR]; exact Nat.le_of_ble_eq_true rfl), (by rw [hR]; exact Nat.le_of_ble_eq_true rfl)⟩) h (fun E_25 H locs p_26 h => ?_)
  refine k_aastq (f := (va_up ((va_up ((va_up (fun _ => none) 0 (some (s0 + 56)))) 1 (some (s0 + 57)))) 2 (some (s0 + 58)))) C h 52 59 2 5 (by decide) (by decide) (r := (RX2, TX2, 5)) (vs := gfs (fun k => s0 + k) (V0 59) 59 2) ((p_26.1 52 (kl rfl) (kn rfl)).trans ((ue hE_24 (kn (a := 52) (b := 59) rfl)).trans (show E_23 52 = .inl (cs 5, 10, .inr (.inr (.inr (.inr (va_up ((va_up ((va_up (fun _ => none) 0 (some (s0 + 56)))) 1 (some (s0 + 57)))) 2 (some (s0 + 58))))))) from (by rw [hE_23]; rfl)))) rfl (p_26.2.1) rfl (vp_of (I := 3) (by decide) (by decide) (by decide)) dX3_init_69 (fun H locs h => ?_)
  obtain ⟨E_27, hE_27⟩ : ∃ z, z = va_up E_25 52 (.inl (cs 5, 10, .inr (.inr (.inr (.inr (va_up ((va_up ((va_up ((va_up (fun _ => none) 0 (some (s0 + 56)))) 1 (some (s0 + 57)))) 2 (some (s0 + 58)))) 3 (some (s0 + 59)))))))) := ⟨_, rfl⟩
  have h : kS D s s0 60 E_27 H locs := by rw [hE_27]; exact h
  refine lv_iinc (v := 4) (lv' := [(1, .int 4), (0, .ref (s0 + 51))]) hx hb dX3_init_70 hl (k := 0) rfl (by decide) (by decide) rfl (fun ls hl => ?_)
  refine lv_goto (tgt := 51) hx hb dX3_init_73 (by decide) ?_
  refine lv_iload_n hx hb dX3_init_51 rfl (lv_at hl 0 rfl) ?_
  refine lv_bipush (v := 10) hx hb dX3_init_52 (by decide) ?_
  refine lv_icmp_ge (tgt := 76) hx hb dX3_init_54 (by decide) (fun c1 => absurd c1 (by decide)) (fun _ => ?_)
  refine lv_aload_n hx hb dX3_init_57 rfl (lv_at hl 1 rfl) ?_
  refine k_get (ci := 3) (fs := [.ref (s0 + 52), .int 0, .ref (s0 + 53), .int 0, .int 0, .ref (s0 + 54), .ref (s0 + 55)]) (x := .ref (s0 + 52)) C h 51 (by decide) ((ue hE_27 (kn (a := 51) (b := 52) rfl)).trans ((p_26.1 51 (kl rfl) (kn rfl)).trans ((ue hE_24 (kn (a := 51) (b := 59) rfl)).trans ((ue hE_23 (kn (a := 51) (b := 52) rfl)).trans ((p_22.1 51 (kl rfl) (kn rfl)).trans ((ue hE_20 (kn (a := 51) (b := 58) rfl)).trans ((ue hE_19 (kn (a := 51) (b := 52) rfl)).trans ((p_18.1 51 (kl rfl) (kn rfl)).trans ((ue hE_16 (kn (a := 51) (b := 57) rfl)).trans ((ue hE_15 (kn (a := 51) (b := 52) rfl)).trans ((p_14.1 51 (kl rfl) (kn rfl)).trans ((ue hE_12 (kn (a := 51) (b := 56) rfl)).trans (show E_11 51 = .inr (3, [.ref (s0 + 52), .int 0, .ref (s0 + 53), .int 0, .int 0, .ref (s0 + 54), .ref (s0 + 55)]) from (by rw [hE_11]; rfl)))))))))))))) rfl hi3 0 (by decide) (index := 13) (List.mem_of_getElem? (i := 5) rfl) rfl rfl dX3_init_58 ?_
  refine lv_iload_n hx hb dX3_init_61 rfl (lv_at hl 0 rfl) ?_
  refine k_new (ci := 2) (fs := [.int 0, .int 0, .int 0, .int 0, .int 0]) C h hi2 tyX2 tyX2_ok (List.mem_of_getElem? (i := 4) rfl) (List.mem_of_getElem? (i := 14) rfl) (List.mem_of_getElem? (i := 15) rfl) rfl (fun j hj => by rcases (show j = 0 ∨ j = 1 ∨ j = 2 ∨ j = 3 ∨ j = 4 by omega) with rfl | rfl | rfl | rfl | rfl <;> rfl) (by rw [hR]; exact Nat.le_of_ble_eq_true rfl) (by rw [hR]; exact Nat.le_of_ble_eq_true rfl) dX3_init_62 (fun H h => ?_)
  obtain ⟨E_28, hE_28⟩ : ∃ z, z = va_up E_27 60 (.inr (2, [.int 0, .int 0, .int 0, .int 0, .int 0])) := ⟨_, rfl⟩
  have h : kS D s s0 61 E_28 H locs := by rw [hE_28]; exact h
  refine lv_dup hx hb dX3_init_65 rfl ?_
  refine k_callv C (va_runIN (As := []) (rest := [.ref (s0 + 60), .int 4, .ref (s0 + 52)]) C.1 (c_X2_init_60 l D cs s0 E_28 (show E_28 60 = .inr (2, [.int 0, .int 0, .int 0, .int 0, .int 0]) from (by rw [hE_28]; rfl))) ⟨va_cnB 0 hts ggX3_init_X2_init rfl rfl rfl (C.2.1.2.2.2 (RX3, 38, yX2_init) (List.mem_of_getElem? (i := 4) rfl)) (hts (.initialized RX2) (List.mem_of_getElem? (i := 15) rfl)) (by decide +kernel) ⟨by rw [hR]; exact Nat.le_of_ble_eq_true rfl, by rw [hR]; exact Nat.le_of_ble_eq_true rfl⟩, rfl, hts (.instanceMethod yX2_init) (List.mem_of_getElem? (i := 16) rfl)⟩ ⟨kPre_blind, kS_pre C h _⟩ rfl rfl hl.1 rfl (lv_room (Nat.le_of_ble_eq_true rfl)) dX3_init_66 ⟨(by rw [hR]; exact Nat.le_of_ble_eq_true rfl), (by rw [hR]; exact Nat.le_of_ble_eq_true rfl)⟩) h (fun E_29 H locs p_30 h => ?_)
  refine k_aastq (f := (va_up ((va_up ((va_up ((va_up (fun _ => none) 0 (some (s0 + 56)))) 1 (some (s0 + 57)))) 2 (some (s0 + 58)))) 3 (some (s0 + 59)))) C h 52 60 2 5 (by decide) (by decide) (r := (RX2, TX2, 5)) (vs := gfs (fun k => s0 + k) (V0 60) 60 2) ((p_30.1 52 (kl rfl) (kn rfl)).trans ((ue hE_28 (kn (a := 52) (b := 60) rfl)).trans (show E_27 52 = .inl (cs 5, 10, .inr (.inr (.inr (.inr (va_up ((va_up ((va_up ((va_up (fun _ => none) 0 (some (s0 + 56)))) 1 (some (s0 + 57)))) 2 (some (s0 + 58)))) 3 (some (s0 + 59))))))) from (by rw [hE_27]; rfl)))) rfl (p_30.2.1) rfl (vp_of (I := 4) (by decide) (by decide) (by decide)) dX3_init_69 (fun H locs h => ?_)
  obtain ⟨E_31, hE_31⟩ : ∃ z, z = va_up E_29 52 (.inl (cs 5, 10, .inr (.inr (.inr (.inr (va_up ((va_up ((va_up ((va_up ((va_up (fun _ => none) 0 (some (s0 + 56)))) 1 (some (s0 + 57)))) 2 (some (s0 + 58)))) 3 (some (s0 + 59)))) 4 (some (s0 + 60)))))))) := ⟨_, rfl⟩
  have h : kS D s s0 61 E_31 H locs := by rw [hE_31]; exact h
  refine lv_iinc (v := 5) (lv' := [(1, .int 5), (0, .ref (s0 + 51))]) hx hb dX3_init_70 hl (k := 0) rfl (by decide) (by decide) rfl (fun ls hl => ?_)
  refine lv_goto (tgt := 51) hx hb dX3_init_73 (by decide) ?_
  refine lv_iload_n hx hb dX3_init_51 rfl (lv_at hl 0 rfl) ?_
  refine lv_bipush (v := 10) hx hb dX3_init_52 (by decide) ?_
  refine lv_icmp_ge (tgt := 76) hx hb dX3_init_54 (by decide) (fun c1 => absurd c1 (by decide)) (fun _ => ?_)
  refine lv_aload_n hx hb dX3_init_57 rfl (lv_at hl 1 rfl) ?_
  refine k_get (ci := 3) (fs := [.ref (s0 + 52), .int 0, .ref (s0 + 53), .int 0, .int 0, .ref (s0 + 54), .ref (s0 + 55)]) (x := .ref (s0 + 52)) C h 51 (by decide) ((ue hE_31 (kn (a := 51) (b := 52) rfl)).trans ((p_30.1 51 (kl rfl) (kn rfl)).trans ((ue hE_28 (kn (a := 51) (b := 60) rfl)).trans ((ue hE_27 (kn (a := 51) (b := 52) rfl)).trans ((p_26.1 51 (kl rfl) (kn rfl)).trans ((ue hE_24 (kn (a := 51) (b := 59) rfl)).trans ((ue hE_23 (kn (a := 51) (b := 52) rfl)).trans ((p_22.1 51 (kl rfl) (kn rfl)).trans ((ue hE_20 (kn (a := 51) (b := 58) rfl)).trans ((ue hE_19 (kn (a := 51) (b := 52) rfl)).trans ((p_18.1 51 (kl rfl) (kn rfl)).trans ((ue hE_16 (kn (a := 51) (b := 57) rfl)).trans ((ue hE_15 (kn (a := 51) (b := 52) rfl)).trans ((p_14.1 51 (kl rfl) (kn rfl)).trans ((ue hE_12 (kn (a := 51) (b := 56) rfl)).trans (show E_11 51 = .inr (3, [.ref (s0 + 52), .int 0, .ref (s0 + 53), .int 0, .int 0, .ref (s0 + 54), .ref (s0 + 55)]) from (by rw [hE_11]; rfl))))))))))))))))) rfl hi3 0 (by decide) (index := 13) (List.mem_of_getElem? (i := 5) rfl) rfl rfl dX3_init_58 ?_
  refine lv_iload_n hx hb dX3_init_61 rfl (lv_at hl 0 rfl) ?_
  refine k_new (ci := 2) (fs := [.int 0, .int 0, .int 0, .int 0, .int 0]) C h hi2 tyX2 tyX2_ok (List.mem_of_getElem? (i := 4) rfl) (List.mem_of_getElem? (i := 14) rfl) (List.mem_of_getElem? (i := 15) rfl) rfl (fun j hj => by rcases (show j = 0 ∨ j = 1 ∨ j = 2 ∨ j = 3 ∨ j = 4 by omega) with rfl | rfl | rfl | rfl | rfl <;> rfl) (by rw [hR]; exact Nat.le_of_ble_eq_true rfl) (by rw [hR]; exact Nat.le_of_ble_eq_true rfl) dX3_init_62 (fun H h => ?_)
  obtain ⟨E_32, hE_32⟩ : ∃ z, z = va_up E_31 61 (.inr (2, [.int 0, .int 0, .int 0, .int 0, .int 0])) := ⟨_, rfl⟩
  have h : kS D s s0 62 E_32 H locs := by rw [hE_32]; exact h
  refine lv_dup hx hb dX3_init_65 rfl ?_
  refine k_callv C (va_runIN (As := []) (rest := [.ref (s0 + 61), .int 5, .ref (s0 + 52)]) C.1 (c_X2_init_61 l D cs s0 E_32 (show E_32 61 = .inr (2, [.int 0, .int 0, .int 0, .int 0, .int 0]) from (by rw [hE_32]; rfl))) ⟨va_cnB 0 hts ggX3_init_X2_init rfl rfl rfl (C.2.1.2.2.2 (RX3, 38, yX2_init) (List.mem_of_getElem? (i := 4) rfl)) (hts (.initialized RX2) (List.mem_of_getElem? (i := 15) rfl)) (by decide +kernel) ⟨by rw [hR]; exact Nat.le_of_ble_eq_true rfl, by rw [hR]; exact Nat.le_of_ble_eq_true rfl⟩, rfl, hts (.instanceMethod yX2_init) (List.mem_of_getElem? (i := 16) rfl)⟩ ⟨kPre_blind, kS_pre C h _⟩ rfl rfl hl.1 rfl (lv_room (Nat.le_of_ble_eq_true rfl)) dX3_init_66 ⟨(by rw [hR]; exact Nat.le_of_ble_eq_true rfl), (by rw [hR]; exact Nat.le_of_ble_eq_true rfl)⟩) h (fun E_33 H locs p_34 h => ?_)
  refine k_aastq (f := (va_up ((va_up ((va_up ((va_up ((va_up (fun _ => none) 0 (some (s0 + 56)))) 1 (some (s0 + 57)))) 2 (some (s0 + 58)))) 3 (some (s0 + 59)))) 4 (some (s0 + 60)))) C h 52 61 2 5 (by decide) (by decide) (r := (RX2, TX2, 5)) (vs := gfs (fun k => s0 + k) (V0 61) 61 2) ((p_34.1 52 (kl rfl) (kn rfl)).trans ((ue hE_32 (kn (a := 52) (b := 61) rfl)).trans (show E_31 52 = .inl (cs 5, 10, .inr (.inr (.inr (.inr (va_up ((va_up ((va_up ((va_up ((va_up (fun _ => none) 0 (some (s0 + 56)))) 1 (some (s0 + 57)))) 2 (some (s0 + 58)))) 3 (some (s0 + 59)))) 4 (some (s0 + 60))))))) from (by rw [hE_31]; rfl)))) rfl (p_34.2.1) rfl (vp_of (I := 5) (by decide) (by decide) (by decide)) dX3_init_69 (fun H locs h => ?_)
  obtain ⟨E_35, hE_35⟩ : ∃ z, z = va_up E_33 52 (.inl (cs 5, 10, .inr (.inr (.inr (.inr (va_up ((va_up ((va_up ((va_up ((va_up ((va_up (fun _ => none) 0 (some (s0 + 56)))) 1 (some (s0 + 57)))) 2 (some (s0 + 58)))) 3 (some (s0 + 59)))) 4 (some (s0 + 60)))) 5 (some (s0 + 61)))))))) := ⟨_, rfl⟩
  have h : kS D s s0 62 E_35 H locs := by rw [hE_35]; exact h
  refine lv_iinc (v := 6) (lv' := [(1, .int 6), (0, .ref (s0 + 51))]) hx hb dX3_init_70 hl (k := 0) rfl (by decide) (by decide) rfl (fun ls hl => ?_)
  refine lv_goto (tgt := 51) hx hb dX3_init_73 (by decide) ?_
  refine lv_iload_n hx hb dX3_init_51 rfl (lv_at hl 0 rfl) ?_
  refine lv_bipush (v := 10) hx hb dX3_init_52 (by decide) ?_
  refine lv_icmp_ge (tgt := 76) hx hb dX3_init_54 (by decide) (fun c1 => absurd c1 (by decide)) (fun _ => ?_)
  refine lv_aload_n hx hb dX3_init_57 rfl (lv_at hl 1 rfl) ?_
  refine k_get (ci := 3) (fs := [.ref (s0 + 52), .int 0, .ref (s0 + 53), .int 0, .int 0, .ref (s0 + 54), .ref (s0 + 55)]) (x := .ref (s0 + 52)) C h 51 (by decide) ((ue hE_35 (kn (a := 51) (b := 52) rfl)).trans ((p_34.1 51 (kl rfl) (kn rfl)).trans ((ue hE_32 (kn (a := 51) (b := 61) rfl)).trans ((ue hE_31 (kn (a := 51) (b := 52) rfl)).trans ((p_30.1 51 (kl rfl) (kn rfl)).trans ((ue hE_28 (kn (a := 51) (b := 60) rfl)).trans ((ue hE_27 (kn (a := 51) (b := 52) rfl)).trans ((p_26.1 51 (kl rfl) (kn rfl)).trans ((ue hE_24 (kn (a := 51) (b := 59) rfl)).trans ((ue hE_23 (kn (a := 51) (b := 52) rfl)).trans ((p_22.1 51 (kl rfl) (kn rfl)).trans ((ue hE_20 (kn (a := 51) (b := 58) rfl)).trans ((ue hE_19 (kn (a := 51) (b := 52) rfl)).trans ((p_18.1 51 (kl rfl) (kn rfl)).trans ((ue hE_16 (kn (a := 51) (b := 57) rfl)).trans ((ue hE_15 (kn (a := 51) (b := 52) rfl)).trans ((p_14.1 51 (kl rfl) (kn rfl)).trans ((ue hE_12 (kn (a := 51) (b := 56) rfl)).trans (show E_11 51 = .inr (3, [.ref (s0 + 52), .int 0, .ref (s0 + 53), .int 0, .int 0, .ref (s0 + 54), .ref (s0 + 55)]) from (by rw [hE_11]; rfl)))))))))))))))))))) rfl hi3 0 (by decide) (index := 13) (List.mem_of_getElem? (i := 5) rfl) rfl rfl dX3_init_58 ?_
  refine lv_iload_n hx hb dX3_init_61 rfl (lv_at hl 0 rfl) ?_
  refine k_new (ci := 2) (fs := [.int 0, .int 0, .int 0, .int 0, .int 0]) C h hi2 tyX2 tyX2_ok (List.mem_of_getElem? (i := 4) rfl) (List.mem_of_getElem? (i := 14) rfl) (List.mem_of_getElem? (i := 15) rfl) rfl (fun j hj => by rcases (show j = 0 ∨ j = 1 ∨ j = 2 ∨ j = 3 ∨ j = 4 by omega) with rfl | rfl | rfl | rfl | rfl <;> rfl) (by rw [hR]; exact Nat.le_of_ble_eq_true rfl) (by rw [hR]; exact Nat.le_of_ble_eq_true rfl) dX3_init_62 (fun H h => ?_)
  obtain ⟨E_36, hE_36⟩ : ∃ z, z = va_up E_35 62 (.inr (2, [.int 0, .int 0, .int 0, .int 0, .int 0])) := ⟨_, rfl⟩
  have h : kS D s s0 63 E_36 H locs := by rw [hE_36]; exact h
  refine lv_dup hx hb dX3_init_65 rfl ?_
  refine k_callv C (va_runIN (As := []) (rest := [.ref (s0 + 62), .int 6, .ref (s0 + 52)]) C.1 (c_X2_init_62 l D cs s0 E_36 (show E_36 62 = .inr (2, [.int 0, .int 0, .int 0, .int 0, .int 0]) from (by rw [hE_36]; rfl))) ⟨va_cnB 0 hts ggX3_init_X2_init rfl rfl rfl (C.2.1.2.2.2 (RX3, 38, yX2_init) (List.mem_of_getElem? (i := 4) rfl)) (hts (.initialized RX2) (List.mem_of_getElem? (i := 15) rfl)) (by decide +kernel) ⟨by rw [hR]; exact Nat.le_of_ble_eq_true rfl, by rw [hR]; exact Nat.le_of_ble_eq_true rfl⟩, rfl, hts (.instanceMethod yX2_init) (List.mem_of_getElem? (i := 16) rfl)⟩ ⟨kPre_blind, kS_pre C h _⟩ rfl rfl hl.1 rfl (lv_room (Nat.le_of_ble_eq_true rfl)) dX3_init_66 ⟨(by rw [hR]; exact Nat.le_of_ble_eq_true rfl), (by rw [hR]; exact Nat.le_of_ble_eq_true rfl)⟩) h (fun E_37 H locs p_38 h => ?_)
  refine k_aastq (f := (va_up ((va_up ((va_up ((va_up ((va_up ((va_up (fun _ => none) 0 (some (s0 + 56)))) 1 (some (s0 + 57)))) 2 (some (s0 + 58)))) 3 (some (s0 + 59)))) 4 (some (s0 + 60)))) 5 (some (s0 + 61)))) C h 52 62 2 5 (by decide) (by decide) (r := (RX2, TX2, 5)) (vs := gfs (fun k => s0 + k) (V0 62) 62 2) ((p_38.1 52 (kl rfl) (kn rfl)).trans ((ue hE_36 (kn (a := 52) (b := 62) rfl)).trans (show E_35 52 = .inl (cs 5, 10, .inr (.inr (.inr (.inr (va_up ((va_up ((va_up ((va_up ((va_up ((va_up (fun _ => none) 0 (some (s0 + 56)))) 1 (some (s0 + 57)))) 2 (some (s0 + 58)))) 3 (some (s0 + 59)))) 4 (some (s0 + 60)))) 5 (some (s0 + 61))))))) from (by rw [hE_35]; rfl)))) rfl (p_38.2.1) rfl (vp_of (I := 6) (by decide) (by decide) (by decide)) dX3_init_69 (fun H locs h => ?_)
  obtain ⟨E_39, hE_39⟩ : ∃ z, z = va_up E_37 52 (.inl (cs 5, 10, .inr (.inr (.inr (.inr (va_up ((va_up ((va_up ((va_up ((va_up ((va_up ((va_up (fun _ => none) 0 (some (s0 + 56)))) 1 (some (s0 + 57)))) 2 (some (s0 + 58)))) 3 (some (s0 + 59)))) 4 (some (s0 + 60)))) 5 (some (s0 + 61)))) 6 (some (s0 + 62)))))))) := ⟨_, rfl⟩
  have h : kS D s s0 63 E_39 H locs := by rw [hE_39]; exact h
  refine lv_iinc (v := 7) (lv' := [(1, .int 7), (0, .ref (s0 + 51))]) hx hb dX3_init_70 hl (k := 0) rfl (by decide) (by decide) rfl (fun ls hl => ?_)
  refine lv_goto (tgt := 51) hx hb dX3_init_73 (by decide) ?_
  refine lv_iload_n hx hb dX3_init_51 rfl (lv_at hl 0 rfl) ?_
  refine lv_bipush (v := 10) hx hb dX3_init_52 (by decide) ?_
  refine lv_icmp_ge (tgt := 76) hx hb dX3_init_54 (by decide) (fun c1 => absurd c1 (by decide)) (fun _ => ?_)
  refine lv_aload_n hx hb dX3_init_57 rfl (lv_at hl 1 rfl) ?_
  refine k_get (ci := 3) (fs := [.ref (s0 + 52), .int 0, .ref (s0 + 53), .int 0, .int 0, .ref (s0 + 54), .ref (s0 + 55)]) (x := .ref (s0 + 52)) C h 51 (by decide) ((ue hE_39 (kn (a := 51) (b := 52) rfl)).trans ((p_38.1 51 (kl rfl) (kn rfl)).trans ((ue hE_36 (kn (a := 51) (b := 62) rfl)).trans ((ue hE_35 (kn (a := 51) (b := 52) rfl)).trans ((p_34.1 51 (kl rfl) (kn rfl)).trans ((ue hE_32 (kn (a := 51) (b := 61) rfl)).trans ((ue hE_31 (kn (a := 51) (b := 52) rfl)).trans ((p_30.1 51 (kl rfl) (kn rfl)).trans ((ue hE_28 (kn (a := 51) (b := 60) rfl)).trans ((ue hE_27 (kn (a := 51) (b := 52) rfl)).trans ((p_26.1 51 (kl rfl) (kn rfl)).trans ((ue hE_24 (kn (a := 51) (b := 59) rfl)).trans ((ue hE_23 (kn (a := 51) (b := 52) rfl)).trans ((p_22.1 51 (kl rfl) (kn rfl)).trans ((ue hE_20 (kn (a := 51) (b := 58) rfl)).trans ((ue hE_19 (kn (a := 51) (b := 52) rfl)).trans ((p_18.1 51 (kl rfl) (kn rfl)).trans ((ue hE_16 (kn (a := 51) (b := 57) rfl)).trans ((ue hE_15 (kn (a := 51) (b := 52) rfl)).trans ((p_14.1 51 (kl rfl) (kn rfl)).trans ((ue hE_12 (kn (a := 51) (b := 56) rfl)).trans (show E_11 51 = .inr (3, [.ref (s0 + 52), .int 0, .ref (s0 + 53), .int 0, .int 0, .ref (s0 + 54), .ref (s0 + 55)]) from (by rw [hE_11]; rfl))))))))))))))))))))))) rfl hi3 0 (by decide) (index := 13) (List.mem_of_getElem? (i := 5) rfl) rfl rfl dX3_init_58 ?_
  refine lv_iload_n hx hb dX3_init_61 rfl (lv_at hl 0 rfl) ?_
  refine k_new (ci := 2) (fs := [.int 0, .int 0, .int 0, .int 0, .int 0]) C h hi2 tyX2 tyX2_ok (List.mem_of_getElem? (i := 4) rfl) (List.mem_of_getElem? (i := 14) rfl) (List.mem_of_getElem? (i := 15) rfl) rfl (fun j hj => by rcases (show j = 0 ∨ j = 1 ∨ j = 2 ∨ j = 3 ∨ j = 4 by omega) with rfl | rfl | rfl | rfl | rfl <;> rfl) (by rw [hR]; exact Nat.le_of_ble_eq_true rfl) (by rw [hR]; exact Nat.le_of_ble_eq_true rfl) dX3_init_62 (fun H h => ?_)
  obtain ⟨E_40, hE_40⟩ : ∃ z, z = va_up E_39 63 (.inr (2, [.int 0, .int 0, .int 0, .int 0, .int 0])) := ⟨_, rfl⟩
  have h : kS D s s0 64 E_40 H locs := by rw [hE_40]; exact h
  refine lv_dup hx hb dX3_init_65 rfl ?_
  refine k_callv C (va_runIN (As := []) (rest := [.ref (s0 + 63), .int 7, .ref (s0 + 52)]) C.1 (c_X2_init_63 l D cs s0 E_40 (show E_40 63 = .inr (2, [.int 0, .int 0, .int 0, .int 0, .int 0]) from (by rw [hE_40]; rfl))) ⟨va_cnB 0 hts ggX3_init_X2_init rfl rfl rfl (C.2.1.2.2.2 (RX3, 38, yX2_init) (List.mem_of_getElem? (i := 4) rfl)) (hts (.initialized RX2) (List.mem_of_getElem? (i := 15) rfl)) (by decide +kernel) ⟨by rw [hR]; exact Nat.le_of_ble_eq_true rfl, by rw [hR]; exact Nat.le_of_ble_eq_true rfl⟩, rfl, hts (.instanceMethod yX2_init) (List.mem_of_getElem? (i := 16) rfl)⟩ ⟨kPre_blind, kS_pre C h _⟩ rfl rfl hl.1 rfl (lv_room (Nat.le_of_ble_eq_true rfl)) dX3_init_66 ⟨(by rw [hR]; exact Nat.le_of_ble_eq_true rfl), (by rw [hR]; exact Nat.le_of_ble_eq_true rfl)⟩) h (fun E_41 H locs p_42 h => ?_)
  refine k_aastq (f := (va_up ((va_up ((va_up ((va_up ((va_up ((va_up ((va_up (fun _ => none) 0 (some (s0 + 56)))) 1 (some (s0 + 57)))) 2 (some (s0 + 58)))) 3 (some (s0 + 59)))) 4 (some (s0 + 60)))) 5 (some (s0 + 61)))) 6 (some (s0 + 62)))) C h 52 63 2 5 (by decide) (by decide) (r := (RX2, TX2, 5)) (vs := gfs (fun k => s0 + k) (V0 63) 63 2) ((p_42.1 52 (kl rfl) (kn rfl)).trans ((ue hE_40 (kn (a := 52) (b := 63) rfl)).trans (show E_39 52 = .inl (cs 5, 10, .inr (.inr (.inr (.inr (va_up ((va_up ((va_up ((va_up ((va_up ((va_up ((va_up (fun _ => none) 0 (some (s0 + 56)))) 1 (some (s0 + 57)))) 2 (some (s0 + 58)))) 3 (some (s0 + 59)))) 4 (some (s0 + 60)))) 5 (some (s0 + 61)))) 6 (some (s0 + 62))))))) from (by rw [hE_39]; rfl)))) rfl (p_42.2.1) rfl (vp_of (I := 7) (by decide) (by decide) (by decide)) dX3_init_69 (fun H locs h => ?_)
  obtain ⟨E_43, hE_43⟩ : ∃ z, z = va_up E_41 52 (.inl (cs 5, 10, .inr (.inr (.inr (.inr (va_up ((va_up ((va_up ((va_up ((va_up ((va_up ((va_up ((va_up (fun _ => none) 0 (some (s0 + 56)))) 1 (some (s0 + 57)))) 2 (some (s0 + 58)))) 3 (some (s0 + 59)))) 4 (some (s0 + 60)))) 5 (some (s0 + 61)))) 6 (some (s0 + 62)))) 7 (some (s0 + 63)))))))) := ⟨_, rfl⟩
  have h : kS D s s0 64 E_43 H locs := by rw [hE_43]; exact h
  refine lv_iinc (v := 8) (lv' := [(1, .int 8), (0, .ref (s0 + 51))]) hx hb dX3_init_70 hl (k := 0) rfl (by decide) (by decide) rfl (fun ls hl => ?_)
  refine lv_goto (tgt := 51) hx hb dX3_init_73 (by decide) ?_
  refine lv_iload_n hx hb dX3_init_51 rfl (lv_at hl 0 rfl) ?_
  refine lv_bipush (v := 10) hx hb dX3_init_52 (by decide) ?_
  refine lv_icmp_ge (tgt := 76) hx hb dX3_init_54 (by decide) (fun c1 => absurd c1 (by decide)) (fun _ => ?_)
  refine lv_aload_n hx hb dX3_init_57 rfl (lv_at hl 1 rfl) ?_
  refine k_get (ci := 3) (fs := [.ref (s0 + 52), .int 0, .ref (s0 + 53), .int 0, .int 0, .ref (s0 + 54), .ref (s0 + 55)]) (x := .ref (s0 + 52)) C h 51 (by decide) ((ue hE_43 (kn (a := 51) (b := 52) rfl)).trans ((p_42.1 51 (kl rfl) (kn rfl)).trans ((ue hE_40 (kn (a := 51) (b := 63) rfl)).trans ((ue hE_39 (kn (a := 51) (b := 52) rfl)).trans ((p_38.1 51 (kl rfl) (kn rfl)).trans ((ue hE_36 (kn (a := 51) (b := 62) rfl)).trans ((ue hE_35 (kn (a := 51) (b := 52) rfl)).trans ((p_34.1 51 (kl rfl) (kn rfl)).trans ((ue hE_32 (kn (a := 51) (b := 61) rfl)).trans ((ue hE_31 (kn (a := 51) (b := 52) rfl)).trans ((p_30.1 51 (kl rfl) (kn rfl)).trans ((ue hE_28 (kn (a := 51) (b := 60) rfl)).trans ((ue hE_27 (kn (a := 51) (b := 52) rfl)).trans ((p_26.1 51 (kl rfl) (kn rfl)).trans ((ue hE_24 (kn (a := 51) (b := 59) rfl)).trans ((ue hE_23 (kn (a := 51) (b := 52) rfl)).trans ((p_22.1 51 (kl rfl) (kn rfl)).trans ((ue hE_20 (kn (a := 51) (b := 58) rfl)).trans ((ue hE_19 (kn (a := 51) (b := 52) rfl)).trans ((p_18.1 51 (kl rfl) (kn rfl)).trans ((ue hE_16 (kn (a := 51) (b := 57) rfl)).trans ((ue hE_15 (kn (a := 51) (b := 52) rfl)).trans ((p_14.1 51 (kl rfl) (kn rfl)).trans ((ue hE_12 (kn (a := 51) (b := 56) rfl)).trans (show E_11 51 = .inr (3, [.ref (s0 + 52), .int 0, .ref (s0 + 53), .int 0, .int 0, .ref (s0 + 54), .ref (s0 + 55)]) from (by rw [hE_11]; rfl)))))))))))))))))))))))))) rfl hi3 0 (by decide) (index := 13) (List.mem_of_getElem? (i := 5) rfl) rfl rfl dX3_init_58 ?_
  refine lv_iload_n hx hb dX3_init_61 rfl (lv_at hl 0 rfl) ?_
  refine k_new (ci := 2) (fs := [.int 0, .int 0, .int 0, .int 0, .int 0]) C h hi2 tyX2 tyX2_ok (List.mem_of_getElem? (i := 4) rfl) (List.mem_of_getElem? (i := 14) rfl) (List.mem_of_getElem? (i := 15) rfl) rfl (fun j hj => by rcases (show j = 0 ∨ j = 1 ∨ j = 2 ∨ j = 3 ∨ j = 4 by omega) with rfl | rfl | rfl | rfl | rfl <;> rfl) (by rw [hR]; exact Nat.le_of_ble_eq_true rfl) (by rw [hR]; exact Nat.le_of_ble_eq_true rfl) dX3_init_62 (fun H h => ?_)
  obtain ⟨E_44, hE_44⟩ : ∃ z, z = va_up E_43 64 (.inr (2, [.int 0, .int 0, .int 0, .int 0, .int 0])) := ⟨_, rfl⟩
  have h : kS D s s0 65 E_44 H locs := by rw [hE_44]; exact h
  refine lv_dup hx hb dX3_init_65 rfl ?_
  refine k_callv C (va_runIN (As := []) (rest := [.ref (s0 + 64), .int 8, .ref (s0 + 52)]) C.1 (c_X2_init_64 l D cs s0 E_44 (show E_44 64 = .inr (2, [.int 0, .int 0, .int 0, .int 0, .int 0]) from (by rw [hE_44]; rfl))) ⟨va_cnB 0 hts ggX3_init_X2_init rfl rfl rfl (C.2.1.2.2.2 (RX3, 38, yX2_init) (List.mem_of_getElem? (i := 4) rfl)) (hts (.initialized RX2) (List.mem_of_getElem? (i := 15) rfl)) (by decide +kernel) ⟨by rw [hR]; exact Nat.le_of_ble_eq_true rfl, by rw [hR]; exact Nat.le_of_ble_eq_true rfl⟩, rfl, hts (.instanceMethod yX2_init) (List.mem_of_getElem? (i := 16) rfl)⟩ ⟨kPre_blind, kS_pre C h _⟩ rfl rfl hl.1 rfl (lv_room (Nat.le_of_ble_eq_true rfl)) dX3_init_66 ⟨(by rw [hR]; exact Nat.le_of_ble_eq_true rfl), (by rw [hR]; exact Nat.le_of_ble_eq_true rfl)⟩) h (fun E_45 H locs p_46 h => ?_)
  refine k_aastq (f := (va_up ((va_up ((va_up ((va_up ((va_up ((va_up ((va_up ((va_up (fun _ => none) 0 (some (s0 + 56)))) 1 (some (s0 + 57)))) 2 (some (s0 + 58)))) 3 (some (s0 + 59)))) 4 (some (s0 + 60)))) 5 (some (s0 + 61)))) 6 (some (s0 + 62)))) 7 (some (s0 + 63)))) C h 52 64 2 5 (by decide) (by decide) (r := (RX2, TX2, 5)) (vs := gfs (fun k => s0 + k) (V0 64) 64 2) ((p_46.1 52 (kl rfl) (kn rfl)).trans ((ue hE_44 (kn (a := 52) (b := 64) rfl)).trans (show E_43 52 = .inl (cs 5, 10, .inr (.inr (.inr (.inr (va_up ((va_up ((va_up ((va_up ((va_up ((va_up ((va_up ((va_up (fun _ => none) 0 (some (s0 + 56)))) 1 (some (s0 + 57)))) 2 (some (s0 + 58)))) 3 (some (s0 + 59)))) 4 (some (s0 + 60)))) 5 (some (s0 + 61)))) 6 (some (s0 + 62)))) 7 (some (s0 + 63))))))) from (by rw [hE_43]; rfl)))) rfl (p_46.2.1) rfl (vp_of (I := 8) (by decide) (by decide) (by decide)) dX3_init_69 (fun H locs h => ?_)
  obtain ⟨E_47, hE_47⟩ : ∃ z, z = va_up E_45 52 (.inl (cs 5, 10, .inr (.inr (.inr (.inr (va_up ((va_up ((va_up ((va_up ((va_up ((va_up ((va_up ((va_up ((va_up (fun _ => none) 0 (some (s0 + 56)))) 1 (some (s0 + 57)))) 2 (some (s0 + 58)))) 3 (some (s0 + 59)))) 4 (some (s0 + 60)))) 5 (some (s0 + 61)))) 6 (some (s0 + 62)))) 7 (some (s0 + 63)))) 8 (some (s0 + 64)))))))) := ⟨_, rfl⟩
  have h : kS D s s0 65 E_47 H locs := by rw [hE_47]; exact h
  refine lv_iinc (v := 9) (lv' := [(1, .int 9), (0, .ref (s0 + 51))]) hx hb dX3_init_70 hl (k := 0) rfl (by decide) (by decide) rfl (fun ls hl => ?_)
  refine lv_goto (tgt := 51) hx hb dX3_init_73 (by decide) ?_
  refine lv_iload_n hx hb dX3_init_51 rfl (lv_at hl 0 rfl) ?_
  refine lv_bipush (v := 10) hx hb dX3_init_52 (by decide) ?_
  refine lv_icmp_ge (tgt := 76) hx hb dX3_init_54 (by decide) (fun c1 => absurd c1 (by decide)) (fun _ => ?_)
  refine lv_aload_n hx hb dX3_init_57 rfl (lv_at hl 1 rfl) ?_
  refine k_get (ci := 3) (fs := [.ref (s0 + 52), .int 0, .ref (s0 + 53), .int 0, .int 0, .ref (s0 + 54), .ref (s0 + 55)]) (x := .ref (s0 + 52)) C h 51 (by decide) ((ue hE_47 (kn (a := 51) (b := 52) rfl)).trans ((p_46.1 51 (kl rfl) (kn rfl)).trans ((ue hE_44 (kn (a := 51) (b := 64) rfl)).trans ((ue hE_43 (kn (a := 51) (b := 52) rfl)).trans ((p_42.1 51 (kl rfl) (kn rfl)).trans ((ue hE_40 (kn (a := 51) (b := 63) rfl)).trans ((ue hE_39 (kn (a := 51) (b := 52) rfl)).trans ((p_38.1 51 (kl rfl) (kn rfl)).trans ((ue hE_36 (kn (a := 51) (b := 62) rfl)).trans ((ue hE_35 (kn (a := 51) (b := 52) rfl)).trans ((p_34.1 51 (kl rfl) (kn rfl)).trans ((ue hE_32 (kn (a := 51) (b := 61) rfl)).trans ((ue hE_31 (kn (a := 51) (b := 52) rfl)).trans ((p_30.1 51 (kl rfl) (kn rfl)).trans ((ue hE_28 (kn (a := 51) (b := 60) rfl)).trans ((ue hE_27 (kn (a := 51) (b := 52) rfl)).trans ((p_26.1 51 (kl rfl) (kn rfl)).trans ((ue hE_24 (kn (a := 51) (b := 59) rfl)).trans ((ue hE_23 (kn (a := 51) (b := 52) rfl)).trans ((p_22.1 51 (kl rfl) (kn rfl)).trans ((ue hE_20 (kn (a := 51) (b := 58) rfl)).trans ((ue hE_19 (kn (a := 51) (b := 52) rfl)).trans ((p_18.1 51 (kl rfl) (kn rfl)).trans ((ue hE_16 (kn (a := 51) (b := 57) rfl)).trans ((ue hE_15 (kn (a := 51) (b := 52) rfl)).trans ((p_14.1 51 (kl rfl) (kn rfl)).trans ((ue hE_12 (kn (a := 51) (b := 56) rfl)).trans (show E_11 51 = .inr (3, [.ref (s0 + 52), .int 0, .ref (s0 + 53), .int 0, .int 0, .ref (s0 + 54), .ref (s0 + 55)]) from (by rw [hE_11]; rfl))))))))))))))))))))))))))))) rfl hi3 0 (by decide) (index := 13) (List.mem_of_getElem? (i := 5) rfl) rfl rfl dX3_init_58 ?_
  refine lv_iload_n hx hb dX3_init_61 rfl (lv_at hl 0 rfl) ?_
  refine k_new (ci := 2) (fs := [.int 0, .int 0, .int 0, .int 0, .int 0]) C h hi2 tyX2 tyX2_ok (List.mem_of_getElem? (i := 4) rfl) (List.mem_of_getElem? (i := 14) rfl) (List.mem_of_getElem? (i := 15) rfl) rfl (fun j hj => by rcases (show j = 0 ∨ j = 1 ∨ j = 2 ∨ j = 3 ∨ j = 4 by omega) with rfl | rfl | rfl | rfl | rfl <;> rfl) (by rw [hR]; exact Nat.le_of_ble_eq_true rfl) (by rw [hR]; exact Nat.le_of_ble_eq_true rfl) dX3_init_62 (fun H h => ?_)
  obtain ⟨E_48, hE_48⟩ : ∃ z, z = va_up E_47 65 (.inr (2, [.int 0, .int 0, .int 0, .int 0, .int 0])) := ⟨_, rfl⟩
  have h : kS D s s0 66 E_48 H locs := by rw [hE_48]; exact h
  refine lv_dup hx hb dX3_init_65 rfl ?_
  refine k_callv C (va_runIN (As := []) (rest := [.ref (s0 + 65), .int 9, .ref (s0 + 52)]) C.1 (c_X2_init_65 l D cs s0 E_48 (show E_48 65 = .inr (2, [.int 0, .int 0, .int 0, .int 0, .int 0]) from (by rw [hE_48]; rfl))) ⟨va_cnB 0 hts ggX3_init_X2_init rfl rfl rfl (C.2.1.2.2.2 (RX3, 38, yX2_init) (List.mem_of_getElem? (i := 4) rfl)) (hts (.initialized RX2) (List.mem_of_getElem? (i := 15) rfl)) (by decide +kernel) ⟨by rw [hR]; exact Nat.le_of_ble_eq_true rfl, by rw [hR]; exact Nat.le_of_ble_eq_true rfl⟩, rfl, hts (.instanceMethod yX2_init) (List.mem_of_getElem? (i := 16) rfl)⟩ ⟨kPre_blind, kS_pre C h _⟩ rfl rfl hl.1 rfl (lv_room (Nat.le_of_ble_eq_true rfl)) dX3_init_66 ⟨(by rw [hR]; exact Nat.le_of_ble_eq_true rfl), (by rw [hR]; exact Nat.le_of_ble_eq_true rfl)⟩) h (fun E_49 H locs p_50 h => ?_)
  refine k_aastq (f := (va_up ((va_up ((va_up ((va_up ((va_up ((va_up ((va_up ((va_up ((va_up (fun _ => none) 0 (some (s0 + 56)))) 1 (some (s0 + 57)))) 2 (some (s0 + 58)))) 3 (some (s0 + 59)))) 4 (some (s0 + 60)))) 5 (some (s0 + 61)))) 6 (some (s0 + 62)))) 7 (some (s0 + 63)))) 8 (some (s0 + 64)))) C h 52 65 2 5 (by decide) (by decide) (r := (RX2, TX2, 5)) (vs := gfs (fun k => s0 + k) (V0 65) 65 2) ((p_50.1 52 (kl rfl) (kn rfl)).trans ((ue hE_48 (kn (a := 52) (b := 65) rfl)).trans (show E_47 52 = .inl (cs 5, 10, .inr (.inr (.inr (.inr (va_up ((va_up ((va_up ((va_up ((va_up ((va_up ((va_up ((va_up ((va_up (fun _ => none) 0 (some (s0 + 56)))) 1 (some (s0 + 57)))) 2 (some (s0 + 58)))) 3 (some (s0 + 59)))) 4 (some (s0 + 60)))) 5 (some (s0 + 61)))) 6 (some (s0 + 62)))) 7 (some (s0 + 63)))) 8 (some (s0 + 64))))))) from (by rw [hE_47]; rfl)))) rfl (p_50.2.1) rfl (vp_of (I := 9) (by decide) (by decide) (by decide)) dX3_init_69 (fun H locs h => ?_)
  obtain ⟨E_51, hE_51⟩ : ∃ z, z = va_up E_49 52 (.inl (cs 5, 10, .inr (.inr (.inr (.inr (va_up ((va_up ((va_up ((va_up ((va_up ((va_up ((va_up ((va_up ((va_up ((va_up (fun _ => none) 0 (some (s0 + 56)))) 1 (some (s0 + 57)))) 2 (some (s0 + 58)))) 3 (some (s0 + 59)))) 4 (some (s0 + 60)))) 5 (some (s0 + 61)))) 6 (some (s0 + 62)))) 7 (some (s0 + 63)))) 8 (some (s0 + 64)))) 9 (some (s0 + 65)))))))) := ⟨_, rfl⟩
  have h : kS D s s0 66 E_51 H locs := by rw [hE_51]; exact h
  refine lv_iinc (v := 10) (lv' := [(1, .int 10), (0, .ref (s0 + 51))]) hx hb dX3_init_70 hl (k := 0) rfl (by decide) (by decide) rfl (fun ls hl => ?_)
  refine lv_goto (tgt := 51) hx hb dX3_init_73 (by decide) ?_
  refine lv_iload_n hx hb dX3_init_51 rfl (lv_at hl 0 rfl) ?_
  refine lv_bipush (v := 10) hx hb dX3_init_52 (by decide) ?_
  refine lv_icmp_ge (tgt := 76) hx hb dX3_init_54 (by decide) (fun _ => ?_) (fun c1 => absurd (by decide) c1)
  have h := kS_cg h 52 (by decide) (fun i => some (s0 + gR SG0 52 i)) (show E_51 52 = .inl (cs 5, 10, .inr (.inr (.inr (.inr (va_up ((va_up ((va_up ((va_up ((va_up ((va_up ((va_up ((va_up ((va_up ((va_up (fun _ => none) 0 (some (s0 + 56)))) 1 (some (s0 + 57)))) 2 (some (s0 + 58)))) 3 (some (s0 + 59)))) 4 (some (s0 + 60)))) 5 (some (s0 + 61)))) 6 (some (s0 + 62)))) 7 (some (s0 + 63)))) 8 (some (s0 + 64)))) 9 (some (s0 + 65))))))) from (by rw [hE_51]; rfl)) (by intro i hi; rcases (show i = 0 ∨ i = 1 ∨ i = 2 ∨ i = 3 ∨ i = 4 ∨ i = 5 ∨ i = 6 ∨ i = 7 ∨ i = 8 ∨ i = 9 by omega) with rfl | rfl | rfl | rfl | rfl | rfl | rfl | rfl | rfl | rfl <;> rfl)
  obtain ⟨E_52, hE_52⟩ : ∃ z, z = va_up E_51 52 (.inl (cs 5, 10, .inr (.inr (.inr (.inr (fun i => some (s0 + gR SG0 52 i))))))) := ⟨_, rfl⟩
  have h : kS D s s0 66 E_52 H locs := by rw [hE_52]; exact h
  have f1 : ∀ k, k < 52 → k ≠ 51 → E_52 k = E k := fun k h1 h2 => ((ue hE_52 (by omega)).trans ((ue hE_51 (by omega)).trans ((p_50.1 _ (by omega) (by omega)).trans ((ue hE_48 (by omega)).trans ((ue hE_47 (by omega)).trans ((p_46.1 _ (by omega) (by omega)).trans ((ue hE_44 (by omega)).trans ((ue hE_43 (by omega)).trans ((p_42.1 _ (by omega) (by omega)).trans ((ue hE_40 (by omega)).trans ((ue hE_39 (by omega)).trans ((p_38.1 _ (by omega) (by omega)).trans ((ue hE_36 (by omega)).trans ((ue hE_35 (by omega)).trans ((p_34.1 _ (by omega) (by omega)).trans ((ue hE_32 (by omega)).trans ((ue hE_31 (by omega)).trans ((p_30.1 _ (by omega) (by omega)).trans ((ue hE_28 (by omega)).trans ((ue hE_27 (by omega)).trans ((p_26.1 _ (by omega) (by omega)).trans ((ue hE_24 (by omega)).trans ((ue hE_23 (by omega)).trans ((p_22.1 _ (by omega) (by omega)).trans ((ue hE_20 (by omega)).trans ((ue hE_19 (by omega)).trans ((p_18.1 _ (by omega) (by omega)).trans ((ue hE_16 (by omega)).trans ((ue hE_15 (by omega)).trans ((p_14.1 _ (by omega) (by omega)).trans ((ue hE_12 (by omega)).trans ((ue hE_11 (by omega)).trans ((ue hE_10 (by omega)).trans ((ue hE_9 (by omega)).trans ((ue hE_8 (by omega)).trans ((ue hE_7 (by omega)).trans ((ue hE_6 (by omega)).trans ((ue hE_5 (by omega)).trans ((ue hE_4 (by omega)).trans ((ue hE_3 (by omega)).trans ((ue hE_2 (by omega)).trans ((ue hE_1 (by omega)).trans rfl))))))))))))))))))))))))))))))))))))))))))
  have f2 : E_52 51 = gE (kG D cs s0) V0 W0 SG0 51 := ((ue hE_52 (kn (a := 51) (b := 52) rfl)).trans ((ue hE_51 (kn (a := 51) (b := 52) rfl)).trans ((p_50.1 51 (kl rfl) (kn rfl)).trans ((ue hE_48 (kn (a := 51) (b := 65) rfl)).trans ((ue hE_47 (kn (a := 51) (b := 52) rfl)).trans ((p_46.1 51 (kl rfl) (kn rfl)).trans ((ue hE_44 (kn (a := 51) (b := 64) rfl)).trans ((ue hE_43 (kn (a := 51) (b := 52) rfl)).trans ((p_42.1 51 (kl rfl) (kn rfl)).trans ((ue hE_40 (kn (a := 51) (b := 63) rfl)).trans ((ue hE_39 (kn (a := 51) (b := 52) rfl)).trans ((p_38.1 51 (kl rfl) (kn rfl)).trans ((ue hE_36 (kn (a := 51) (b := 62) rfl)).trans ((ue hE_35 (kn (a := 51) (b := 52) rfl)).trans ((p_34.1 51 (kl rfl) (kn rfl)).trans ((ue hE_32 (kn (a := 51) (b := 61) rfl)).trans ((ue hE_31 (kn (a := 51) (b := 52) rfl)).trans ((p_30.1 51 (kl rfl) (kn rfl)).trans ((ue hE_28 (kn (a := 51) (b := 60) rfl)).trans ((ue hE_27 (kn (a := 51) (b := 52) rfl)).trans ((p_26.1 51 (kl rfl) (kn rfl)).trans ((ue hE_24 (kn (a := 51) (b := 59) rfl)).trans ((ue hE_23 (kn (a := 51) (b := 52) rfl)).trans ((p_22.1 51 (kl rfl) (kn rfl)).trans ((ue hE_20 (kn (a := 51) (b := 58) rfl)).trans ((ue hE_19 (kn (a := 51) (b := 52) rfl)).trans ((p_18.1 51 (kl rfl) (kn rfl)).trans ((ue hE_16 (kn (a := 51) (b := 57) rfl)).trans ((ue hE_15 (kn (a := 51) (b := 52) rfl)).trans ((p_14.1 51 (kl rfl) (kn rfl)).trans ((ue hE_12 (kn (a := 51) (b := 56) rfl)).trans (show E_11 51 = .inr (3, [.ref (s0 + 52), .int 0, .ref (s0 + 53), .int 0, .int 0, .ref (s0 + 54), .ref (s0 + 55)]) from (by rw [hE_11]; rfl)))))))))))))))))))))))))))))))))
  have g_52 : E_52 52 = gE (kG D cs s0) V0 W0 SG0 52 := (show E_52 52 = .inl (cs 5, 10, .inr (.inr (.inr (.inr (fun i => some (s0 + gR SG0 52 i)))))) from (by rw [hE_52]; rfl))
  have g_53 : E_52 53 = gE (kG D cs s0) V0 W0 SG0 53 := ((ue hE_52 (kn (a := 53) (b := 52) rfl)).trans ((ue hE_51 (kn (a := 53) (b := 52) rfl)).trans ((p_50.1 53 (kl rfl) (kn rfl)).trans ((ue hE_48 (kn (a := 53) (b := 65) rfl)).trans ((ue hE_47 (kn (a := 53) (b := 52) rfl)).trans ((p_46.1 53 (kl rfl) (kn rfl)).trans ((ue hE_44 (kn (a := 53) (b := 64) rfl)).trans ((ue hE_43 (kn (a := 53) (b := 52) rfl)).trans ((p_42.1 53 (kl rfl) (kn rfl)).trans ((ue hE_40 (kn (a := 53) (b := 63) rfl)).trans ((ue hE_39 (kn (a := 53) (b := 52) rfl)).trans ((p_38.1 53 (kl rfl) (kn rfl)).trans ((ue hE_36 (kn (a := 53) (b := 62) rfl)).trans ((ue hE_35 (kn (a := 53) (b := 52) rfl)).trans ((p_34.1 53 (kl rfl) (kn rfl)).trans ((ue hE_32 (kn (a := 53) (b := 61) rfl)).trans ((ue hE_31 (kn (a := 53) (b := 52) rfl)).trans ((p_30.1 53 (kl rfl) (kn rfl)).trans ((ue hE_28 (kn (a := 53) (b := 60) rfl)).trans ((ue hE_27 (kn (a := 53) (b := 52) rfl)).trans ((p_26.1 53 (kl rfl) (kn rfl)).trans ((ue hE_24 (kn (a := 53) (b := 59) rfl)).trans ((ue hE_23 (kn (a := 53) (b := 52) rfl)).trans ((p_22.1 53 (kl rfl) (kn rfl)).trans ((ue hE_20 (kn (a := 53) (b := 58) rfl)).trans ((ue hE_19 (kn (a := 53) (b := 52) rfl)).trans ((p_18.1 53 (kl rfl) (kn rfl)).trans ((ue hE_16 (kn (a := 53) (b := 57) rfl)).trans ((ue hE_15 (kn (a := 53) (b := 52) rfl)).trans ((p_14.1 53 (kl rfl) (kn rfl)).trans ((ue hE_12 (kn (a := 53) (b := 56) rfl)).trans ((ue hE_11 (kn (a := 53) (b := 51) rfl)).trans ((ue hE_10 (kn (a := 53) (b := 55) rfl)).trans ((ue hE_9 (kn (a := 53) (b := 51) rfl)).trans ((ue hE_8 (kn (a := 53) (b := 54) rfl)).trans ((ue hE_7 (kn (a := 53) (b := 51) rfl)).trans ((ue hE_6 (kn (a := 53) (b := 51) rfl)).trans ((ue hE_5 (kn (a := 53) (b := 51) rfl)).trans (show E_4 53 = .inl (cs 0, (3, .inl (fun _ => 0))) from (by rw [hE_4]; rfl))))))))))))))))))))))))))))))))))))))))
  have g_54 : E_52 54 = gE (kG D cs s0) V0 W0 SG0 54 := ((ue hE_52 (kn (a := 54) (b := 52) rfl)).trans ((ue hE_51 (kn (a := 54) (b := 52) rfl)).trans ((p_50.1 54 (kl rfl) (kn rfl)).trans ((ue hE_48 (kn (a := 54) (b := 65) rfl)).trans ((ue hE_47 (kn (a := 54) (b := 52) rfl)).trans ((p_46.1 54 (kl rfl) (kn rfl)).trans ((ue hE_44 (kn (a := 54) (b := 64) rfl)).trans ((ue hE_43 (kn (a := 54) (b := 52) rfl)).trans ((p_42.1 54 (kl rfl) (kn rfl)).trans ((ue hE_40 (kn (a := 54) (b := 63) rfl)).trans ((ue hE_39 (kn (a := 54) (b := 52) rfl)).trans ((p_38.1 54 (kl rfl) (kn rfl)).trans ((ue hE_36 (kn (a := 54) (b := 62) rfl)).trans ((ue hE_35 (kn (a := 54) (b := 52) rfl)).trans ((p_34.1 54 (kl rfl) (kn rfl)).trans ((ue hE_32 (kn (a := 54) (b := 61) rfl)).trans ((ue hE_31 (kn (a := 54) (b := 52) rfl)).trans ((p_30.1 54 (kl rfl) (kn rfl)).trans ((ue hE_28 (kn (a := 54) (b := 60) rfl)).trans ((ue hE_27 (kn (a := 54) (b := 52) rfl)).trans ((p_26.1 54 (kl rfl) (kn rfl)).trans ((ue hE_24 (kn (a := 54) (b := 59) rfl)).trans ((ue hE_23 (kn (a := 54) (b := 52) rfl)).trans ((p_22.1 54 (kl rfl) (kn rfl)).trans ((ue hE_20 (kn (a := 54) (b := 58) rfl)).trans ((ue hE_19 (kn (a := 54) (b := 52) rfl)).trans ((p_18.1 54 (kl rfl) (kn rfl)).trans ((ue hE_16 (kn (a := 54) (b := 57) rfl)).trans ((ue hE_15 (kn (a := 54) (b := 52) rfl)).trans ((p_14.1 54 (kl rfl) (kn rfl)).trans ((ue hE_12 (kn (a := 54) (b := 56) rfl)).trans ((ue hE_11 (kn (a := 54) (b := 51) rfl)).trans ((ue hE_10 (kn (a := 54) (b := 55) rfl)).trans ((ue hE_9 (kn (a := 54) (b := 51) rfl)).trans (show E_8 54 = .inl (cs 1, (3, .inr (.inl (fun _ => 0)))) from (by rw [hE_8]; rfl))))))))))))))))))))))))))))))))))))
  have g_55 : E_52 55 = gE (kG D cs s0) V0 W0 SG0 55 := ((ue hE_52 (kn (a := 55) (b := 52) rfl)).trans ((ue hE_51 (kn (a := 55) (b := 52) rfl)).trans ((p_50.1 55 (kl rfl) (kn rfl)).trans ((ue hE_48 (kn (a := 55) (b := 65) rfl)).trans ((ue hE_47 (kn (a := 55) (b := 52) rfl)).trans ((p_46.1 55 (kl rfl) (kn rfl)).trans ((ue hE_44 (kn (a := 55) (b := 64) rfl)).trans ((ue hE_43 (kn (a := 55) (b := 52) rfl)).trans ((p_42.1 55 (kl rfl) (kn rfl)).trans ((ue hE_40 (kn (a := 55) (b := 63) rfl)).trans ((ue hE_39 (kn (a := 55) (b := 52) rfl)).trans ((p_38.1 55 (kl rfl) (kn rfl)).trans ((ue hE_36 (kn (a := 55) (b := 62) rfl)).trans ((ue hE_35 (kn (a := 55) (b := 52) rfl)).trans ((p_34.1 55 (kl rfl) (kn rfl)).trans ((ue hE_32 (kn (a := 55) (b := 61) rfl)).trans ((ue hE_31 (kn (a := 55) (b := 52) rfl)).trans ((p_30.1 55 (kl rfl) (kn rfl)).trans ((ue hE_28 (kn (a := 55) (b := 60) rfl)).trans ((ue hE_27 (kn (a := 55) (b := 52) rfl)).trans ((p_26.1 55 (kl rfl) (kn rfl)).trans ((ue hE_24 (kn (a := 55) (b := 59) rfl)).trans ((ue hE_23 (kn (a := 55) (b := 52) rfl)).trans ((p_22.1 55 (kl rfl) (kn rfl)).trans ((ue hE_20 (kn (a := 55) (b := 58) rfl)).trans ((ue hE_19 (kn (a := 55) (b := 52) rfl)).trans ((p_18.1 55 (kl rfl) (kn rfl)).trans ((ue hE_16 (kn (a := 55) (b := 57) rfl)).trans ((ue hE_15 (kn (a := 55) (b := 52) rfl)).trans ((p_14.1 55 (kl rfl) (kn rfl)).trans ((ue hE_12 (kn (a := 55) (b := 56) rfl)).trans ((ue hE_11 (kn (a := 55) (b := 51) rfl)).trans (show E_10 55 = .inl (cs 1, (3, .inr (.inl (fun _ => 0)))) from (by rw [hE_10]; rfl))))))))))))))))))))))))))))))))))
  have g_56 : E_52 56 = gE (kG D cs s0) V0 W0 SG0 56 := ((ue hE_52 (kn (a := 56) (b := 52) rfl)).trans ((ue hE_51 (kn (a := 56) (b := 52) rfl)).trans ((p_50.1 56 (kl rfl) (kn rfl)).trans ((ue hE_48 (kn (a := 56) (b := 65) rfl)).trans ((ue hE_47 (kn (a := 56) (b := 52) rfl)).trans ((p_46.1 56 (kl rfl) (kn rfl)).trans ((ue hE_44 (kn (a := 56) (b := 64) rfl)).trans ((ue hE_43 (kn (a := 56) (b := 52) rfl)).trans ((p_42.1 56 (kl rfl) (kn rfl)).trans ((ue hE_40 (kn (a := 56) (b := 63) rfl)).trans ((ue hE_39 (kn (a := 56) (b := 52) rfl)).trans ((p_38.1 56 (kl rfl) (kn rfl)).trans ((ue hE_36 (kn (a := 56) (b := 62) rfl)).trans ((ue hE_35 (kn (a := 56) (b := 52) rfl)).trans ((p_34.1 56 (kl rfl) (kn rfl)).trans ((ue hE_32 (kn (a := 56) (b := 61) rfl)).trans ((ue hE_31 (kn (a := 56) (b := 52) rfl)).trans ((p_30.1 56 (kl rfl) (kn rfl)).trans ((ue hE_28 (kn (a := 56) (b := 60) rfl)).trans ((ue hE_27 (kn (a := 56) (b := 52) rfl)).trans ((p_26.1 56 (kl rfl) (kn rfl)).trans ((ue hE_24 (kn (a := 56) (b := 59) rfl)).trans ((ue hE_23 (kn (a := 56) (b := 52) rfl)).trans ((p_22.1 56 (kl rfl) (kn rfl)).trans ((ue hE_20 (kn (a := 56) (b := 58) rfl)).trans ((ue hE_19 (kn (a := 56) (b := 52) rfl)).trans ((p_18.1 56 (kl rfl) (kn rfl)).trans ((ue hE_16 (kn (a := 56) (b := 57) rfl)).trans ((ue hE_15 (kn (a := 56) (b := 52) rfl)).trans (p_14.2.1))))))))))))))))))))))))))))))
  have g_57 : E_52 57 = gE (kG D cs s0) V0 W0 SG0 57 := ((ue hE_52 (kn (a := 57) (b := 52) rfl)).trans ((ue hE_51 (kn (a := 57) (b := 52) rfl)).trans ((p_50.1 57 (kl rfl) (kn rfl)).trans ((ue hE_48 (kn (a := 57) (b := 65) rfl)).trans ((ue hE_47 (kn (a := 57) (b := 52) rfl)).trans ((p_46.1 57 (kl rfl) (kn rfl)).trans ((ue hE_44 (kn (a := 57) (b := 64) rfl)).trans ((ue hE_43 (kn (a := 57) (b := 52) rfl)).trans ((p_42.1 57 (kl rfl) (kn rfl)).trans ((ue hE_40 (kn (a := 57) (b := 63) rfl)).trans ((ue hE_39 (kn (a := 57) (b := 52) rfl)).trans ((p_38.1 57 (kl rfl) (kn rfl)).trans ((ue hE_36 (kn (a := 57) (b := 62) rfl)).trans ((ue hE_35 (kn (a := 57) (b := 52) rfl)).trans ((p_34.1 57 (kl rfl) (kn rfl)).trans ((ue hE_32 (kn (a := 57) (b := 61) rfl)).trans ((ue hE_31 (kn (a := 57) (b := 52) rfl)).trans ((p_30.1 57 (kl rfl) (kn rfl)).trans ((ue hE_28 (kn (a := 57) (b := 60) rfl)).trans ((ue hE_27 (kn (a := 57) (b := 52) rfl)).trans ((p_26.1 57 (kl rfl) (kn rfl)).trans ((ue hE_24 (kn (a := 57) (b := 59) rfl)).trans ((ue hE_23 (kn (a := 57) (b := 52) rfl)).trans ((p_22.1 57 (kl rfl) (kn rfl)).trans ((ue hE_20 (kn (a := 57) (b := 58) rfl)).trans ((ue hE_19 (kn (a := 57) (b := 52) rfl)).trans (p_18.2.1)))))))))))))))))))))))))))
  have g_58 : E_52 58 = gE (kG D cs s0) V0 W0 SG0 58 := ((ue hE_52 (kn (a := 58) (b := 52) rfl)).trans ((ue hE_51 (kn (a := 58) (b := 52) rfl)).trans ((p_50.1 58 (kl rfl) (kn rfl)).trans ((ue hE_48 (kn (a := 58) (b := 65) rfl)).trans ((ue hE_47 (kn (a := 58) (b := 52) rfl)).trans ((p_46.1 58 (kl rfl) (kn rfl)).trans ((ue hE_44 (kn (a := 58) (b := 64) rfl)).trans ((ue hE_43 (kn (a := 58) (b := 52) rfl)).trans ((p_42.1 58 (kl rfl) (kn rfl)).trans ((ue hE_40 (kn (a := 58) (b := 63) rfl)).trans ((ue hE_39 (kn (a := 58) (b := 52) rfl)).trans ((p_38.1 58 (kl rfl) (kn rfl)).trans ((ue hE_36 (kn (a := 58) (b := 62) rfl)).trans ((ue hE_35 (kn (a := 58) (b := 52) rfl)).trans ((p_34.1 58 (kl rfl) (kn rfl)).trans ((ue hE_32 (kn (a := 58) (b := 61) rfl)).trans ((ue hE_31 (kn (a := 58) (b := 52) rfl)).trans ((p_30.1 58 (kl rfl) (kn rfl)).trans ((ue hE_28 (kn (a := 58) (b := 60) rfl)).trans ((ue hE_27 (kn (a := 58) (b := 52) rfl)).trans ((p_26.1 58 (kl rfl) (kn rfl)).trans ((ue hE_24 (kn (a := 58) (b := 59) rfl)).trans ((ue hE_23 (kn (a := 58) (b := 52) rfl)).trans (p_22.2.1))))))))))))))))))))))))
  have g_59 : E_52 59 = gE (kG D cs s0) V0 W0 SG0 59 := ((ue hE_52 (kn (a := 59) (b := 52) rfl)).trans ((ue hE_51 (kn (a := 59) (b := 52) rfl)).trans ((p_50.1 59 (kl rfl) (kn rfl)).trans ((ue hE_48 (kn (a := 59) (b := 65) rfl)).trans ((ue hE_47 (kn (a := 59) (b := 52) rfl)).trans ((p_46.1 59 (kl rfl) (kn rfl)).trans ((ue hE_44 (kn (a := 59) (b := 64) rfl)).trans ((ue hE_43 (kn (a := 59) (b := 52) rfl)).trans ((p_42.1 59 (kl rfl) (kn rfl)).trans ((ue hE_40 (kn (a := 59) (b := 63) rfl)).trans ((ue hE_39 (kn (a := 59) (b := 52) rfl)).trans ((p_38.1 59 (kl rfl) (kn rfl)).trans ((ue hE_36 (kn (a := 59) (b := 62) rfl)).trans ((ue hE_35 (kn (a := 59) (b := 52) rfl)).trans ((p_34.1 59 (kl rfl) (kn rfl)).trans ((ue hE_32 (kn (a := 59) (b := 61) rfl)).trans ((ue hE_31 (kn (a := 59) (b := 52) rfl)).trans ((p_30.1 59 (kl rfl) (kn rfl)).trans ((ue hE_28 (kn (a := 59) (b := 60) rfl)).trans ((ue hE_27 (kn (a := 59) (b := 52) rfl)).trans (p_26.2.1)))))))))))))))))))))
  have g_60 : E_52 60 = gE (kG D cs s0) V0 W0 SG0 60 := ((ue hE_52 (kn (a := 60) (b := 52) rfl)).trans ((ue hE_51 (kn (a := 60) (b := 52) rfl)).trans ((p_50.1 60 (kl rfl) (kn rfl)).trans ((ue hE_48 (kn (a := 60) (b := 65) rfl)).trans ((ue hE_47 (kn (a := 60) (b := 52) rfl)).trans ((p_46.1 60 (kl rfl) (kn rfl)).trans ((ue hE_44 (kn (a := 60) (b := 64) rfl)).trans ((ue hE_43 (kn (a := 60) (b := 52) rfl)).trans ((p_42.1 60 (kl rfl) (kn rfl)).trans ((ue hE_40 (kn (a := 60) (b := 63) rfl)).trans ((ue hE_39 (kn (a := 60) (b := 52) rfl)).trans ((p_38.1 60 (kl rfl) (kn rfl)).trans ((ue hE_36 (kn (a := 60) (b := 62) rfl)).trans ((ue hE_35 (kn (a := 60) (b := 52) rfl)).trans ((p_34.1 60 (kl rfl) (kn rfl)).trans ((ue hE_32 (kn (a := 60) (b := 61) rfl)).trans ((ue hE_31 (kn (a := 60) (b := 52) rfl)).trans (p_30.2.1))))))))))))))))))
  have g_61 : E_52 61 = gE (kG D cs s0) V0 W0 SG0 61 := ((ue hE_52 (kn (a := 61) (b := 52) rfl)).trans ((ue hE_51 (kn (a := 61) (b := 52) rfl)).trans ((p_50.1 61 (kl rfl) (kn rfl)).trans ((ue hE_48 (kn (a := 61) (b := 65) rfl)).trans ((ue hE_47 (kn (a := 61) (b := 52) rfl)).trans ((p_46.1 61 (kl rfl) (kn rfl)).trans ((ue hE_44 (kn (a := 61) (b := 64) rfl)).trans ((ue hE_43 (kn (a := 61) (b := 52) rfl)).trans ((p_42.1 61 (kl rfl) (kn rfl)).trans ((ue hE_40 (kn (a := 61) (b := 63) rfl)).trans ((ue hE_39 (kn (a := 61) (b := 52) rfl)).trans ((p_38.1 61 (kl rfl) (kn rfl)).trans ((ue hE_36 (kn (a := 61) (b := 62) rfl)).trans ((ue hE_35 (kn (a := 61) (b := 52) rfl)).trans (p_34.2.1)))))))))))))))
  have g_62 : E_52 62 = gE (kG D cs s0) V0 W0 SG0 62 := ((ue hE_52 (kn (a := 62) (b := 52) rfl)).trans ((ue hE_51 (kn (a := 62) (b := 52) rfl)).trans ((p_50.1 62 (kl rfl) (kn rfl)).trans ((ue hE_48 (kn (a := 62) (b := 65) rfl)).trans ((ue hE_47 (kn (a := 62) (b := 52) rfl)).trans ((p_46.1 62 (kl rfl) (kn rfl)).trans ((ue hE_44 (kn (a := 62) (b := 64) rfl)).trans ((ue hE_43 (kn (a := 62) (b := 52) rfl)).trans ((p_42.1 62 (kl rfl) (kn rfl)).trans ((ue hE_40 (kn (a := 62) (b := 63) rfl)).trans ((ue hE_39 (kn (a := 62) (b := 52) rfl)).trans (p_38.2.1))))))))))))
  have g_63 : E_52 63 = gE (kG D cs s0) V0 W0 SG0 63 := ((ue hE_52 (kn (a := 63) (b := 52) rfl)).trans ((ue hE_51 (kn (a := 63) (b := 52) rfl)).trans ((p_50.1 63 (kl rfl) (kn rfl)).trans ((ue hE_48 (kn (a := 63) (b := 65) rfl)).trans ((ue hE_47 (kn (a := 63) (b := 52) rfl)).trans ((p_46.1 63 (kl rfl) (kn rfl)).trans ((ue hE_44 (kn (a := 63) (b := 64) rfl)).trans ((ue hE_43 (kn (a := 63) (b := 52) rfl)).trans (p_42.2.1)))))))))
  have g_64 : E_52 64 = gE (kG D cs s0) V0 W0 SG0 64 := ((ue hE_52 (kn (a := 64) (b := 52) rfl)).trans ((ue hE_51 (kn (a := 64) (b := 52) rfl)).trans ((p_50.1 64 (kl rfl) (kn rfl)).trans ((ue hE_48 (kn (a := 64) (b := 65) rfl)).trans ((ue hE_47 (kn (a := 64) (b := 52) rfl)).trans (p_46.2.1))))))
  have g_65 : E_52 65 = gE (kG D cs s0) V0 W0 SG0 65 := ((ue hE_52 (kn (a := 65) (b := 52) rfl)).trans ((ue hE_51 (kn (a := 65) (b := 52) rfl)).trans (p_50.2.1)))
  have t_52 : ∀ k, 52 ≤ k → k < 52 → E_52 k = gE (kG D cs s0) V0 W0 SG0 k := fun k h1 h2 => absurd h2 (by omega)
  have t_53 : ∀ k, 52 ≤ k → k < 53 → E_52 k = gE (kG D cs s0) V0 W0 SG0 k := k_upto (b := 52) t_52 g_52
  have t_54 : ∀ k, 52 ≤ k → k < 54 → E_52 k = gE (kG D cs s0) V0 W0 SG0 k := k_upto (b := 53) t_53 g_53
  have t_55 : ∀ k, 52 ≤ k → k < 55 → E_52 k = gE (kG D cs s0) V0 W0 SG0 k := k_upto (b := 54) t_54 g_54
  have t_56 : ∀ k, 52 ≤ k → k < 56 → E_52 k = gE (kG D cs s0) V0 W0 SG0 k := k_upto (b := 55) t_55 g_55
  have t_57 : ∀ k, 52 ≤ k → k < 57 → E_52 k = gE (kG D cs s0) V0 W0 SG0 k := k_upto (b := 56) t_56 g_56
  have t_58 : ∀ k, 52 ≤ k → k < 58 → E_52 k = gE (kG D cs s0) V0 W0 SG0 k := k_upto (b := 57) t_57 g_57
  have t_59 : ∀ k, 52 ≤ k → k < 59 → E_52 k = gE (kG D cs s0) V0 W0 SG0 k := k_upto (b := 58) t_58 g_58
  have t_60 : ∀ k, 52 ≤ k → k < 60 → E_52 k = gE (kG D cs s0) V0 W0 SG0 k := k_upto (b := 59) t_59 g_59
  have t_61 : ∀ k, 52 ≤ k → k < 61 → E_52 k = gE (kG D cs s0) V0 W0 SG0 k := k_upto (b := 60) t_60 g_60
  have t_62 : ∀ k, 52 ≤ k → k < 62 → E_52 k = gE (kG D cs s0) V0 W0 SG0 k := k_upto (b := 61) t_61 g_61
  have t_63 : ∀ k, 52 ≤ k → k < 63 → E_52 k = gE (kG D cs s0) V0 W0 SG0 k := k_upto (b := 62) t_62 g_62
  have t_64 : ∀ k, 52 ≤ k → k < 64 → E_52 k = gE (kG D cs s0) V0 W0 SG0 k := k_upto (b := 63) t_63 g_63
  have t_65 : ∀ k, 52 ≤ k → k < 65 → E_52 k = gE (kG D cs s0) V0 W0 SG0 k := k_upto (b := 64) t_64 g_64
  have t_66 : ∀ k, 52 ≤ k → k < 66 → E_52 k = gE (kG D cs s0) V0 W0 SG0 k := k_upto (b := 65) t_65 g_65
  have f3 := t_66
  exact k_vret C hlk hr h dX3_init_76 ⟨f1, f2, f3⟩

set_option maxHeartbeats 4000000 in
set_option maxRecDepth 100000 in
theorem c_X5_init_66 (l : Launch) (D : va_G) (cs : Nat → ClassId) (s0 : Nat) (E : Nat → va_E) (ho : E 66 = .inr (5, [.int 0, .null, .null, .int 0, .int 0, .int 0, .null, .null, .null, .null])) : Met l yX5_init wsX5_init ({ frames := 1, cells := 16, slots := 5268, locals := 20 }) (kPre D cs s0 67 E [.ref (s0 + 66)]) (kQ D s0 83 (kP D cs s0 67 83 66 E)) 16 5268 (fun q => s0 ≤ q) := by
  refine kM_of (cc := cX5_init) (maxL := 1) (by decide) rfl (Nat.le_of_ble_eq_true rfl) ?_
  intro p e R s m args below meth c ls C hR hlk hr hin2 h hl
  have hx := C.1.1
  have hb := C.1.2.1
  have hml := C.1.2.2.1
  have hown := C.1.2.2.2.1
  have hts := C.1.2.2.2.2
  have hl : lv_has ls 1 [(0, .ref (s0 + 66))] := hl
  have hi5 : ∀ x ∈ u_ws RX5 TX5 10, x ∈ wsX5_init := fun x q => List.mem_cons_of_mem _ (List.mem_append_right _ q)
  refine lv_aload_n hx hb dX5_init_0 rfl (lv_at hl 0 rfl) ?_
  refine W.objInit hx hb hown (hts (.methodLink RX5 5 objectInit) (List.mem_of_getElem? (i := 1) rfl)) (hts (.instanceMethod objectInit) (List.mem_of_getElem? (i := 2) rfl)) (hts (.code objectInit ⟨#[0xb1]⟩ 1 none) (List.mem_of_getElem? (i := 3) rfl)) rfl (by rw [hml]; exact hl.1) rfl dX5_init_1 (by rw [hR]; exact Nat.le_of_ble_eq_true rfl) (by rw [hR]; exact Nat.le_of_ble_eq_true rfl) ?_
  refine W.eq (g2 := F0 m 4 ls []) rfl ?_
  refine lv_aload_n hx hb dX5_init_4 rfl (lv_at hl 0 rfl) ?_
  refine lv_iconst (v := 0) hx hb dX5_init_5 (by decide) ?_
  refine k_put (ci := 5) (x := .int 0) (ty := .int) (fs := [.int 0, .null, .null, .int 0, .int 0, .int 0, .null, .null, .null, .null]) C hin2 h 66 (by decide) ho rfl hi5 tyX5 tyX5_ok nmX5 0 (by decide) (index := 11) (List.mem_of_getElem? (i := 4) rfl) rfl rfl (by decide +kernel) rfl rfl (Nat.le_of_ble_eq_true rfl) dX5_init_6 (fun H locs h => ?_)
  obtain ⟨E_1, hE_1⟩ : ∃ z, z = va_up E 66 (.inr (5, [.int 0, .null, .null, .int 0, .int 0, .int 0, .null, .null, .null, .null])) := ⟨_, rfl⟩
  have h : kS D s s0 67 E_1 H locs := by rw [hE_1]; exact h
  refine lv_aload_n hx hb dX5_init_9 rfl (lv_at hl 0 rfl) ?_
  refine lv_bipush (v := 9) hx hb dX5_init_10 (by decide) ?_
  refine k_newa (atype := .boolean) (ty := .boolean) (a0 := (9, .inl (fun _ => 0))) (N' := 9) (k := 9) C h (List.mem_of_getElem? (i := 5) rfl) rfl 2 rfl ra_z (fun _ => rfl) (by decide) (by decide) (by decide) (by rw [hR]; exact Nat.le_of_ble_eq_true rfl) (by rw [hR]; exact Nat.le_of_ble_eq_true rfl) dX5_init_12 (fun H h => ?_)
  obtain ⟨E_2, hE_2⟩ : ∃ z, z = va_up E_1 67 (.inl (cs 2, (9, .inl (fun _ => 0)))) := ⟨_, rfl⟩
  have h : kS D s s0 68 E_2 H locs := by rw [hE_2]; exact h
  refine k_put (ci := 5) (x := .ref (s0 + 67)) (ty := tyX5 1) (fs := [.int 0, .null, .null, .int 0, .int 0, .int 0, .null, .null, .null, .null]) C hin2 h 66 (by decide) ((ue hE_2 (kn (a := 66) (b := 67) rfl)).trans (show E_1 66 = .inr (5, [.int 0, .null, .null, .int 0, .int 0, .int 0, .null, .null, .null, .null]) from (by rw [hE_1]; rfl))) rfl hi5 tyX5 tyX5_ok nmX5 1 (by decide) (index := 15) (List.mem_of_getElem? (i := 6) rfl) rfl rfl (by decide +kernel) rfl rfl (Nat.le_of_ble_eq_true rfl) dX5_init_14 (fun H locs h => ?_)
  obtain ⟨E_3, hE_3⟩ : ∃ z, z = va_up E_2 66 (.inr (5, [.int 0, .ref (s0 + 67), .null, .int 0, .int 0, .int 0, .null, .null, .null, .null])) := ⟨_, rfl⟩
  have h : kS D s s0 68 E_3 H locs := by rw [hE_3]; exact h
  refine lv_aload_n hx hb dX5_init_17 rfl (lv_at hl 0 rfl) ?_
  refine lv_bipush (v := 10) hx hb dX5_init_18 (by decide) ?_
  refine lv_bipush (v := 10) hx hb dX5_init_20 (by decide) ?_
  refine k_mna (ty := .int) (z := (10, .inl (fun _ => 0))) (N := 10) (K := 10) (a := 10) (b := 10) C h (List.mem_of_getElem? (i := 7) rfl) C.2.1.2.1.1 (List.mem_of_getElem? (i := 8) rfl) 3 0 rfl rfl (fun _ _ h => h) (by decide) (by decide) (by decide) (by decide) (by decide) (by decide) (by decide) rfl rfl (by rw [hR]; exact Nat.le_of_ble_eq_true rfl) (by rw [hR]; exact Nat.le_of_ble_eq_true rfl) (fun _ => by rw [vp_cell_i, ← arrV_new]; rfl) dX5_init_22 (fun H h => ?_)
  obtain ⟨E_4, hE_4⟩ : ∃ z, z = kM s0 E_3 68 10 (cs 3) (cs 0) (10, .inl (fun _ => 0)) := ⟨_, rfl⟩
  have h : kS D s s0 79 E_4 H locs := by rw [hE_4]; exact h
  refine k_put (ci := 5) (x := .ref (s0 + 68)) (ty := tyX5 2) (fs := [.int 0, .ref (s0 + 67), .null, .int 0, .int 0, .int 0, .null, .null, .null, .null]) C hin2 h 66 (by decide) ((um hE_4 (show 66 < 68 by decide)).trans (show E_3 66 = .inr (5, [.int 0, .ref (s0 + 67), .null, .int 0, .int 0, .int 0, .null, .null, .null, .null]) from (by rw [hE_3]; rfl))) rfl hi5 tyX5 tyX5_ok nmX5 2 (by decide) (index := 21) (List.mem_of_getElem? (i := 9) rfl) rfl rfl (by decide +kernel) rfl rfl (Nat.le_of_ble_eq_true rfl) dX5_init_26 (fun H locs h => ?_)
  obtain ⟨E_5, hE_5⟩ : ∃ z, z = va_up E_4 66 (.inr (5, [.int 0, .ref (s0 + 67), .ref (s0 + 68), .int 0, .int 0, .int 0, .null, .null, .null, .null])) := ⟨_, rfl⟩
  have h : kS D s s0 79 E_5 H locs := by rw [hE_5]; exact h
  refine lv_aload_n hx hb dX5_init_29 rfl (lv_at hl 0 rfl) ?_
  refine lv_iconst (v := 0) hx hb dX5_init_30 (by decide) ?_
  refine k_put (ci := 5) (x := .int 0) (ty := .boolean) (fs := [.int 0, .ref (s0 + 67), .ref (s0 + 68), .int 0, .int 0, .int 0, .null, .null, .null, .null]) C hin2 h 66 (by decide) (show E_5 66 = .inr (5, [.int 0, .ref (s0 + 67), .ref (s0 + 68), .int 0, .int 0, .int 0, .null, .null, .null, .null]) from (by rw [hE_5]; rfl)) rfl hi5 tyX5 tyX5_ok nmX5 3 (by decide) (index := 24) (List.mem_of_getElem? (i := 10) rfl) rfl rfl (by decide +kernel) rfl rfl (Nat.le_of_ble_eq_true rfl) dX5_init_31 (fun H locs h => ?_)
  obtain ⟨E_6, hE_6⟩ : ∃ z, z = va_up E_5 66 (.inr (5, [.int 0, .ref (s0 + 67), .ref (s0 + 68), .int 0, .int 0, .int 0, .null, .null, .null, .null])) := ⟨_, rfl⟩
  have h : kS D s s0 79 E_6 H locs := by rw [hE_6]; exact h
  refine lv_aload_n hx hb dX5_init_34 rfl (lv_at hl 0 rfl) ?_
  refine lv_iconst (v := 0) hx hb dX5_init_35 (by decide) ?_
  refine k_put (ci := 5) (x := .int 0) (ty := .int) (fs := [.int 0, .ref (s0 + 67), .ref (s0 + 68), .int 0, .int 0, .int 0, .null, .null, .null, .null]) C hin2 h 66 (by decide) (show E_6 66 = .inr (5, [.int 0, .ref (s0 + 67), .ref (s0 + 68), .int 0, .int 0, .int 0, .null, .null, .null, .null]) from (by rw [hE_6]; rfl)) rfl hi5 tyX5 tyX5_ok nmX5 4 (by decide) (index := 28) (List.mem_of_getElem? (i := 11) rfl) rfl rfl (by decide +kernel) rfl rfl (Nat.le_of_ble_eq_true rfl) dX5_init_36 (fun H locs h => ?_)
  obtain ⟨E_7, hE_7⟩ : ∃ z, z = va_up E_6 66 (.inr (5, [.int 0, .ref (s0 + 67), .ref (s0 + 68), .int 0, .int 0, .int 0, .null, .null, .null, .null])) := ⟨_, rfl⟩
  have h : kS D s s0 79 E_7 H locs := by rw [hE_7]; exact h
  refine lv_aload_n hx hb dX5_init_39 rfl (lv_at hl 0 rfl) ?_
  refine lv_iconst (v := 0) hx hb dX5_init_40 (by decide) ?_
  refine k_put (ci := 5) (x := .int 0) (ty := .int) (fs := [.int 0, .ref (s0 + 67), .ref (s0 + 68), .int 0, .int 0, .int 0, .null, .null, .null, .null]) C hin2 h 66 (by decide) (show E_7 66 = .inr (5, [.int 0, .ref (s0 + 67), .ref (s0 + 68), .int 0, .int 0, .int 0, .null, .null, .null, .null]) from (by rw [hE_7]; rfl)) rfl hi5 tyX5 tyX5_ok nmX5 5 (by decide) (index := 31) (List.mem_of_getElem? (i := 12) rfl) rfl rfl (by decide +kernel) rfl rfl (Nat.le_of_ble_eq_true rfl) dX5_init_41 (fun H locs h => ?_)
  obtain ⟨E_8, hE_8⟩ : ∃ z, z = va_up E_7 66 (.inr (5, [.int 0, .ref (s0 + 67), .ref (s0 + 68), .int 0, .int 0, .int 0, .null, .null, .null, .null])) := ⟨_, rfl⟩
  have h : kS D s s0 79 E_8 H locs := by rw [hE_8]; exact h
  refine lv_aload_n hx hb dX5_init_44 rfl (lv_at hl 0 rfl) ?_
  refine lv_bipush (v := 9) hx hb dX5_init_45 (by decide) ?_
  refine k_newa (atype := .int) (ty := .int) (a0 := (9, .inl (fun _ => 0))) (N' := 9) (k := 9) C h (List.mem_of_getElem? (i := 8) rfl) rfl 0 rfl ra_i (fun _ => rfl) (by decide) (by decide) (by decide) (by rw [hR]; exact Nat.le_of_ble_eq_true rfl) (by rw [hR]; exact Nat.le_of_ble_eq_true rfl) dX5_init_47 (fun H h => ?_)
  obtain ⟨E_9, hE_9⟩ : ∃ z, z = va_up E_8 79 (.inl (cs 0, (9, .inl (fun _ => 0)))) := ⟨_, rfl⟩
  have h : kS D s s0 80 E_9 H locs := by rw [hE_9]; exact h
  refine k_put (ci := 5) (x := .ref (s0 + 79)) (ty := tyX5 6) (fs := [.int 0, .ref (s0 + 67), .ref (s0 + 68), .int 0, .int 0, .int 0, .null, .null, .null, .null]) C hin2 h 66 (by decide) ((ue hE_9 (kn (a := 66) (b := 79) rfl)).trans (show E_8 66 = .inr (5, [.int 0, .ref (s0 + 67), .ref (s0 + 68), .int 0, .int 0, .int 0, .null, .null, .null, .null]) from (by rw [hE_8]; rfl))) rfl hi5 tyX5 tyX5_ok nmX5 6 (by decide) (index := 34) (List.mem_of_getElem? (i := 13) rfl) rfl rfl (by decide +kernel) rfl rfl (Nat.le_of_ble_eq_true rfl) dX5_init_49 (fun H locs h => ?_)
  obtain ⟨E_10, hE_10⟩ : ∃ z, z = va_up E_9 66 (.inr (5, [.int 0, .ref (s0 + 67), .ref (s0 + 68), .int 0, .int 0, .int 0, .ref (s0 + 79), .null, .null, .null])) := ⟨_, rfl⟩
  have h : kS D s s0 80 E_10 H locs := by rw [hE_10]; exact h
  refine lv_aload_n hx hb dX5_init_52 rfl (lv_at hl 0 rfl) ?_
  refine lv_bipush (v := 10) hx hb dX5_init_53 (by decide) ?_
  refine k_newa (atype := .int) (ty := .int) (a0 := (10, .inl (fun _ => 0))) (N' := 10) (k := 10) C h (List.mem_of_getElem? (i := 8) rfl) rfl 0 rfl ra_i (fun _ => rfl) (by decide) (by decide) (by decide) (by rw [hR]; exact Nat.le_of_ble_eq_true rfl) (by rw [hR]; exact Nat.le_of_ble_eq_true rfl) dX5_init_55 (fun H h => ?_)
  obtain ⟨E_11, hE_11⟩ : ∃ z, z = va_up E_10 80 (.inl (cs 0, (10, .inl (fun _ => 0)))) := ⟨_, rfl⟩
  have h : kS D s s0 81 E_11 H locs := by rw [hE_11]; exact h
  refine k_put (ci := 5) (x := .ref (s0 + 80)) (ty := tyX5 7) (fs := [.int 0, .ref (s0 + 67), .ref (s0 + 68), .int 0, .int 0, .int 0, .ref (s0 + 79), .null, .null, .null]) C hin2 h 66 (by decide) ((ue hE_11 (kn (a := 66) (b := 80) rfl)).trans (show E_10 66 = .inr (5, [.int 0, .ref (s0 + 67), .ref (s0 + 68), .int 0, .int 0, .int 0, .ref (s0 + 79), .null, .null, .null]) from (by rw [hE_10]; rfl))) rfl hi5 tyX5 tyX5_ok nmX5 7 (by decide) (index := 38) (List.mem_of_getElem? (i := 14) rfl) rfl rfl (by decide +kernel) rfl rfl (Nat.le_of_ble_eq_true rfl) dX5_init_57 (fun H locs h => ?_)
  obtain ⟨E_12, hE_12⟩ : ∃ z, z = va_up E_11 66 (.inr (5, [.int 0, .ref (s0 + 67), .ref (s0 + 68), .int 0, .int 0, .int 0, .ref (s0 + 79), .ref (s0 + 80), .null, .null])) := ⟨_, rfl⟩
  have h : kS D s s0 81 E_12 H locs := by rw [hE_12]; exact h
  refine lv_aload_n hx hb dX5_init_60 rfl (lv_at hl 0 rfl) ?_
  refine lv_bipush (v := 10) hx hb dX5_init_61 (by decide) ?_
  refine k_newa (atype := .int) (ty := .int) (a0 := (10, .inl (fun _ => 0))) (N' := 10) (k := 10) C h (List.mem_of_getElem? (i := 8) rfl) rfl 0 rfl ra_i (fun _ => rfl) (by decide) (by decide) (by decide) (by rw [hR]; exact Nat.le_of_ble_eq_true rfl) (by rw [hR]; exact Nat.le_of_ble_eq_true rfl) dX5_init_63 (fun H h => ?_)
  obtain ⟨E_13, hE_13⟩ : ∃ z, z = va_up E_12 81 (.inl (cs 0, (10, .inl (fun _ => 0)))) := ⟨_, rfl⟩
  have h : kS D s s0 82 E_13 H locs := by rw [hE_13]; exact h
  refine k_put (ci := 5) (x := .ref (s0 + 81)) (ty := tyX5 8) (fs := [.int 0, .ref (s0 + 67), .ref (s0 + 68), .int 0, .int 0, .int 0, .ref (s0 + 79), .ref (s0 + 80), .null, .null]) C hin2 h 66 (by decide) ((ue hE_13 (kn (a := 66) (b := 81) rfl)).trans (show E_12 66 = .inr (5, [.int 0, .ref (s0 + 67), .ref (s0 + 68), .int 0, .int 0, .int 0, .ref (s0 + 79), .ref (s0 + 80), .null, .null]) from (by rw [hE_12]; rfl))) rfl hi5 tyX5 tyX5_ok nmX5 8 (by decide) (index := 41) (List.mem_of_getElem? (i := 15) rfl) rfl rfl (by decide +kernel) rfl rfl (Nat.le_of_ble_eq_true rfl) dX5_init_65 (fun H locs h => ?_)
  obtain ⟨E_14, hE_14⟩ : ∃ z, z = va_up E_13 66 (.inr (5, [.int 0, .ref (s0 + 67), .ref (s0 + 68), .int 0, .int 0, .int 0, .ref (s0 + 79), .ref (s0 + 80), .ref (s0 + 81), .null])) := ⟨_, rfl⟩
  have h : kS D s s0 82 E_14 H locs := by rw [hE_14]; exact h
  refine lv_aload_n hx hb dX5_init_68 rfl (lv_at hl 0 rfl) ?_
  refine lv_sipush (v := 5120) hx hb dX5_init_69 (by decide) ?_
  refine k_newa (atype := .int) (ty := .int) (a0 := (5120, .inl (fun _ => 0))) (N' := 5120) (k := 5120) C h (List.mem_of_getElem? (i := 8) rfl) rfl 0 rfl ra_i (fun _ => rfl) (by decide) (by decide) (by decide) (by rw [hR]; exact Nat.le_of_ble_eq_true rfl) (by rw [hR]; exact Nat.le_of_ble_eq_true rfl) dX5_init_72 (fun H h => ?_)
  obtain ⟨E_15, hE_15⟩ : ∃ z, z = va_up E_14 82 (.inl (cs 0, (5120, .inl (fun _ => 0)))) := ⟨_, rfl⟩
  have h : kS D s s0 83 E_15 H locs := by rw [hE_15]; exact h
  refine k_put (ci := 5) (x := .ref (s0 + 82)) (ty := tyX5 9) (fs := [.int 0, .ref (s0 + 67), .ref (s0 + 68), .int 0, .int 0, .int 0, .ref (s0 + 79), .ref (s0 + 80), .ref (s0 + 81), .null]) C hin2 h 66 (by decide) ((ue hE_15 (kn (a := 66) (b := 82) rfl)).trans (show E_14 66 = .inr (5, [.int 0, .ref (s0 + 67), .ref (s0 + 68), .int 0, .int 0, .int 0, .ref (s0 + 79), .ref (s0 + 80), .ref (s0 + 81), .null]) from (by rw [hE_14]; rfl))) rfl hi5 tyX5 tyX5_ok nmX5 9 (by decide) (index := 44) (List.mem_of_getElem? (i := 16) rfl) rfl rfl (by decide +kernel) rfl rfl (Nat.le_of_ble_eq_true rfl) dX5_init_74 (fun H locs h => ?_)
  obtain ⟨E_16, hE_16⟩ : ∃ z, z = va_up E_15 66 (.inr (5, [.int 0, .ref (s0 + 67), .ref (s0 + 68), .int 0, .int 0, .int 0, .ref (s0 + 79), .ref (s0 + 80), .ref (s0 + 81), .ref (s0 + 82)])) := ⟨_, rfl⟩
  have h : kS D s s0 83 E_16 H locs := by rw [hE_16]; exact h
  have f1 : ∀ k, k < 67 → k ≠ 66 → E_16 k = E k := fun k h1 h2 => ((ue hE_16 (by omega)).trans ((ue hE_15 (by omega)).trans ((ue hE_14 (by omega)).trans ((ue hE_13 (by omega)).trans ((ue hE_12 (by omega)).trans ((ue hE_11 (by omega)).trans ((ue hE_10 (by omega)).trans ((ue hE_9 (by omega)).trans ((ue hE_8 (by omega)).trans ((ue hE_7 (by omega)).trans ((ue hE_6 (by omega)).trans ((ue hE_5 (by omega)).trans ((um hE_4 (by omega)).trans ((ue hE_3 (by omega)).trans ((ue hE_2 (by omega)).trans ((ue hE_1 (by omega)).trans rfl))))))))))))))))
  have f2 : E_16 66 = gE (kG D cs s0) V0 W0 SG0 66 := (show E_16 66 = .inr (5, [.int 0, .ref (s0 + 67), .ref (s0 + 68), .int 0, .int 0, .int 0, .ref (s0 + 79), .ref (s0 + 80), .ref (s0 + 81), .ref (s0 + 82)]) from (by rw [hE_16]; rfl))
  have g_67 : E_16 67 = gE (kG D cs s0) V0 W0 SG0 67 := ((ue hE_16 (kn (a := 67) (b := 66) rfl)).trans ((ue hE_15 (kn (a := 67) (b := 82) rfl)).trans ((ue hE_14 (kn (a := 67) (b := 66) rfl)).trans ((ue hE_13 (kn (a := 67) (b := 81) rfl)).trans ((ue hE_12 (kn (a := 67) (b := 66) rfl)).trans ((ue hE_11 (kn (a := 67) (b := 80) rfl)).trans ((ue hE_10 (kn (a := 67) (b := 66) rfl)).trans ((ue hE_9 (kn (a := 67) (b := 79) rfl)).trans ((ue hE_8 (kn (a := 67) (b := 66) rfl)).trans ((ue hE_7 (kn (a := 67) (b := 66) rfl)).trans ((ue hE_6 (kn (a := 67) (b := 66) rfl)).trans ((ue hE_5 (kn (a := 67) (b := 66) rfl)).trans ((um hE_4 (show 67 < 68 by decide)).trans ((ue hE_3 (kn (a := 67) (b := 66) rfl)).trans (show E_2 67 = .inl (cs 2, (9, .inl (fun _ => 0))) from (by rw [hE_2]; rfl))))))))))))))))
  have g_68 : E_16 68 = gE (kG D cs s0) V0 W0 SG0 68 := ((ue hE_16 (kn (a := 68) (b := 66) rfl)).trans ((ue hE_15 (kn (a := 68) (b := 82) rfl)).trans ((ue hE_14 (kn (a := 68) (b := 66) rfl)).trans ((ue hE_13 (kn (a := 68) (b := 81) rfl)).trans ((ue hE_12 (kn (a := 68) (b := 66) rfl)).trans ((ue hE_11 (kn (a := 68) (b := 80) rfl)).trans ((ue hE_10 (kn (a := 68) (b := 66) rfl)).trans ((ue hE_9 (kn (a := 68) (b := 79) rfl)).trans ((ue hE_8 (kn (a := 68) (b := 66) rfl)).trans ((ue hE_7 (kn (a := 68) (b := 66) rfl)).trans ((ue hE_6 (kn (a := 68) (b := 66) rfl)).trans ((ue hE_5 (kn (a := 68) (b := 66) rfl)).trans (show E_4 68 = .inl (cs 3, 10, .inr (.inr (.inr (.inr (fun i => some (s0 + (68 + 1 + i))))))) from (by rw [hE_4]; rfl))))))))))))))
  have g_69 : E_16 69 = gE (kG D cs s0) V0 W0 SG0 69 := ((ue hE_16 (kn (a := 69) (b := 66) rfl)).trans ((ue hE_15 (kn (a := 69) (b := 82) rfl)).trans ((ue hE_14 (kn (a := 69) (b := 66) rfl)).trans ((ue hE_13 (kn (a := 69) (b := 81) rfl)).trans ((ue hE_12 (kn (a := 69) (b := 66) rfl)).trans ((ue hE_11 (kn (a := 69) (b := 80) rfl)).trans ((ue hE_10 (kn (a := 69) (b := 66) rfl)).trans ((ue hE_9 (kn (a := 69) (b := 79) rfl)).trans ((ue hE_8 (kn (a := 69) (b := 66) rfl)).trans ((ue hE_7 (kn (a := 69) (b := 66) rfl)).trans ((ue hE_6 (kn (a := 69) (b := 66) rfl)).trans ((ue hE_5 (kn (a := 69) (b := 66) rfl)).trans (show E_4 69 = .inl (cs 0, (10, .inl (fun _ => 0))) from (by rw [hE_4]; rfl))))))))))))))
  have g_70 : E_16 70 = gE (kG D cs s0) V0 W0 SG0 70 := ((ue hE_16 (kn (a := 70) (b := 66) rfl)).trans ((ue hE_15 (kn (a := 70) (b := 82) rfl)).trans ((ue hE_14 (kn (a := 70) (b := 66) rfl)).trans ((ue hE_13 (kn (a := 70) (b := 81) rfl)).trans ((ue hE_12 (kn (a := 70) (b := 66) rfl)).trans ((ue hE_11 (kn (a := 70) (b := 80) rfl)).trans ((ue hE_10 (kn (a := 70) (b := 66) rfl)).trans ((ue hE_9 (kn (a := 70) (b := 79) rfl)).trans ((ue hE_8 (kn (a := 70) (b := 66) rfl)).trans ((ue hE_7 (kn (a := 70) (b := 66) rfl)).trans ((ue hE_6 (kn (a := 70) (b := 66) rfl)).trans ((ue hE_5 (kn (a := 70) (b := 66) rfl)).trans (show E_4 70 = .inl (cs 0, (10, .inl (fun _ => 0))) from (by rw [hE_4]; rfl))))))))))))))
  have g_71 : E_16 71 = gE (kG D cs s0) V0 W0 SG0 71 := ((ue hE_16 (kn (a := 71) (b := 66) rfl)).trans ((ue hE_15 (kn (a := 71) (b := 82) rfl)).trans ((ue hE_14 (kn (a := 71) (b := 66) rfl)).trans ((ue hE_13 (kn (a := 71) (b := 81) rfl)).trans ((ue hE_12 (kn (a := 71) (b := 66) rfl)).trans ((ue hE_11 (kn (a := 71) (b := 80) rfl)).trans ((ue hE_10 (kn (a := 71) (b := 66) rfl)).trans ((ue hE_9 (kn (a := 71) (b := 79) rfl)).trans ((ue hE_8 (kn (a := 71) (b := 66) rfl)).trans ((ue hE_7 (kn (a := 71) (b := 66) rfl)).trans ((ue hE_6 (kn (a := 71) (b := 66) rfl)).trans ((ue hE_5 (kn (a := 71) (b := 66) rfl)).trans (show E_4 71 = .inl (cs 0, (10, .inl (fun _ => 0))) from (by rw [hE_4]; rfl))))))))))))))
  have g_72 : E_16 72 = gE (kG D cs s0) V0 W0 SG0 72 := ((ue hE_16 (kn (a := 72) (b := 66) rfl)).trans ((ue hE_15 (kn (a := 72) (b := 82) rfl)).trans ((ue hE_14 (kn (a := 72) (b := 66) rfl)).trans ((ue hE_13 (kn (a := 72) (b := 81) rfl)).trans ((ue hE_12 (kn (a := 72) (b := 66) rfl)).trans ((ue hE_11 (kn (a := 72) (b := 80) rfl)).trans ((ue hE_10 (kn (a := 72) (b := 66) rfl)).trans ((ue hE_9 (kn (a := 72) (b := 79) rfl)).trans ((ue hE_8 (kn (a := 72) (b := 66) rfl)).trans ((ue hE_7 (kn (a := 72) (b := 66) rfl)).trans ((ue hE_6 (kn (a := 72) (b := 66) rfl)).trans ((ue hE_5 (kn (a := 72) (b := 66) rfl)).trans (show E_4 72 = .inl (cs 0, (10, .inl (fun _ => 0))) from (by rw [hE_4]; rfl))))))))))))))
  have g_73 : E_16 73 = gE (kG D cs s0) V0 W0 SG0 73 := ((ue hE_16 (kn (a := 73) (b := 66) rfl)).trans ((ue hE_15 (kn (a := 73) (b := 82) rfl)).trans ((ue hE_14 (kn (a := 73) (b := 66) rfl)).trans ((ue hE_13 (kn (a := 73) (b := 81) rfl)).trans ((ue hE_12 (kn (a := 73) (b := 66) rfl)).trans ((ue hE_11 (kn (a := 73) (b := 80) rfl)).trans ((ue hE_10 (kn (a := 73) (b := 66) rfl)).trans ((ue hE_9 (kn (a := 73) (b := 79) rfl)).trans ((ue hE_8 (kn (a := 73) (b := 66) rfl)).trans ((ue hE_7 (kn (a := 73) (b := 66) rfl)).trans ((ue hE_6 (kn (a := 73) (b := 66) rfl)).trans ((ue hE_5 (kn (a := 73) (b := 66) rfl)).trans (show E_4 73 = .inl (cs 0, (10, .inl (fun _ => 0))) from (by rw [hE_4]; rfl))))))))))))))
  have g_74 : E_16 74 = gE (kG D cs s0) V0 W0 SG0 74 := ((ue hE_16 (kn (a := 74) (b := 66) rfl)).trans ((ue hE_15 (kn (a := 74) (b := 82) rfl)).trans ((ue hE_14 (kn (a := 74) (b := 66) rfl)).trans ((ue hE_13 (kn (a := 74) (b := 81) rfl)).trans ((ue hE_12 (kn (a := 74) (b := 66) rfl)).trans ((ue hE_11 (kn (a := 74) (b := 80) rfl)).trans ((ue hE_10 (kn (a := 74) (b := 66) rfl)).trans ((ue hE_9 (kn (a := 74) (b := 79) rfl)).trans ((ue hE_8 (kn (a := 74) (b := 66) rfl)).trans ((ue hE_7 (kn (a := 74) (b := 66) rfl)).trans ((ue hE_6 (kn (a := 74) (b := 66) rfl)).trans ((ue hE_5 (kn (a := 74) (b := 66) rfl)).trans (show E_4 74 = .inl (cs 0, (10, .inl (fun _ => 0))) from (by rw [hE_4]; rfl))))))))))))))
  have g_75 : E_16 75 = gE (kG D cs s0) V0 W0 SG0 75 := ((ue hE_16 (kn (a := 75) (b := 66) rfl)).trans ((ue hE_15 (kn (a := 75) (b := 82) rfl)).trans ((ue hE_14 (kn (a := 75) (b := 66) rfl)).trans ((ue hE_13 (kn (a := 75) (b := 81) rfl)).trans ((ue hE_12 (kn (a := 75) (b := 66) rfl)).trans ((ue hE_11 (kn (a := 75) (b := 80) rfl)).trans ((ue hE_10 (kn (a := 75) (b := 66) rfl)).trans ((ue hE_9 (kn (a := 75) (b := 79) rfl)).trans ((ue hE_8 (kn (a := 75) (b := 66) rfl)).trans ((ue hE_7 (kn (a := 75) (b := 66) rfl)).trans ((ue hE_6 (kn (a := 75) (b := 66) rfl)).trans ((ue hE_5 (kn (a := 75) (b := 66) rfl)).trans (show E_4 75 = .inl (cs 0, (10, .inl (fun _ => 0))) from (by rw [hE_4]; rfl))))))))))))))
  have g_76 : E_16 76 = gE (kG D cs s0) V0 W0 SG0 76 := ((ue hE_16 (kn (a := 76) (b := 66) rfl)).trans ((ue hE_15 (kn (a := 76) (b := 82) rfl)).trans ((ue hE_14 (kn (a := 76) (b := 66) rfl)).trans ((ue hE_13 (kn (a := 76) (b := 81) rfl)).trans ((ue hE_12 (kn (a := 76) (b := 66) rfl)).trans ((ue hE_11 (kn (a := 76) (b := 80) rfl)).trans ((ue hE_10 (kn (a := 76) (b := 66) rfl)).trans ((ue hE_9 (kn (a := 76) (b := 79) rfl)).trans ((ue hE_8 (kn (a := 76) (b := 66) rfl)).trans ((ue hE_7 (kn (a := 76) (b := 66) rfl)).trans ((ue hE_6 (kn (a := 76) (b := 66) rfl)).trans ((ue hE_5 (kn (a := 76) (b := 66) rfl)).trans (show E_4 76 = .inl (cs 0, (10, .inl (fun _ => 0))) from (by rw [hE_4]; rfl))))))))))))))
  have g_77 : E_16 77 = gE (kG D cs s0) V0 W0 SG0 77 := ((ue hE_16 (kn (a := 77) (b := 66) rfl)).trans ((ue hE_15 (kn (a := 77) (b := 82) rfl)).trans ((ue hE_14 (kn (a := 77) (b := 66) rfl)).trans ((ue hE_13 (kn (a := 77) (b := 81) rfl)).trans ((ue hE_12 (kn (a := 77) (b := 66) rfl)).trans ((ue hE_11 (kn (a := 77) (b := 80) rfl)).trans ((ue hE_10 (kn (a := 77) (b := 66) rfl)).trans ((ue hE_9 (kn (a := 77) (b := 79) rfl)).trans ((ue hE_8 (kn (a := 77) (b := 66) rfl)).trans ((ue hE_7 (kn (a := 77) (b := 66) rfl)).trans ((ue hE_6 (kn (a := 77) (b := 66) rfl)).trans ((ue hE_5 (kn (a := 77) (b := 66) rfl)).trans (show E_4 77 = .inl (cs 0, (10, .inl (fun _ => 0))) from (by rw [hE_4]; rfl))))))))))))))
  have g_78 : E_16 78 = gE (kG D cs s0) V0 W0 SG0 78 := ((ue hE_16 (kn (a := 78) (b := 66) rfl)).trans ((ue hE_15 (kn (a := 78) (b := 82) rfl)).trans ((ue hE_14 (kn (a := 78) (b := 66) rfl)).trans ((ue hE_13 (kn (a := 78) (b := 81) rfl)).trans ((ue hE_12 (kn (a := 78) (b := 66) rfl)).trans ((ue hE_11 (kn (a := 78) (b := 80) rfl)).trans ((ue hE_10 (kn (a := 78) (b := 66) rfl)).trans ((ue hE_9 (kn (a := 78) (b := 79) rfl)).trans ((ue hE_8 (kn (a := 78) (b := 66) rfl)).trans ((ue hE_7 (kn (a := 78) (b := 66) rfl)).trans ((ue hE_6 (kn (a := 78) (b := 66) rfl)).trans ((ue hE_5 (kn (a := 78) (b := 66) rfl)).trans (show E_4 78 = .inl (cs 0, (10, .inl (fun _ => 0))) from (by rw [hE_4]; rfl))))))))))))))
  have g_79 : E_16 79 = gE (kG D cs s0) V0 W0 SG0 79 := ((ue hE_16 (kn (a := 79) (b := 66) rfl)).trans ((ue hE_15 (kn (a := 79) (b := 82) rfl)).trans ((ue hE_14 (kn (a := 79) (b := 66) rfl)).trans ((ue hE_13 (kn (a := 79) (b := 81) rfl)).trans ((ue hE_12 (kn (a := 79) (b := 66) rfl)).trans ((ue hE_11 (kn (a := 79) (b := 80) rfl)).trans ((ue hE_10 (kn (a := 79) (b := 66) rfl)).trans (show E_9 79 = .inl (cs 0, (9, .inl (fun _ => 0))) from (by rw [hE_9]; rfl)))))))))
  have g_80 : E_16 80 = gE (kG D cs s0) V0 W0 SG0 80 := ((ue hE_16 (kn (a := 80) (b := 66) rfl)).trans ((ue hE_15 (kn (a := 80) (b := 82) rfl)).trans ((ue hE_14 (kn (a := 80) (b := 66) rfl)).trans ((ue hE_13 (kn (a := 80) (b := 81) rfl)).trans ((ue hE_12 (kn (a := 80) (b := 66) rfl)).trans (show E_11 80 = .inl (cs 0, (10, .inl (fun _ => 0))) from (by rw [hE_11]; rfl)))))))
  have g_81 : E_16 81 = gE (kG D cs s0) V0 W0 SG0 81 := ((ue hE_16 (kn (a := 81) (b := 66) rfl)).trans ((ue hE_15 (kn (a := 81) (b := 82) rfl)).trans ((ue hE_14 (kn (a := 81) (b := 66) rfl)).trans (show E_13 81 = .inl (cs 0, (10, .inl (fun _ => 0))) from (by rw [hE_13]; rfl)))))
  have g_82 : E_16 82 = gE (kG D cs s0) V0 W0 SG0 82 := ((ue hE_16 (kn (a := 82) (b := 66) rfl)).trans (show E_15 82 = .inl (cs 0, (5120, .inl (fun _ => 0))) from (by rw [hE_15]; rfl)))
  have t_67 : ∀ k, 67 ≤ k → k < 67 → E_16 k = gE (kG D cs s0) V0 W0 SG0 k := fun k h1 h2 => absurd h2 (by omega)
  have t_68 : ∀ k, 67 ≤ k → k < 68 → E_16 k = gE (kG D cs s0) V0 W0 SG0 k := k_upto (b := 67) t_67 g_67
  have t_69 : ∀ k, 67 ≤ k → k < 69 → E_16 k = gE (kG D cs s0) V0 W0 SG0 k := k_upto (b := 68) t_68 g_68
  have t_70 : ∀ k, 67 ≤ k → k < 70 → E_16 k = gE (kG D cs s0) V0 W0 SG0 k := k_upto (b := 69) t_69 g_69
  have t_71 : ∀ k, 67 ≤ k → k < 71 → E_16 k = gE (kG D cs s0) V0 W0 SG0 k := k_upto (b := 70) t_70 g_70
  have t_72 : ∀ k, 67 ≤ k → k < 72 → E_16 k = gE (kG D cs s0) V0 W0 SG0 k := k_upto (b := 71) t_71 g_71
  have t_73 : ∀ k, 67 ≤ k → k < 73 → E_16 k = gE (kG D cs s0) V0 W0 SG0 k := k_upto (b := 72) t_72 g_72
  have t_74 : ∀ k, 67 ≤ k → k < 74 → E_16 k = gE (kG D cs s0) V0 W0 SG0 k := k_upto (b := 73) t_73 g_73
  have t_75 : ∀ k, 67 ≤ k → k < 75 → E_16 k = gE (kG D cs s0) V0 W0 SG0 k := k_upto (b := 74) t_74 g_74
  have t_76 : ∀ k, 67 ≤ k → k < 76 → E_16 k = gE (kG D cs s0) V0 W0 SG0 k := k_upto (b := 75) t_75 g_75
  have t_77 : ∀ k, 67 ≤ k → k < 77 → E_16 k = gE (kG D cs s0) V0 W0 SG0 k := k_upto (b := 76) t_76 g_76
  have t_78 : ∀ k, 67 ≤ k → k < 78 → E_16 k = gE (kG D cs s0) V0 W0 SG0 k := k_upto (b := 77) t_77 g_77
  have t_79 : ∀ k, 67 ≤ k → k < 79 → E_16 k = gE (kG D cs s0) V0 W0 SG0 k := k_upto (b := 78) t_78 g_78
  have t_80 : ∀ k, 67 ≤ k → k < 80 → E_16 k = gE (kG D cs s0) V0 W0 SG0 k := k_upto (b := 79) t_79 g_79
  have t_81 : ∀ k, 67 ≤ k → k < 81 → E_16 k = gE (kG D cs s0) V0 W0 SG0 k := k_upto (b := 80) t_80 g_80
  have t_82 : ∀ k, 67 ≤ k → k < 82 → E_16 k = gE (kG D cs s0) V0 W0 SG0 k := k_upto (b := 81) t_81 g_81
  have t_83 : ∀ k, 67 ≤ k → k < 83 → E_16 k = gE (kG D cs s0) V0 W0 SG0 k := k_upto (b := 82) t_82 g_82
  have f3 := t_83
  exact k_vret C hlk hr h dX5_init_77 ⟨f1, f2, f3⟩

set_option maxHeartbeats 4000000 in
set_option maxRecDepth 100000 in
theorem c_X6_init_83 (l : Launch) (D : va_G) (cs : Nat → ClassId) (s0 : Nat) (E : Nat → va_E) (ho : E 83 = .inr (6, [.int 0, .int 0, .int 0, .int 0, .int 0, .int 0, .int 0, .null])) : Met l yX6_init wsX6_init ({ frames := 1, cells := 9, slots := 32, locals := 20 }) (kPre D cs s0 84 E [.ref (s0 + 83)]) (kQ D s0 93 (kP D cs s0 84 93 83 E)) 9 32 (fun q => s0 ≤ q) := by
  refine kM_of (cc := cX6_init) (maxL := 1) (by decide) rfl (Nat.le_of_ble_eq_true rfl) ?_
  intro p e R s m args below meth c ls C hR hlk hr hin2 h hl
  have hx := C.1.1
  have hb := C.1.2.1
  have hml := C.1.2.2.1
  have hown := C.1.2.2.2.1
  have hts := C.1.2.2.2.2
  have hl : lv_has ls 1 [(0, .ref (s0 + 83))] := hl
  have hi6 : ∀ x ∈ u_ws RX6 TX6 8, x ∈ wsX6_init := fun x q => List.mem_cons_of_mem _ (List.mem_append_right _ q)
  refine lv_aload_n hx hb dX6_init_0 rfl (lv_at hl 0 rfl) ?_
  refine W.objInit hx hb hown (hts (.methodLink RX6 3 objectInit) (List.mem_of_getElem? (i := 1) rfl)) (hts (.instanceMethod objectInit) (List.mem_of_getElem? (i := 2) rfl)) (hts (.code objectInit ⟨#[0xb1]⟩ 1 none) (List.mem_of_getElem? (i := 3) rfl)) rfl (by rw [hml]; exact hl.1) rfl dX6_init_1 (by rw [hR]; exact Nat.le_of_ble_eq_true rfl) (by rw [hR]; exact Nat.le_of_ble_eq_true rfl) ?_
  refine W.eq (g2 := F0 m 4 ls []) rfl ?_
  refine lv_aload_n hx hb dX6_init_4 rfl (lv_at hl 0 rfl) ?_
  refine lv_iconst (v := 4) hx hb dX6_init_5 (by decide) ?_
  refine k_put (ci := 6) (x := .int 4) (ty := .int) (fs := [.int 0, .int 0, .int 0, .int 0, .int 0, .int 0, .int 0, .null]) C hin2 h 83 (by decide) ho rfl hi6 tyX6 tyX6_ok nmX6 0 (by decide) (index := 9) (List.mem_of_getElem? (i := 4) rfl) rfl rfl (by decide +kernel) rfl rfl (Nat.le_of_ble_eq_true rfl) dX6_init_6 (fun H locs h => ?_)
  obtain ⟨E_1, hE_1⟩ : ∃ z, z = va_up E 83 (.inr (6, [.int 4, .int 0, .int 0, .int 0, .int 0, .int 0, .int 0, .null])) := ⟨_, rfl⟩
  have h : kS D s s0 84 E_1 H locs := by rw [hE_1]; exact h
  refine lv_aload_n hx hb dX6_init_9 rfl (lv_at hl 0 rfl) ?_
  refine lv_bipush (v := 10) hx hb dX6_init_10 (by decide) ?_
  refine k_put (ci := 6) (x := .int 10) (ty := .int) (fs := [.int 4, .int 0, .int 0, .int 0, .int 0, .int 0, .int 0, .null]) C hin2 h 83 (by decide) (show E_1 83 = .inr (6, [.int 4, .int 0, .int 0, .int 0, .int 0, .int 0, .int 0, .null]) from (by rw [hE_1]; rfl)) rfl hi6 tyX6 tyX6_ok nmX6 1 (by decide) (index := 15) (List.mem_of_getElem? (i := 5) rfl) rfl rfl (by decide +kernel) rfl rfl (Nat.le_of_ble_eq_true rfl) dX6_init_12 (fun H locs h => ?_)
  obtain ⟨E_2, hE_2⟩ : ∃ z, z = va_up E_1 83 (.inr (6, [.int 4, .int 10, .int 0, .int 0, .int 0, .int 0, .int 0, .null])) := ⟨_, rfl⟩
  have h : kS D s s0 84 E_2 H locs := by rw [hE_2]; exact h
  refine lv_aload_n hx hb dX6_init_15 rfl (lv_at hl 0 rfl) ?_
  refine lv_bipush (v := 20) hx hb dX6_init_16 (by decide) ?_
  refine k_put (ci := 6) (x := .int 20) (ty := .int) (fs := [.int 4, .int 10, .int 0, .int 0, .int 0, .int 0, .int 0, .null]) C hin2 h 83 (by decide) (show E_2 83 = .inr (6, [.int 4, .int 10, .int 0, .int 0, .int 0, .int 0, .int 0, .null]) from (by rw [hE_2]; rfl)) rfl hi6 tyX6 tyX6_ok nmX6 2 (by decide) (index := 18) (List.mem_of_getElem? (i := 6) rfl) rfl rfl (by decide +kernel) rfl rfl (Nat.le_of_ble_eq_true rfl) dX6_init_18 (fun H locs h => ?_)
  obtain ⟨E_3, hE_3⟩ : ∃ z, z = va_up E_2 83 (.inr (6, [.int 4, .int 10, .int 20, .int 0, .int 0, .int 0, .int 0, .null])) := ⟨_, rfl⟩
  have h : kS D s s0 84 E_3 H locs := by rw [hE_3]; exact h
  refine lv_aload_n hx hb dX6_init_21 rfl (lv_at hl 0 rfl) ?_
  refine lv_ldc hx hb hown (hts (.constant RX6 21 (1000000)) (by decide +kernel)) dX6_init_22 ?_
  refine k_put (ci := 6) (x := .int 1000000) (ty := .int) (fs := [.int 4, .int 10, .int 20, .int 0, .int 0, .int 0, .int 0, .null]) C hin2 h 83 (by decide) (show E_3 83 = .inr (6, [.int 4, .int 10, .int 20, .int 0, .int 0, .int 0, .int 0, .null]) from (by rw [hE_3]; rfl)) rfl hi6 tyX6 tyX6_ok nmX6 3 (by decide) (index := 22) (List.mem_of_getElem? (i := 8) rfl) rfl rfl (by decide +kernel) rfl rfl (Nat.le_of_ble_eq_true rfl) dX6_init_24 (fun H locs h => ?_)
  obtain ⟨E_4, hE_4⟩ : ∃ z, z = va_up E_3 83 (.inr (6, [.int 4, .int 10, .int 20, .int 1000000, .int 0, .int 0, .int 0, .null])) := ⟨_, rfl⟩
  have h : kS D s s0 84 E_4 H locs := by rw [hE_4]; exact h
  refine lv_aload_n hx hb dX6_init_27 rfl (lv_at hl 0 rfl) ?_
  refine lv_iconst (v := 0) hx hb dX6_init_28 (by decide) ?_
  refine k_put (ci := 6) (x := .int 0) (ty := .int) (fs := [.int 4, .int 10, .int 20, .int 1000000, .int 0, .int 0, .int 0, .null]) C hin2 h 83 (by decide) (show E_4 83 = .inr (6, [.int 4, .int 10, .int 20, .int 1000000, .int 0, .int 0, .int 0, .null]) from (by rw [hE_4]; rfl)) rfl hi6 tyX6 tyX6_ok nmX6 4 (by decide) (index := 25) (List.mem_of_getElem? (i := 9) rfl) rfl rfl (by decide +kernel) rfl rfl (Nat.le_of_ble_eq_true rfl) dX6_init_29 (fun H locs h => ?_)
  obtain ⟨E_5, hE_5⟩ : ∃ z, z = va_up E_4 83 (.inr (6, [.int 4, .int 10, .int 20, .int 1000000, .int 0, .int 0, .int 0, .null])) := ⟨_, rfl⟩
  have h : kS D s s0 84 E_5 H locs := by rw [hE_5]; exact h
  refine lv_aload_n hx hb dX6_init_32 rfl (lv_at hl 0 rfl) ?_
  refine lv_iconst (v := 0) hx hb dX6_init_33 (by decide) ?_
  refine k_put (ci := 6) (x := .int 0) (ty := .int) (fs := [.int 4, .int 10, .int 20, .int 1000000, .int 0, .int 0, .int 0, .null]) C hin2 h 83 (by decide) (show E_5 83 = .inr (6, [.int 4, .int 10, .int 20, .int 1000000, .int 0, .int 0, .int 0, .null]) from (by rw [hE_5]; rfl)) rfl hi6 tyX6 tyX6_ok nmX6 5 (by decide) (index := 28) (List.mem_of_getElem? (i := 10) rfl) rfl rfl (by decide +kernel) rfl rfl (Nat.le_of_ble_eq_true rfl) dX6_init_34 (fun H locs h => ?_)
  obtain ⟨E_6, hE_6⟩ : ∃ z, z = va_up E_5 83 (.inr (6, [.int 4, .int 10, .int 20, .int 1000000, .int 0, .int 0, .int 0, .null])) := ⟨_, rfl⟩
  have h : kS D s s0 84 E_6 H locs := by rw [hE_6]; exact h
  refine lv_aload_n hx hb dX6_init_37 rfl (lv_at hl 0 rfl) ?_
  refine lv_bipush (v := (-4)) hx hb dX6_init_38 (by decide) ?_
  refine k_put (ci := 6) (x := .int (-4)) (ty := .int) (fs := [.int 4, .int 10, .int 20, .int 1000000, .int 0, .int 0, .int 0, .null]) C hin2 h 83 (by decide) (show E_6 83 = .inr (6, [.int 4, .int 10, .int 20, .int 1000000, .int 0, .int 0, .int 0, .null]) from (by rw [hE_6]; rfl)) rfl hi6 tyX6 tyX6_ok nmX6 6 (by decide) (index := 31) (List.mem_of_getElem? (i := 11) rfl) rfl rfl (by decide +kernel) rfl rfl (Nat.le_of_ble_eq_true rfl) dX6_init_40 (fun H locs h => ?_)
  obtain ⟨E_7, hE_7⟩ : ∃ z, z = va_up E_6 83 (.inr (6, [.int 4, .int 10, .int 20, .int 1000000, .int 0, .int 0, .int (-4), .null])) := ⟨_, rfl⟩
  have h : kS D s s0 84 E_7 H locs := by rw [hE_7]; exact h
  refine lv_aload_n hx hb dX6_init_43 rfl (lv_at hl 0 rfl) ?_
  refine lv_bipush (v := 8) hx hb dX6_init_44 (by decide) ?_
  refine lv_iconst (v := 3) hx hb dX6_init_46 (by decide) ?_
  refine k_mna (ty := .int) (z := (3, .inl (fun _ => 0))) (N := 8) (K := 3) (a := 8) (b := 3) C h (List.mem_of_getElem? (i := 12) rfl) C.2.1.2.1.1 (List.mem_of_getElem? (i := 13) rfl) 3 0 rfl rfl (fun _ _ h => h) (by decide) (by decide) (by decide) (by decide) (by decide) (by decide) (by decide) rfl rfl (by rw [hR]; exact Nat.le_of_ble_eq_true rfl) (by rw [hR]; exact Nat.le_of_ble_eq_true rfl) (fun _ => by rw [vp_cell_i, ← arrV_new]; rfl) dX6_init_47 (fun H h => ?_)
  obtain ⟨E_8, hE_8⟩ : ∃ z, z = kM s0 E_7 84 8 (cs 3) (cs 0) (3, .inl (fun _ => 0)) := ⟨_, rfl⟩
  have h : kS D s s0 93 E_8 H locs := by rw [hE_8]; exact h
  refine k_put (ci := 6) (x := .ref (s0 + 84)) (ty := tyX6 7) (fs := [.int 4, .int 10, .int 20, .int 1000000, .int 0, .int 0, .int (-4), .null]) C hin2 h 83 (by decide) ((um hE_8 (show 83 < 84 by decide)).trans (show E_7 83 = .inr (6, [.int 4, .int 10, .int 20, .int 1000000, .int 0, .int 0, .int (-4), .null]) from (by rw [hE_7]; rfl))) rfl hi6 tyX6 tyX6_ok nmX6 7 (by decide) (index := 36) (List.mem_of_getElem? (i := 14) rfl) rfl rfl (by decide +kernel) rfl rfl (Nat.le_of_ble_eq_true rfl) dX6_init_51 (fun H locs h => ?_)
  obtain ⟨E_9, hE_9⟩ : ∃ z, z = va_up E_8 83 (.inr (6, [.int 4, .int 10, .int 20, .int 1000000, .int 0, .int 0, .int (-4), .ref (s0 + 84)])) := ⟨_, rfl⟩
  have h : kS D s s0 93 E_9 H locs := by rw [hE_9]; exact h
  have f1 : ∀ k, k < 84 → k ≠ 83 → E_9 k = E k := fun k h1 h2 => ((ue hE_9 (by omega)).trans ((um hE_8 (by omega)).trans ((ue hE_7 (by omega)).trans ((ue hE_6 (by omega)).trans ((ue hE_5 (by omega)).trans ((ue hE_4 (by omega)).trans ((ue hE_3 (by omega)).trans ((ue hE_2 (by omega)).trans ((ue hE_1 (by omega)).trans rfl)))))))))
  have f2 : E_9 83 = gE (kG D cs s0) V0 W0 SG0 83 := (show E_9 83 = .inr (6, [.int 4, .int 10, .int 20, .int 1000000, .int 0, .int 0, .int (-4), .ref (s0 + 84)]) from (by rw [hE_9]; rfl))
  have g_84 : E_9 84 = gE (kG D cs s0) V0 W0 SG0 84 := ((ue hE_9 (kn (a := 84) (b := 83) rfl)).trans (show E_8 84 = .inl (cs 3, 8, .inr (.inr (.inr (.inr (fun i => some (s0 + (84 + 1 + i))))))) from (by rw [hE_8]; rfl)))
  have g_85 : E_9 85 = gE (kG D cs s0) V0 W0 SG0 85 := ((ue hE_9 (kn (a := 85) (b := 83) rfl)).trans (show E_8 85 = .inl (cs 0, (3, .inl (fun _ => 0))) from (by rw [hE_8]; rfl)))
  have g_86 : E_9 86 = gE (kG D cs s0) V0 W0 SG0 86 := ((ue hE_9 (kn (a := 86) (b := 83) rfl)).trans (show E_8 86 = .inl (cs 0, (3, .inl (fun _ => 0))) from (by rw [hE_8]; rfl)))
  have g_87 : E_9 87 = gE (kG D cs s0) V0 W0 SG0 87 := ((ue hE_9 (kn (a := 87) (b := 83) rfl)).trans (show E_8 87 = .inl (cs 0, (3, .inl (fun _ => 0))) from (by rw [hE_8]; rfl)))
  have g_88 : E_9 88 = gE (kG D cs s0) V0 W0 SG0 88 := ((ue hE_9 (kn (a := 88) (b := 83) rfl)).trans (show E_8 88 = .inl (cs 0, (3, .inl (fun _ => 0))) from (by rw [hE_8]; rfl)))
  have g_89 : E_9 89 = gE (kG D cs s0) V0 W0 SG0 89 := ((ue hE_9 (kn (a := 89) (b := 83) rfl)).trans (show E_8 89 = .inl (cs 0, (3, .inl (fun _ => 0))) from (by rw [hE_8]; rfl)))
  have g_90 : E_9 90 = gE (kG D cs s0) V0 W0 SG0 90 := ((ue hE_9 (kn (a := 90) (b := 83) rfl)).trans (show E_8 90 = .inl (cs 0, (3, .inl (fun _ => 0))) from (by rw [hE_8]; rfl)))
  have g_91 : E_9 91 = gE (kG D cs s0) V0 W0 SG0 91 := ((ue hE_9 (kn (a := 91) (b := 83) rfl)).trans (show E_8 91 = .inl (cs 0, (3, .inl (fun _ => 0))) from (by rw [hE_8]; rfl)))
  have g_92 : E_9 92 = gE (kG D cs s0) V0 W0 SG0 92 := ((ue hE_9 (kn (a := 92) (b := 83) rfl)).trans (show E_8 92 = .inl (cs 0, (3, .inl (fun _ => 0))) from (by rw [hE_8]; rfl)))
  have t_84 : ∀ k, 84 ≤ k → k < 84 → E_9 k = gE (kG D cs s0) V0 W0 SG0 k := fun k h1 h2 => absurd h2 (by omega)
  have t_85 : ∀ k, 84 ≤ k → k < 85 → E_9 k = gE (kG D cs s0) V0 W0 SG0 k := k_upto (b := 84) t_84 g_84
  have t_86 : ∀ k, 84 ≤ k → k < 86 → E_9 k = gE (kG D cs s0) V0 W0 SG0 k := k_upto (b := 85) t_85 g_85
  have t_87 : ∀ k, 84 ≤ k → k < 87 → E_9 k = gE (kG D cs s0) V0 W0 SG0 k := k_upto (b := 86) t_86 g_86
  have t_88 : ∀ k, 84 ≤ k → k < 88 → E_9 k = gE (kG D cs s0) V0 W0 SG0 k := k_upto (b := 87) t_87 g_87
  have t_89 : ∀ k, 84 ≤ k → k < 89 → E_9 k = gE (kG D cs s0) V0 W0 SG0 k := k_upto (b := 88) t_88 g_88
  have t_90 : ∀ k, 84 ≤ k → k < 90 → E_9 k = gE (kG D cs s0) V0 W0 SG0 k := k_upto (b := 89) t_89 g_89
  have t_91 : ∀ k, 84 ≤ k → k < 91 → E_9 k = gE (kG D cs s0) V0 W0 SG0 k := k_upto (b := 90) t_90 g_90
  have t_92 : ∀ k, 84 ≤ k → k < 92 → E_9 k = gE (kG D cs s0) V0 W0 SG0 k := k_upto (b := 91) t_91 g_91
  have t_93 : ∀ k, 84 ≤ k → k < 93 → E_9 k = gE (kG D cs s0) V0 W0 SG0 k := k_upto (b := 92) t_92 g_92
  have f3 := t_93
  exact k_vret C hlk hr h dX6_init_54 ⟨f1, f2, f3⟩

set_option maxHeartbeats 4000000 in
set_option maxRecDepth 100000 in
theorem c_X8_init_93 (l : Launch) (D : va_G) (cs : Nat → ClassId) (s0 : Nat) (E : Nat → va_E) (ho : E 93 = .inr (8, [.int 0, .null, .null, .null])) : Met l yX8_init wsX8_init ({ frames := 1, cells := 3, slots := 30, locals := 20 }) (kPre D cs s0 94 E [.ref (s0 + 93)]) (kQ D s0 97 (kP D cs s0 94 97 93 E)) 3 30 (fun q => s0 ≤ q) := by
  refine kM_of (cc := cX8_init) (maxL := 1) (by decide) rfl (Nat.le_of_ble_eq_true rfl) ?_
  intro p e R s m args below meth c ls C hR hlk hr hin2 h hl
  have hx := C.1.1
  have hb := C.1.2.1
  have hml := C.1.2.2.1
  have hown := C.1.2.2.2.1
  have hts := C.1.2.2.2.2
  have hl : lv_has ls 1 [(0, .ref (s0 + 93))] := hl
  have hi8 : ∀ x ∈ u_ws RX8 TX8 4, x ∈ wsX8_init := fun x q => List.mem_cons_of_mem _ (List.mem_append_right _ q)
  refine lv_aload_n hx hb dX8_init_0 rfl (lv_at hl 0 rfl) ?_
  refine W.objInit hx hb hown (hts (.methodLink RX8 3 objectInit) (List.mem_of_getElem? (i := 1) rfl)) (hts (.instanceMethod objectInit) (List.mem_of_getElem? (i := 2) rfl)) (hts (.code objectInit ⟨#[0xb1]⟩ 1 none) (List.mem_of_getElem? (i := 3) rfl)) rfl (by rw [hml]; exact hl.1) rfl dX8_init_1 (by rw [hR]; exact Nat.le_of_ble_eq_true rfl) (by rw [hR]; exact Nat.le_of_ble_eq_true rfl) ?_
  refine W.eq (g2 := F0 m 4 ls []) rfl ?_
  refine lv_aload_n hx hb dX8_init_4 rfl (lv_at hl 0 rfl) ?_
  refine lv_iconst (v := 0) hx hb dX8_init_5 (by decide) ?_
  refine k_put (ci := 8) (x := .int 0) (ty := .int) (fs := [.int 0, .null, .null, .null]) C hin2 h 93 (by decide) ho rfl hi8 tyX8 tyX8_ok nmX8 0 (by decide) (index := 9) (List.mem_of_getElem? (i := 4) rfl) rfl rfl (by decide +kernel) rfl rfl (Nat.le_of_ble_eq_true rfl) dX8_init_6 (fun H locs h => ?_)
  obtain ⟨E_1, hE_1⟩ : ∃ z, z = va_up E 93 (.inr (8, [.int 0, .null, .null, .null])) := ⟨_, rfl⟩
  have h : kS D s s0 94 E_1 H locs := by rw [hE_1]; exact h
  refine lv_aload_n hx hb dX8_init_9 rfl (lv_at hl 0 rfl) ?_
  refine lv_bipush (v := 10) hx hb dX8_init_10 (by decide) ?_
  refine k_newa (atype := .boolean) (ty := .boolean) (a0 := (10, .inl (fun _ => 0))) (N' := 10) (k := 10) C h (List.mem_of_getElem? (i := 5) rfl) rfl 2 rfl ra_z (fun _ => rfl) (by decide) (by decide) (by decide) (by rw [hR]; exact Nat.le_of_ble_eq_true rfl) (by rw [hR]; exact Nat.le_of_ble_eq_true rfl) dX8_init_12 (fun H h => ?_)
  obtain ⟨E_2, hE_2⟩ : ∃ z, z = va_up E_1 94 (.inl (cs 2, (10, .inl (fun _ => 0)))) := ⟨_, rfl⟩
  have h : kS D s s0 95 E_2 H locs := by rw [hE_2]; exact h
  refine k_put (ci := 8) (x := .ref (s0 + 94)) (ty := tyX8 1) (fs := [.int 0, .null, .null, .null]) C hin2 h 93 (by decide) ((ue hE_2 (kn (a := 93) (b := 94) rfl)).trans (show E_1 93 = .inr (8, [.int 0, .null, .null, .null]) from (by rw [hE_1]; rfl))) rfl hi8 tyX8 tyX8_ok nmX8 1 (by decide) (index := 15) (List.mem_of_getElem? (i := 6) rfl) rfl rfl (by decide +kernel) rfl rfl (Nat.le_of_ble_eq_true rfl) dX8_init_14 (fun H locs h => ?_)
  obtain ⟨E_3, hE_3⟩ : ∃ z, z = va_up E_2 93 (.inr (8, [.int 0, .ref (s0 + 94), .null, .null])) := ⟨_, rfl⟩
  have h : kS D s s0 95 E_3 H locs := by rw [hE_3]; exact h
  refine lv_aload_n hx hb dX8_init_17 rfl (lv_at hl 0 rfl) ?_
  refine lv_bipush (v := 10) hx hb dX8_init_18 (by decide) ?_
  refine k_newa (atype := .int) (ty := .int) (a0 := (10, .inl (fun _ => 0))) (N' := 10) (k := 10) C h (List.mem_of_getElem? (i := 7) rfl) rfl 0 rfl ra_i (fun _ => rfl) (by decide) (by decide) (by decide) (by rw [hR]; exact Nat.le_of_ble_eq_true rfl) (by rw [hR]; exact Nat.le_of_ble_eq_true rfl) dX8_init_20 (fun H h => ?_)
  obtain ⟨E_4, hE_4⟩ : ∃ z, z = va_up E_3 95 (.inl (cs 0, (10, .inl (fun _ => 0)))) := ⟨_, rfl⟩
  have h : kS D s s0 96 E_4 H locs := by rw [hE_4]; exact h
  refine k_put (ci := 8) (x := .ref (s0 + 95)) (ty := tyX8 2) (fs := [.int 0, .ref (s0 + 94), .null, .null]) C hin2 h 93 (by decide) ((ue hE_4 (kn (a := 93) (b := 95) rfl)).trans (show E_3 93 = .inr (8, [.int 0, .ref (s0 + 94), .null, .null]) from (by rw [hE_3]; rfl))) rfl hi8 tyX8 tyX8_ok nmX8 2 (by decide) (index := 19) (List.mem_of_getElem? (i := 8) rfl) rfl rfl (by decide +kernel) rfl rfl (Nat.le_of_ble_eq_true rfl) dX8_init_22 (fun H locs h => ?_)
  obtain ⟨E_5, hE_5⟩ : ∃ z, z = va_up E_4 93 (.inr (8, [.int 0, .ref (s0 + 94), .ref (s0 + 95), .null])) := ⟨_, rfl⟩
  have h : kS D s s0 96 E_5 H locs := by rw [hE_5]; exact h
  refine lv_aload_n hx hb dX8_init_25 rfl (lv_at hl 0 rfl) ?_
  refine lv_bipush (v := 10) hx hb dX8_init_26 (by decide) ?_
  refine k_newa (atype := .int) (ty := .int) (a0 := (10, .inl (fun _ => 0))) (N' := 10) (k := 10) C h (List.mem_of_getElem? (i := 7) rfl) rfl 0 rfl ra_i (fun _ => rfl) (by decide) (by decide) (by decide) (by rw [hR]; exact Nat.le_of_ble_eq_true rfl) (by rw [hR]; exact Nat.le_of_ble_eq_true rfl) dX8_init_28 (fun H h => ?_)
  obtain ⟨E_6, hE_6⟩ : ∃ z, z = va_up E_5 96 (.inl (cs 0, (10, .inl (fun _ => 0)))) := ⟨_, rfl⟩
  have h : kS D s s0 97 E_6 H locs := by rw [hE_6]; exact h
  refine k_put (ci := 8) (x := .ref (s0 + 96)) (ty := tyX8 3) (fs := [.int 0, .ref (s0 + 94), .ref (s0 + 95), .null]) C hin2 h 93 (by decide) ((ue hE_6 (kn (a := 93) (b := 96) rfl)).trans (show E_5 93 = .inr (8, [.int 0, .ref (s0 + 94), .ref (s0 + 95), .null]) from (by rw [hE_5]; rfl))) rfl hi8 tyX8 tyX8_ok nmX8 3 (by decide) (index := 23) (List.mem_of_getElem? (i := 9) rfl) rfl rfl (by decide +kernel) rfl rfl (Nat.le_of_ble_eq_true rfl) dX8_init_30 (fun H locs h => ?_)
  obtain ⟨E_7, hE_7⟩ : ∃ z, z = va_up E_6 93 (.inr (8, [.int 0, .ref (s0 + 94), .ref (s0 + 95), .ref (s0 + 96)])) := ⟨_, rfl⟩
  have h : kS D s s0 97 E_7 H locs := by rw [hE_7]; exact h
  have f1 : ∀ k, k < 94 → k ≠ 93 → E_7 k = E k := fun k h1 h2 => ((ue hE_7 (by omega)).trans ((ue hE_6 (by omega)).trans ((ue hE_5 (by omega)).trans ((ue hE_4 (by omega)).trans ((ue hE_3 (by omega)).trans ((ue hE_2 (by omega)).trans ((ue hE_1 (by omega)).trans rfl)))))))
  have f2 : E_7 93 = gE (kG D cs s0) V0 W0 SG0 93 := (show E_7 93 = .inr (8, [.int 0, .ref (s0 + 94), .ref (s0 + 95), .ref (s0 + 96)]) from (by rw [hE_7]; rfl))
  have g_94 : E_7 94 = gE (kG D cs s0) V0 W0 SG0 94 := ((ue hE_7 (kn (a := 94) (b := 93) rfl)).trans ((ue hE_6 (kn (a := 94) (b := 96) rfl)).trans ((ue hE_5 (kn (a := 94) (b := 93) rfl)).trans ((ue hE_4 (kn (a := 94) (b := 95) rfl)).trans ((ue hE_3 (kn (a := 94) (b := 93) rfl)).trans (show E_2 94 = .inl (cs 2, (10, .inl (fun _ => 0))) from (by rw [hE_2]; rfl)))))))
  have g_95 : E_7 95 = gE (kG D cs s0) V0 W0 SG0 95 := ((ue hE_7 (kn (a := 95) (b := 93) rfl)).trans ((ue hE_6 (kn (a := 95) (b := 96) rfl)).trans ((ue hE_5 (kn (a := 95) (b := 93) rfl)).trans (show E_4 95 = .inl (cs 0, (10, .inl (fun _ => 0))) from (by rw [hE_4]; rfl)))))
  have g_96 : E_7 96 = gE (kG D cs s0) V0 W0 SG0 96 := ((ue hE_7 (kn (a := 96) (b := 93) rfl)).trans (show E_6 96 = .inl (cs 0, (10, .inl (fun _ => 0))) from (by rw [hE_6]; rfl)))
  have t_94 : ∀ k, 94 ≤ k → k < 94 → E_7 k = gE (kG D cs s0) V0 W0 SG0 k := fun k h1 h2 => absurd h2 (by omega)
  have t_95 : ∀ k, 94 ≤ k → k < 95 → E_7 k = gE (kG D cs s0) V0 W0 SG0 k := k_upto (b := 94) t_94 g_94
  have t_96 : ∀ k, 94 ≤ k → k < 96 → E_7 k = gE (kG D cs s0) V0 W0 SG0 k := k_upto (b := 95) t_95 g_95
  have t_97 : ∀ k, 94 ≤ k → k < 97 → E_7 k = gE (kG D cs s0) V0 W0 SG0 k := k_upto (b := 96) t_96 g_96
  have f3 := t_97
  exact k_vret C hlk hr h dX8_init_33 ⟨f1, f2, f3⟩

set_option maxHeartbeats 4000000 in
set_option maxRecDepth 100000 in
theorem c_X7_init_98 (l : Launch) (D : va_G) (cs : Nat → ClassId) (s0 : Nat) (E : Nat → va_E) (ho : E 98 = .inr (7, [.int 0, .int 0, .null])) : Met l yX7_init wsX7_init ({ frames := 1, cells := 1, slots := 60, locals := 20 }) (kPre D cs s0 99 E [.ref (s0 + 98)]) (kQ D s0 100 (kP D cs s0 99 100 98 E)) 1 60 (fun q => s0 ≤ q) := by
  refine kM_of (cc := cX7_init) (maxL := 1) (by decide) rfl (Nat.le_of_ble_eq_true rfl) ?_
  intro p e R s m args below meth c ls C hR hlk hr hin2 h hl
  have hx := C.1.1
  have hb := C.1.2.1
  have hml := C.1.2.2.1
  have hown := C.1.2.2.2.1
  have hts := C.1.2.2.2.2
  have hl : lv_has ls 1 [(0, .ref (s0 + 98))] := hl
  have hi7 : ∀ x ∈ u_ws RX7 TX7 3, x ∈ wsX7_init := fun x q => List.mem_cons_of_mem _ (List.mem_append_right _ q)
  refine lv_aload_n hx hb dX7_init_0 rfl (lv_at hl 0 rfl) ?_
  refine W.objInit hx hb hown (hts (.methodLink RX7 1 objectInit) (List.mem_of_getElem? (i := 1) rfl)) (hts (.instanceMethod objectInit) (List.mem_of_getElem? (i := 2) rfl)) (hts (.code objectInit ⟨#[0xb1]⟩ 1 none) (List.mem_of_getElem? (i := 3) rfl)) rfl (by rw [hml]; exact hl.1) rfl dX7_init_1 (by rw [hR]; exact Nat.le_of_ble_eq_true rfl) (by rw [hR]; exact Nat.le_of_ble_eq_true rfl) ?_
  refine W.eq (g2 := F0 m 4 ls []) rfl ?_
  refine lv_aload_n hx hb dX7_init_4 rfl (lv_at hl 0 rfl) ?_
  refine lv_iconst (v := (-1)) hx hb dX7_init_5 (by decide) ?_
  refine k_put (ci := 7) (x := .int (-1)) (ty := .int) (fs := [.int 0, .int 0, .null]) C hin2 h 98 (by decide) ho rfl hi7 tyX7 tyX7_ok nmX7 0 (by decide) (index := 9) (List.mem_of_getElem? (i := 4) rfl) rfl rfl (by decide +kernel) rfl rfl (Nat.le_of_ble_eq_true rfl) dX7_init_6 (fun H locs h => ?_)
  obtain ⟨E_1, hE_1⟩ : ∃ z, z = va_up E 98 (.inr (7, [.int (-1), .int 0, .null])) := ⟨_, rfl⟩
  have h : kS D s s0 99 E_1 H locs := by rw [hE_1]; exact h
  refine lv_aload_n hx hb dX7_init_9 rfl (lv_at hl 0 rfl) ?_
  refine lv_iconst (v := 0) hx hb dX7_init_10 (by decide) ?_
  refine k_put (ci := 7) (x := .int 0) (ty := .int) (fs := [.int (-1), .int 0, .null]) C hin2 h 98 (by decide) (show E_1 98 = .inr (7, [.int (-1), .int 0, .null]) from (by rw [hE_1]; rfl)) rfl hi7 tyX7 tyX7_ok nmX7 1 (by decide) (index := 13) (List.mem_of_getElem? (i := 5) rfl) rfl rfl (by decide +kernel) rfl rfl (Nat.le_of_ble_eq_true rfl) dX7_init_11 (fun H locs h => ?_)
  obtain ⟨E_2, hE_2⟩ : ∃ z, z = va_up E_1 98 (.inr (7, [.int (-1), .int 0, .null])) := ⟨_, rfl⟩
  have h : kS D s s0 99 E_2 H locs := by rw [hE_2]; exact h
  refine lv_aload_n hx hb dX7_init_14 rfl (lv_at hl 0 rfl) ?_
  refine lv_bipush (v := 60) hx hb dX7_init_15 (by decide) ?_
  refine k_newa (atype := .int) (ty := .int) (a0 := (60, .inl (fun _ => 0))) (N' := 60) (k := 60) C h (List.mem_of_getElem? (i := 6) rfl) rfl 0 rfl ra_i (fun _ => rfl) (by decide) (by decide) (by decide) (by rw [hR]; exact Nat.le_of_ble_eq_true rfl) (by rw [hR]; exact Nat.le_of_ble_eq_true rfl) dX7_init_17 (fun H h => ?_)
  obtain ⟨E_3, hE_3⟩ : ∃ z, z = va_up E_2 99 (.inl (cs 0, (60, .inl (fun _ => 0)))) := ⟨_, rfl⟩
  have h : kS D s s0 100 E_3 H locs := by rw [hE_3]; exact h
  refine k_put (ci := 7) (x := .ref (s0 + 99)) (ty := tyX7 2) (fs := [.int (-1), .int 0, .null]) C hin2 h 98 (by decide) ((ue hE_3 (kn (a := 98) (b := 99) rfl)).trans (show E_2 98 = .inr (7, [.int (-1), .int 0, .null]) from (by rw [hE_2]; rfl))) rfl hi7 tyX7 tyX7_ok nmX7 2 (by decide) (index := 16) (List.mem_of_getElem? (i := 7) rfl) rfl rfl (by decide +kernel) rfl rfl (Nat.le_of_ble_eq_true rfl) dX7_init_19 (fun H locs h => ?_)
  obtain ⟨E_4, hE_4⟩ : ∃ z, z = va_up E_3 98 (.inr (7, [.int (-1), .int 0, .ref (s0 + 99)])) := ⟨_, rfl⟩
  have h : kS D s s0 100 E_4 H locs := by rw [hE_4]; exact h
  have f1 : ∀ k, k < 99 → k ≠ 98 → E_4 k = E k := fun k h1 h2 => ((ue hE_4 (by omega)).trans ((ue hE_3 (by omega)).trans ((ue hE_2 (by omega)).trans ((ue hE_1 (by omega)).trans rfl))))
  have f2 : E_4 98 = gE (kG D cs s0) V0 W0 SG0 98 := (show E_4 98 = .inr (7, [.int (-1), .int 0, .ref (s0 + 99)]) from (by rw [hE_4]; rfl))
  have g_99 : E_4 99 = gE (kG D cs s0) V0 W0 SG0 99 := ((ue hE_4 (kn (a := 99) (b := 98) rfl)).trans (show E_3 99 = .inl (cs 0, (60, .inl (fun _ => 0))) from (by rw [hE_3]; rfl)))
  have t_99 : ∀ k, 99 ≤ k → k < 99 → E_4 k = gE (kG D cs s0) V0 W0 SG0 k := fun k h1 h2 => absurd h2 (by omega)
  have t_100 : ∀ k, 99 ≤ k → k < 100 → E_4 k = gE (kG D cs s0) V0 W0 SG0 k := k_upto (b := 99) t_99 g_99
  have f3 := t_100
  exact k_vret C hlk hr h dX7_init_22 ⟨f1, f2, f3⟩

set_option maxHeartbeats 4000000 in
set_option maxRecDepth 100000 in
theorem c_X7_init_100 (l : Launch) (D : va_G) (cs : Nat → ClassId) (s0 : Nat) (E : Nat → va_E) (ho : E 100 = .inr (7, [.int 0, .int 0, .null])) : Met l yX7_init wsX7_init ({ frames := 1, cells := 1, slots := 60, locals := 20 }) (kPre D cs s0 101 E [.ref (s0 + 100)]) (kQ D s0 102 (kP D cs s0 101 102 100 E)) 1 60 (fun q => s0 ≤ q) := by
  refine kM_of (cc := cX7_init) (maxL := 1) (by decide) rfl (Nat.le_of_ble_eq_true rfl) ?_
  intro p e R s m args below meth c ls C hR hlk hr hin2 h hl
  have hx := C.1.1
  have hb := C.1.2.1
  have hml := C.1.2.2.1
  have hown := C.1.2.2.2.1
  have hts := C.1.2.2.2.2
  have hl : lv_has ls 1 [(0, .ref (s0 + 100))] := hl
  have hi7 : ∀ x ∈ u_ws RX7 TX7 3, x ∈ wsX7_init := fun x q => List.mem_cons_of_mem _ (List.mem_append_right _ q)
  refine lv_aload_n hx hb dX7_init_0 rfl (lv_at hl 0 rfl) ?_
  refine W.objInit hx hb hown (hts (.methodLink RX7 1 objectInit) (List.mem_of_getElem? (i := 1) rfl)) (hts (.instanceMethod objectInit) (List.mem_of_getElem? (i := 2) rfl)) (hts (.code objectInit ⟨#[0xb1]⟩ 1 none) (List.mem_of_getElem? (i := 3) rfl)) rfl (by rw [hml]; exact hl.1) rfl dX7_init_1 (by rw [hR]; exact Nat.le_of_ble_eq_true rfl) (by rw [hR]; exact Nat.le_of_ble_eq_true rfl) ?_
  refine W.eq (g2 := F0 m 4 ls []) rfl ?_
  refine lv_aload_n hx hb dX7_init_4 rfl (lv_at hl 0 rfl) ?_
  refine lv_iconst (v := (-1)) hx hb dX7_init_5 (by decide) ?_
  refine k_put (ci := 7) (x := .int (-1)) (ty := .int) (fs := [.int 0, .int 0, .null]) C hin2 h 100 (by decide) ho rfl hi7 tyX7 tyX7_ok nmX7 0 (by decide) (index := 9) (List.mem_of_getElem? (i := 4) rfl) rfl rfl (by decide +kernel) rfl rfl (Nat.le_of_ble_eq_true rfl) dX7_init_6 (fun H locs h => ?_)
  obtain ⟨E_1, hE_1⟩ : ∃ z, z = va_up E 100 (.inr (7, [.int (-1), .int 0, .null])) := ⟨_, rfl⟩
  have h : kS D s s0 101 E_1 H locs := by rw [hE_1]; exact h
  refine lv_aload_n hx hb dX7_init_9 rfl (lv_at hl 0 rfl) ?_
  refine lv_iconst (v := 0) hx hb dX7_init_10 (by decide) ?_
  refine k_put (ci := 7) (x := .int 0) (ty := .int) (fs := [.int (-1), .int 0, .null]) C hin2 h 100 (by decide) (show E_1 100 = .inr (7, [.int (-1), .int 0, .null]) from (by rw [hE_1]; rfl)) rfl hi7 tyX7 tyX7_ok nmX7 1 (by decide) (index := 13) (List.mem_of_getElem? (i := 5) rfl) rfl rfl (by decide +kernel) rfl rfl (Nat.le_of_ble_eq_true rfl) dX7_init_11 (fun H locs h => ?_)
  obtain ⟨E_2, hE_2⟩ : ∃ z, z = va_up E_1 100 (.inr (7, [.int (-1), .int 0, .null])) := ⟨_, rfl⟩
  have h : kS D s s0 101 E_2 H locs := by rw [hE_2]; exact h
  refine lv_aload_n hx hb dX7_init_14 rfl (lv_at hl 0 rfl) ?_
  refine lv_bipush (v := 60) hx hb dX7_init_15 (by decide) ?_
  refine k_newa (atype := .int) (ty := .int) (a0 := (60, .inl (fun _ => 0))) (N' := 60) (k := 60) C h (List.mem_of_getElem? (i := 6) rfl) rfl 0 rfl ra_i (fun _ => rfl) (by decide) (by decide) (by decide) (by rw [hR]; exact Nat.le_of_ble_eq_true rfl) (by rw [hR]; exact Nat.le_of_ble_eq_true rfl) dX7_init_17 (fun H h => ?_)
  obtain ⟨E_3, hE_3⟩ : ∃ z, z = va_up E_2 101 (.inl (cs 0, (60, .inl (fun _ => 0)))) := ⟨_, rfl⟩
  have h : kS D s s0 102 E_3 H locs := by rw [hE_3]; exact h
  refine k_put (ci := 7) (x := .ref (s0 + 101)) (ty := tyX7 2) (fs := [.int (-1), .int 0, .null]) C hin2 h 100 (by decide) ((ue hE_3 (kn (a := 100) (b := 101) rfl)).trans (show E_2 100 = .inr (7, [.int (-1), .int 0, .null]) from (by rw [hE_2]; rfl))) rfl hi7 tyX7 tyX7_ok nmX7 2 (by decide) (index := 16) (List.mem_of_getElem? (i := 7) rfl) rfl rfl (by decide +kernel) rfl rfl (Nat.le_of_ble_eq_true rfl) dX7_init_19 (fun H locs h => ?_)
  obtain ⟨E_4, hE_4⟩ : ∃ z, z = va_up E_3 100 (.inr (7, [.int (-1), .int 0, .ref (s0 + 101)])) := ⟨_, rfl⟩
  have h : kS D s s0 102 E_4 H locs := by rw [hE_4]; exact h
  have f1 : ∀ k, k < 101 → k ≠ 100 → E_4 k = E k := fun k h1 h2 => ((ue hE_4 (by omega)).trans ((ue hE_3 (by omega)).trans ((ue hE_2 (by omega)).trans ((ue hE_1 (by omega)).trans rfl))))
  have f2 : E_4 100 = gE (kG D cs s0) V0 W0 SG0 100 := (show E_4 100 = .inr (7, [.int (-1), .int 0, .ref (s0 + 101)]) from (by rw [hE_4]; rfl))
  have g_101 : E_4 101 = gE (kG D cs s0) V0 W0 SG0 101 := ((ue hE_4 (kn (a := 101) (b := 100) rfl)).trans (show E_3 101 = .inl (cs 0, (60, .inl (fun _ => 0))) from (by rw [hE_3]; rfl)))
  have t_101 : ∀ k, 101 ≤ k → k < 101 → E_4 k = gE (kG D cs s0) V0 W0 SG0 k := fun k h1 h2 => absurd h2 (by omega)
  have t_102 : ∀ k, 101 ≤ k → k < 102 → E_4 k = gE (kG D cs s0) V0 W0 SG0 k := k_upto (b := 101) t_101 g_101
  have f3 := t_102
  exact k_vret C hlk hr h dX7_init_22 ⟨f1, f2, f3⟩

set_option maxHeartbeats 4000000 in
set_option maxRecDepth 100000 in
theorem c_X7_init_102 (l : Launch) (D : va_G) (cs : Nat → ClassId) (s0 : Nat) (E : Nat → va_E) (ho : E 102 = .inr (7, [.int 0, .int 0, .null])) : Met l yX7_init wsX7_init ({ frames := 1, cells := 1, slots := 60, locals := 20 }) (kPre D cs s0 103 E [.ref (s0 + 102)]) (kQ D s0 104 (kP D cs s0 103 104 102 E)) 1 60 (fun q => s0 ≤ q) := by
  refine kM_of (cc := cX7_init) (maxL := 1) (by decide) rfl (Nat.le_of_ble_eq_true rfl) ?_
  intro p e R s m args below meth c ls C hR hlk hr hin2 h hl
  have hx := C.1.1
  have hb := C.1.2.1
  have hml := C.1.2.2.1
  have hown := C.1.2.2.2.1
  have hts := C.1.2.2.2.2
  have hl : lv_has ls 1 [(0, .ref (s0 + 102))] := hl
  have hi7 : ∀ x ∈ u_ws RX7 TX7 3, x ∈ wsX7_init := fun x q => List.mem_cons_of_mem _ (List.mem_append_right _ q)
  refine lv_aload_n hx hb dX7_init_0 rfl (lv_at hl 0 rfl) ?_
  refine W.objInit hx hb hown (hts (.methodLink RX7 1 objectInit) (List.mem_of_getElem? (i := 1) rfl)) (hts (.instanceMethod objectInit) (List.mem_of_getElem? (i := 2) rfl)) (hts (.code objectInit ⟨#[0xb1]⟩ 1 none) (List.mem_of_getElem? (i := 3) rfl)) rfl (by rw [hml]; exact hl.1) rfl dX7_init_1 (by rw [hR]; exact Nat.le_of_ble_eq_true rfl) (by rw [hR]; exact Nat.le_of_ble_eq_true rfl) ?_
  refine W.eq (g2 := F0 m 4 ls []) rfl ?_
  refine lv_aload_n hx hb dX7_init_4 rfl (lv_at hl 0 rfl) ?_
  refine lv_iconst (v := (-1)) hx hb dX7_init_5 (by decide) ?_
  refine k_put (ci := 7) (x := .int (-1)) (ty := .int) (fs := [.int 0, .int 0, .null]) C hin2 h 102 (by decide) ho rfl hi7 tyX7 tyX7_ok nmX7 0 (by decide) (index := 9) (List.mem_of_getElem? (i := 4) rfl) rfl rfl (by decide +kernel) rfl rfl (Nat.le_of_ble_eq_true rfl) dX7_init_6 (fun H locs h => ?_)
  obtain ⟨E_1, hE_1⟩ : ∃ z, z = va_up E 102 (.inr (7, [.int (-1), .int 0, .null])) := ⟨_, rfl⟩
  have h : kS D s s0 103 E_1 H locs := by rw [hE_1]; exact h
  refine lv_aload_n hx hb dX7_init_9 rfl (lv_at hl 0 rfl) ?_
  refine lv_iconst (v := 0) hx hb dX7_init_10 (by decide) ?_
  refine k_put (ci := 7) (x := .int 0) (ty := .int) (fs := [.int (-1), .int 0, .null]) C hin2 h 102 (by decide) (show E_1 102 = .inr (7, [.int (-1), .int 0, .null]) from (by rw [hE_1]; rfl)) rfl hi7 tyX7 tyX7_ok nmX7 1 (by decide) (index := 13) (List.mem_of_getElem? (i := 5) rfl) rfl rfl (by decide +kernel) rfl rfl (Nat.le_of_ble_eq_true rfl) dX7_init_11 (fun H locs h => ?_)
  obtain ⟨E_2, hE_2⟩ : ∃ z, z = va_up E_1 102 (.inr (7, [.int (-1), .int 0, .null])) := ⟨_, rfl⟩
  have h : kS D s s0 103 E_2 H locs := by rw [hE_2]; exact h
  refine lv_aload_n hx hb dX7_init_14 rfl (lv_at hl 0 rfl) ?_
  refine lv_bipush (v := 60) hx hb dX7_init_15 (by decide) ?_
  refine k_newa (atype := .int) (ty := .int) (a0 := (60, .inl (fun _ => 0))) (N' := 60) (k := 60) C h (List.mem_of_getElem? (i := 6) rfl) rfl 0 rfl ra_i (fun _ => rfl) (by decide) (by decide) (by decide) (by rw [hR]; exact Nat.le_of_ble_eq_true rfl) (by rw [hR]; exact Nat.le_of_ble_eq_true rfl) dX7_init_17 (fun H h => ?_)
  obtain ⟨E_3, hE_3⟩ : ∃ z, z = va_up E_2 103 (.inl (cs 0, (60, .inl (fun _ => 0)))) := ⟨_, rfl⟩
  have h : kS D s s0 104 E_3 H locs := by rw [hE_3]; exact h
  refine k_put (ci := 7) (x := .ref (s0 + 103)) (ty := tyX7 2) (fs := [.int (-1), .int 0, .null]) C hin2 h 102 (by decide) ((ue hE_3 (kn (a := 102) (b := 103) rfl)).trans (show E_2 102 = .inr (7, [.int (-1), .int 0, .null]) from (by rw [hE_2]; rfl))) rfl hi7 tyX7 tyX7_ok nmX7 2 (by decide) (index := 16) (List.mem_of_getElem? (i := 7) rfl) rfl rfl (by decide +kernel) rfl rfl (Nat.le_of_ble_eq_true rfl) dX7_init_19 (fun H locs h => ?_)
  obtain ⟨E_4, hE_4⟩ : ∃ z, z = va_up E_3 102 (.inr (7, [.int (-1), .int 0, .ref (s0 + 103)])) := ⟨_, rfl⟩
  have h : kS D s s0 104 E_4 H locs := by rw [hE_4]; exact h
  have f1 : ∀ k, k < 103 → k ≠ 102 → E_4 k = E k := fun k h1 h2 => ((ue hE_4 (by omega)).trans ((ue hE_3 (by omega)).trans ((ue hE_2 (by omega)).trans ((ue hE_1 (by omega)).trans rfl))))
  have f2 : E_4 102 = gE (kG D cs s0) V0 W0 SG0 102 := (show E_4 102 = .inr (7, [.int (-1), .int 0, .ref (s0 + 103)]) from (by rw [hE_4]; rfl))
  have g_103 : E_4 103 = gE (kG D cs s0) V0 W0 SG0 103 := ((ue hE_4 (kn (a := 103) (b := 102) rfl)).trans (show E_3 103 = .inl (cs 0, (60, .inl (fun _ => 0))) from (by rw [hE_3]; rfl)))
  have t_103 : ∀ k, 103 ≤ k → k < 103 → E_4 k = gE (kG D cs s0) V0 W0 SG0 k := fun k h1 h2 => absurd h2 (by omega)
  have t_104 : ∀ k, 103 ≤ k → k < 104 → E_4 k = gE (kG D cs s0) V0 W0 SG0 k := k_upto (b := 103) t_103 g_103
  have f3 := t_104
  exact k_vret C hlk hr h dX7_init_22 ⟨f1, f2, f3⟩

set_option maxHeartbeats 4000000 in
set_option maxRecDepth 100000 in
theorem c_X7_init_104 (l : Launch) (D : va_G) (cs : Nat → ClassId) (s0 : Nat) (E : Nat → va_E) (ho : E 104 = .inr (7, [.int 0, .int 0, .null])) : Met l yX7_init wsX7_init ({ frames := 1, cells := 1, slots := 60, locals := 20 }) (kPre D cs s0 105 E [.ref (s0 + 104)]) (kQ D s0 106 (kP D cs s0 105 106 104 E)) 1 60 (fun q => s0 ≤ q) := by
  refine kM_of (cc := cX7_init) (maxL := 1) (by decide) rfl (Nat.le_of_ble_eq_true rfl) ?_
  intro p e R s m args below meth c ls C hR hlk hr hin2 h hl
  have hx := C.1.1
  have hb := C.1.2.1
  have hml := C.1.2.2.1
  have hown := C.1.2.2.2.1
  have hts := C.1.2.2.2.2
  have hl : lv_has ls 1 [(0, .ref (s0 + 104))] := hl
  have hi7 : ∀ x ∈ u_ws RX7 TX7 3, x ∈ wsX7_init := fun x q => List.mem_cons_of_mem _ (List.mem_append_right _ q)
  refine lv_aload_n hx hb dX7_init_0 rfl (lv_at hl 0 rfl) ?_
  refine W.objInit hx hb hown (hts (.methodLink RX7 1 objectInit) (List.mem_of_getElem? (i := 1) rfl)) (hts (.instanceMethod objectInit) (List.mem_of_getElem? (i := 2) rfl)) (hts (.code objectInit ⟨#[0xb1]⟩ 1 none) (List.mem_of_getElem? (i := 3) rfl)) rfl (by rw [hml]; exact hl.1) rfl dX7_init_1 (by rw [hR]; exact Nat.le_of_ble_eq_true rfl) (by rw [hR]; exact Nat.le_of_ble_eq_true rfl) ?_
  refine W.eq (g2 := F0 m 4 ls []) rfl ?_
  refine lv_aload_n hx hb dX7_init_4 rfl (lv_at hl 0 rfl) ?_
  refine lv_iconst (v := (-1)) hx hb dX7_init_5 (by decide) ?_
  refine k_put (ci := 7) (x := .int (-1)) (ty := .int) (fs := [.int 0, .int 0, .null]) C hin2 h 104 (by decide) ho rfl hi7 tyX7 tyX7_ok nmX7 0 (by decide) (index := 9) (List.mem_of_getElem? (i := 4) rfl) rfl rfl (by decide +kernel) rfl rfl (Nat.le_of_ble_eq_true rfl) dX7_init_6 (fun H locs h => ?_)
  obtain ⟨E_1, hE_1⟩ : ∃ z, z = va_up E 104 (.inr (7, [.int (-1), .int 0, .null])) := ⟨_, rfl⟩
  have h : kS D s s0 105 E_1 H locs := by rw [hE_1]; exact h
  refine lv_aload_n hx hb dX7_init_9 rfl (lv_at hl 0 rfl) ?_
  refine lv_iconst (v := 0) hx hb dX7_init_10 (by decide) ?_
  refine k_put (ci := 7) (x := .int 0) (ty := .int) (fs := [.int (-1), .int 0, .null]) C hin2 h 104 (by decide) (show E_1 104 = .inr (7, [.int (-1), .int 0, .null]) from (by rw [hE_1]; rfl)) rfl hi7 tyX7 tyX7_ok nmX7 1 (by decide) (index := 13) (List.mem_of_getElem? (i := 5) rfl) rfl rfl (by decide +kernel) rfl rfl (Nat.le_of_ble_eq_true rfl) dX7_init_11 (fun H locs h => ?_)
  obtain ⟨E_2, hE_2⟩ : ∃ z, z = va_up E_1 104 (.inr (7, [.int (-1), .int 0, .null])) := ⟨_, rfl⟩
  have h : kS D s s0 105 E_2 H locs := by rw [hE_2]; exact h
  refine lv_aload_n hx hb dX7_init_14 rfl (lv_at hl 0 rfl) ?_
  refine lv_bipush (v := 60) hx hb dX7_init_15 (by decide) ?_
  refine k_newa (atype := .int) (ty := .int) (a0 := (60, .inl (fun _ => 0))) (N' := 60) (k := 60) C h (List.mem_of_getElem? (i := 6) rfl) rfl 0 rfl ra_i (fun _ => rfl) (by decide) (by decide) (by decide) (by rw [hR]; exact Nat.le_of_ble_eq_true rfl) (by rw [hR]; exact Nat.le_of_ble_eq_true rfl) dX7_init_17 (fun H h => ?_)
  obtain ⟨E_3, hE_3⟩ : ∃ z, z = va_up E_2 105 (.inl (cs 0, (60, .inl (fun _ => 0)))) := ⟨_, rfl⟩
  have h : kS D s s0 106 E_3 H locs := by rw [hE_3]; exact h
  refine k_put (ci := 7) (x := .ref (s0 + 105)) (ty := tyX7 2) (fs := [.int (-1), .int 0, .null]) C hin2 h 104 (by decide) ((ue hE_3 (kn (a := 104) (b := 105) rfl)).trans (show E_2 104 = .inr (7, [.int (-1), .int 0, .null]) from (by rw [hE_2]; rfl))) rfl hi7 tyX7 tyX7_ok nmX7 2 (by decide) (index := 16) (List.mem_of_getElem? (i := 7) rfl) rfl rfl (by decide +kernel) rfl rfl (Nat.le_of_ble_eq_true rfl) dX7_init_19 (fun H locs h => ?_)
  obtain ⟨E_4, hE_4⟩ : ∃ z, z = va_up E_3 104 (.inr (7, [.int (-1), .int 0, .ref (s0 + 105)])) := ⟨_, rfl⟩
  have h : kS D s s0 106 E_4 H locs := by rw [hE_4]; exact h
  have f1 : ∀ k, k < 105 → k ≠ 104 → E_4 k = E k := fun k h1 h2 => ((ue hE_4 (by omega)).trans ((ue hE_3 (by omega)).trans ((ue hE_2 (by omega)).trans ((ue hE_1 (by omega)).trans rfl))))
  have f2 : E_4 104 = gE (kG D cs s0) V0 W0 SG0 104 := (show E_4 104 = .inr (7, [.int (-1), .int 0, .ref (s0 + 105)]) from (by rw [hE_4]; rfl))
  have g_105 : E_4 105 = gE (kG D cs s0) V0 W0 SG0 105 := ((ue hE_4 (kn (a := 105) (b := 104) rfl)).trans (show E_3 105 = .inl (cs 0, (60, .inl (fun _ => 0))) from (by rw [hE_3]; rfl)))
  have t_105 : ∀ k, 105 ≤ k → k < 105 → E_4 k = gE (kG D cs s0) V0 W0 SG0 k := fun k h1 h2 => absurd h2 (by omega)
  have t_106 : ∀ k, 105 ≤ k → k < 106 → E_4 k = gE (kG D cs s0) V0 W0 SG0 k := k_upto (b := 105) t_105 g_105
  have f3 := t_106
  exact k_vret C hlk hr h dX7_init_22 ⟨f1, f2, f3⟩
