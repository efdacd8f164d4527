set_option maxHeartbeats 4000000 in
set_option maxRecDepth 100000 in
theorem c_X5_setMove (l : Launch) (G : gG) (v : Nat → Nat → Int32) (w : Nat → Nat → Int64) (sg : Nat → Nat) (p1 : Int32) {A1 : Int} (a1 : p1.toInt = A1) (p2 : Int32) {A2 : Int} (a2 : p2.toInt = A2) (b1 : 0 ≤ A1 ∧ A1 ≤ 9) (b2 : 0 ≤ A2 ∧ A2 ≤ 9) (ci : cI v) : Met l yX5_setMove wsX5_setMove ({ frames := 1, cells := 0, slots := 0, locals := 21 }) (gPre G v w sg [.ref (G.2.2 (66)), .int (p1), .int (p2)]) (gQv G (fun v' w' sg' => (cI v' ∧ fC 69 79 v w v' w ∧ v' = gu (gu v (69 + A1.toNat) A2.toNat (mvC (v 80 A1.toNat) (v 81 A1.toNat) (v 80 A2.toNat) (v 81 A2.toNat))) (69 + A2.toNat) A1.toNat (mvC (v 80 A1.toNat) (v 81 A1.toNat) (v 80 A2.toNat) (v 81 A2.toNat))) ∧ w = w' ∧ sg = sg')) 0 0 (gA G) := by
  refine gM_ofv (cc := cX5_setMove) (maxL := 5) (by decide) rfl (Nat.le_of_ble_eq_true rfl) ?_
  intro p e R s m args below meth c Q ls C hR ret h hl
  have hx := C.1.1
  have hb := C.1.2.1
  have hown := C.1.2.2.2.1
  have hts := C.1.2.2.2.2
  have hl : lv_has ls 5 [(0, .ref (G.2.2 (66))), (1, .int (p1)), (2, .int (p2))] := hl
  have q1 := i_rng p1; rw [a1] at q1
  have q2 := i_rng p2; rw [a2] at q2
  have z_0 : (0 : Int32).toInt = 0 := by decide
  have z_1 : (1 : Int32).toInt = 1 := by decide
  have z_3 : (3 : Int32).toInt = 3 := by decide
  have z_7 : (7 : Int32).toInt = 7 := by decide
  have z_24 : (24 : Int32).toInt = 24 := by decide
  have f38 : Cond.fieldLink RX5 38 "WindHall$Program" "angle" "[I" ∈ wsX5_setMove := by decide +kernel
  have hi5 : ∀ x ∈ u_ws RX5 TX5 10, x ∈ wsX5_setMove := fun x q => List.mem_cons_of_mem _ (List.mem_append_right _ q)
  have f41 : Cond.fieldLink RX5 41 "WindHall$Program" "speed" "[I" ∈ wsX5_setMove := by decide +kernel
  have f21 : Cond.fieldLink RX5 21 "WindHall$Program" "move" "[[I" ∈ wsX5_setMove := by decide +kernel
  have o_1 := ci
  obtain ⟨K1, K2, K3, K4, K5, K6, K7, Ks, K9, Ka, Kr, Kz⟩ := o_1
  refine lv_aload_n hx hb dX5_setMove_0 rfl (lv_at hl 0 rfl) ?_
  refine g_get (ci := 5) (x := .ref (G.2.2 (80))) C h 66 (by decide) rfl rfl hi5 7 (by decide) f38 rfl rfl dX5_setMove_1 ?_
  refine lv_iload_n hx hb dX5_setMove_4 rfl (lv_at hl 1 rfl) ?_
  refine g_iald C h 80 (by decide) (by decide) (n := 10) (by decide) (vp_of a1 (by omega) (by omega)) dX5_setMove_5 ?_
  refine lv_topi (fun x_2 e_3 => ?_)
  refine lv_aload_n hx hb dX5_setMove_6 rfl (lv_at hl 0 rfl) ?_
  refine g_get (ci := 5) (x := .ref (G.2.2 (80))) C h 66 (by decide) rfl rfl hi5 7 (by decide) f38 rfl rfl dX5_setMove_7 ?_
  refine lv_iload_n hx hb dX5_setMove_10 rfl (lv_at hl 2 rfl) ?_
  refine g_iald C h 80 (by decide) (by decide) (n := 10) (by decide) (vp_of a2 (by omega) (by omega)) dX5_setMove_11 ?_
  refine lv_topi (fun x_4 e_5 => ?_)
  refine lv_isub hx hb dX5_setMove_12 ?_
  refine lv_topi (fun x_6 e_7 => ?_)
  refine va_mabs hx hb (C.1.2.2.1.trans hl.1.symm) hown (hts (.methodLink RX5 51 Lib.Math.abs.name) (by decide +kernel)) (hts (.static Lib.Math.abs.name) (by decide +kernel)) (hts (.initialized "java/lang/Math") (by decide +kernel)) (hts (.code Lib.Math.abs.name Lib.Math.abs.code 1 (some .int)) (by decide +kernel)) (by rw [hR]; exact Nat.le_of_ble_eq_true rfl) (by rw [hR]; exact Nat.le_of_ble_eq_true rfl) (Nat.zero_le _) (Nat.zero_le _) dX5_setMove_13 ?_
  refine lv_topi (fun x_8 e_9 => ?_)
  refine lv_istore_n (lv' := [(3, .int (x_8)), (0, .ref (G.2.2 (66))), (1, .int (p1)), (2, .int (p2))]) hx hb dX5_setMove_16 rfl hl (by decide) rfl (fun ls hl => ?_)
  refine lv_iconst (v := 3) hx hb dX5_setMove_17 (by decide) ?_
  refine lv_iload_n hx hb dX5_setMove_18 rfl (lv_at hl 0 rfl) ?_
  refine lv_bipush (v := 24) hx hb dX5_setMove_19 (by decide) ?_
  refine lv_iload_n hx hb dX5_setMove_21 rfl (lv_at hl 0 rfl) ?_
  refine lv_isub hx hb dX5_setMove_22 ?_
  refine lv_topi (fun x_10 e_11 => ?_)
  refine va_mmin hx hb (C.1.2.2.1.trans hl.1.symm) hown (hts (.methodLink RX5 57 Lib.Math.min.name) (by decide +kernel)) (hts (.static Lib.Math.min.name) (by decide +kernel)) (hts (.initialized "java/lang/Math") (by decide +kernel)) (hts (.code Lib.Math.min.name Lib.Math.min.code 2 (some .int)) (by decide +kernel)) (by rw [hR]; exact Nat.le_of_ble_eq_true rfl) (by rw [hR]; exact Nat.le_of_ble_eq_true rfl) (Nat.zero_le _) (Nat.zero_le _) dX5_setMove_23 ?_
  refine lv_topi (fun x_12 e_13 => ?_)
  refine lv_imul hx hb dX5_setMove_26 ?_
  refine lv_topi (fun x_14 e_15 => ?_)
  refine lv_bipush (v := 7) hx hb dX5_setMove_27 (by decide) ?_
  refine lv_aload_n hx hb dX5_setMove_29 rfl (lv_at hl 1 rfl) ?_
  refine g_get (ci := 5) (x := .ref (G.2.2 (81))) C h 66 (by decide) rfl rfl hi5 8 (by decide) f41 rfl rfl dX5_setMove_30 ?_
  refine lv_iload_n hx hb dX5_setMove_33 rfl (lv_at hl 2 rfl) ?_
  refine g_iald C h 81 (by decide) (by decide) (n := 10) (by decide) (vp_of a1 (by omega) (by omega)) dX5_setMove_34 ?_
  refine lv_topi (fun x_16 e_17 => ?_)
  refine lv_aload_n hx hb dX5_setMove_35 rfl (lv_at hl 1 rfl) ?_
  refine g_get (ci := 5) (x := .ref (G.2.2 (81))) C h 66 (by decide) rfl rfl hi5 8 (by decide) f41 rfl rfl dX5_setMove_36 ?_
  refine lv_iload_n hx hb dX5_setMove_39 rfl (lv_at hl 3 rfl) ?_
  refine g_iald C h 81 (by decide) (by decide) (n := 10) (by decide) (vp_of a2 (by omega) (by omega)) dX5_setMove_40 ?_
  refine lv_topi (fun x_18 e_19 => ?_)
  refine lv_isub hx hb dX5_setMove_41 ?_
  refine lv_topi (fun x_20 e_21 => ?_)
  refine va_mabs hx hb (C.1.2.2.1.trans hl.1.symm) hown (hts (.methodLink RX5 51 Lib.Math.abs.name) (by decide +kernel)) (hts (.static Lib.Math.abs.name) (by decide +kernel)) (hts (.initialized "java/lang/Math") (by decide +kernel)) (hts (.code Lib.Math.abs.name Lib.Math.abs.code 1 (some .int)) (by decide +kernel)) (by rw [hR]; exact Nat.le_of_ble_eq_true rfl) (by rw [hR]; exact Nat.le_of_ble_eq_true rfl) (Nat.zero_le _) (Nat.zero_le _) dX5_setMove_42 ?_
  refine lv_topi (fun x_22 e_23 => ?_)
  refine lv_imul hx hb dX5_setMove_45 ?_
  refine lv_topi (fun x_24 e_25 => ?_)
  refine lv_iadd hx hb dX5_setMove_46 ?_
  refine lv_topi (fun x_26 e_27 => ?_)
  have hmv : x_26 = (mvC (v 80 A1.toNat) (v 81 A1.toNat) (v 80 A2.toNat) (v 81 A2.toNat)) := by subst_vars; rfl
  refine lv_istore (lv' := [(4, .int (x_26)), (3, .int (x_8)), (0, .ref (G.2.2 (66))), (1, .int (p1)), (2, .int (p2))]) hx hb dX5_setMove_47 hl (by decide) rfl (fun ls hl => ?_)
  refine lv_aload_n hx hb dX5_setMove_49 rfl (lv_at hl 2 rfl) ?_
  refine g_get (ci := 5) (x := .ref (G.2.2 (68))) C h 66 (by decide) rfl rfl hi5 2 (by decide) f21 rfl rfl dX5_setMove_50 ?_
  refine lv_iload_n hx hb dX5_setMove_53 rfl (lv_at hl 3 rfl) ?_
  refine g_aald (ty := .array .int) C h 68 (by decide) 0 (by decide) (n := 10) (by decide) rfl rfl (vp_of a1 (by omega) (by omega)) dX5_setMove_54 ?_
  obtain ⟨q_28, q_28_e, q_28_i, q_28_l⟩ := g_row sg (b := 68) (n := 10) (i := p1) (by decide) (by decide) a1 (by omega) (by omega)
  rw [q_28_e]
  refine lv_iload_n hx hb dX5_setMove_55 rfl (lv_at hl 4 rfl) ?_
  refine lv_iload hx hb dX5_setMove_56 (lv_at hl 0 rfl) ?_
  refine g_iast C h q_28 (by omega) (g_kd 69 10 1 rfl q_28_l) (n := 10) (g_ln 69 10 10 rfl q_28_l) (vp_of a2 (by omega) (by omega)) dX5_setMove_58 (fun H locs h => ?_)
  obtain ⟨v_29, hv_29⟩ : ∃ z, z = gu v q_28 ((p2 : Int32).toNatClampNeg) x_26 := ⟨_, rfl⟩
  have h : gS (gA G) G s v_29 w sg H locs := by rw [hv_29]; exact h
  have u_30 : cI v_29 := by rw [hv_29]; exact (cI_o ci (by omega))
  have u_31 : fC 69 79 v w v_29 w := by rw [hv_29]; exact (fC_v fC_rf (by omega))
  refine lv_aload_n hx hb dX5_setMove_59 rfl (lv_at hl 2 rfl) ?_
  refine g_get (ci := 5) (x := .ref (G.2.2 (68))) C h 66 (by decide) rfl rfl hi5 2 (by decide) f21 rfl rfl dX5_setMove_60 ?_
  refine lv_iload_n hx hb dX5_setMove_63 rfl (lv_at hl 4 rfl) ?_
  refine g_aald (ty := .array .int) C h 68 (by decide) 0 (by decide) (n := 10) (by decide) rfl rfl (vp_of a2 (by omega) (by omega)) dX5_setMove_64 ?_
  obtain ⟨q_32, q_32_e, q_32_i, q_32_l⟩ := g_row sg (b := 68) (n := 10) (i := p2) (by decide) (by decide) a2 (by omega) (by omega)
  rw [q_32_e]
  refine lv_iload_n hx hb dX5_setMove_65 rfl (lv_at hl 3 rfl) ?_
  refine lv_iload hx hb dX5_setMove_66 (lv_at hl 0 rfl) ?_
  refine g_iast C h q_32 (by omega) (g_kd 69 10 1 rfl q_32_l) (n := 10) (g_ln 69 10 10 rfl q_32_l) (vp_of a1 (by omega) (by omega)) dX5_setMove_68 (fun H locs h => ?_)
  obtain ⟨v_33, hv_33⟩ : ∃ z, z = gu v_29 q_32 ((p1 : Int32).toNatClampNeg) x_26 := ⟨_, rfl⟩
  have h : gS (gA G) G s v_33 w sg H locs := by rw [hv_33]; exact h
  have u_34 : cI v_33 := by rw [hv_33]; exact (cI_o u_30 (by omega))
  have u_35 : fC 69 79 v w v_33 w := by rw [hv_33]; exact (fC_v u_31 (by omega))
  exact ret v_33 w sg _ _ _ _ dX5_setMove_69 h ⟨⟨u_34, u_35, (by rw [hv_33, hv_29, cl_nat a1, cl_nat a2, show q_28 = 69 + A1.toNat by omega, show q_32 = 69 + A2.toNat by omega, hmv])⟩, rfl, rfl⟩

set_option maxHeartbeats 4000000 in
set_option maxRecDepth 100000 in
theorem c_X5_append (l : Launch) (G : gG) (v : Nat → Nat → Int32) (w : Nat → Nat → Int64) (sg : Nat → Nat) (p1 : Int32) {A1 : Int} (a1 : p1.toInt = A1) (p2 : Int32) {A2 : Int} (a2 : p2.toInt = A2) (bc : (v 66 0).toInt ≤ 8) (ci : cI v) : Met l yX5_append wsX5_append ({ frames := 2, cells := 0, slots := 0, locals := 45 }) (gPre G v w sg [.ref (G.2.2 (66)), .int (p1), .int (p2)]) (gQi G (fun r v' w' sg' => (cI v' ∧ fC 66 83 v w v' w ∧ r = v 66 0 ∧ fP4 (gu (gu (gu (gu (gu v 80 (v 66 0).toInt.toNat p1) 81 (v 66 0).toInt.toNat p2) 67 (v 66 0).toInt.toNat (vp_nar .boolean 0)) 66 0 (v 66 0 + 1)) 66 3 0) v' ∧ mxF (gu (gu (gu (gu (gu v 80 (v 66 0).toInt.toNat p1) 81 (v 66 0).toInt.toNat p2) 67 (v 66 0).toInt.toNat (vp_nar .boolean 0)) 66 0 (v 66 0 + 1)) 66 3 0) v' (v 66 0).toInt.toNat ∧ v' 82 = v 82) ∧ w = w' ∧ sg = sg')) 0 0 (gA G) := by
  refine gM_ofi (cc := cX5_append) (maxL := 5) (by decide) rfl (Nat.le_of_ble_eq_true rfl) ?_
  intro p e R s m args below meth c Q ls C hR ret h hl
  have hx := C.1.1
  have hb := C.1.2.1
  have hown := C.1.2.2.2.1
  have hts := C.1.2.2.2.2
  have hl : lv_has ls 5 [(0, .ref (G.2.2 (66))), (1, .int (p1)), (2, .int (p2))] := hl
  have q1 := i_rng p1; rw [a1] at q1
  have q2 := i_rng p2; rw [a2] at q2
  have z_0 : (0 : Int32).toInt = 0 := by decide
  have z_1 : (1 : Int32).toInt = 1 := by decide
  have z_9 : (9 : Int32).toInt = 9 := by decide
  have f11 : Cond.fieldLink RX5 11 "WindHall$Program" "count" "I" ∈ wsX5_append := by decide +kernel
  have hi5 : ∀ x ∈ u_ws RX5 TX5 10, x ∈ wsX5_append := fun x q => List.mem_cons_of_mem _ (List.mem_append_right _ q)
  have f38 : Cond.fieldLink RX5 38 "WindHall$Program" "angle" "[I" ∈ wsX5_append := by decide +kernel
  have f41 : Cond.fieldLink RX5 41 "WindHall$Program" "speed" "[I" ∈ wsX5_append := by decide +kernel
  have f15 : Cond.fieldLink RX5 15 "WindHall$Program" "isDone" "[Z" ∈ wsX5_append := by decide +kernel
  have f24 : Cond.fieldLink RX5 24 "WindHall$Program" "isPlanned" "Z" ∈ wsX5_append := by decide +kernel
  have o_1 := ci
  obtain ⟨K1, K2, K3, K4, K5, K6, K7, Ks, K9, Ka, Kr, Kz⟩ := o_1
  refine lv_aload_n hx hb dX5_append_0 rfl (lv_at hl 0 rfl) ?_
  refine g_geti (ci := 5) (x := v 66 0) C h 66 (by decide) rfl rfl hi5 0 (by decide) f11 rfl rfl rfl dX5_append_1 ?_
  refine lv_istore_n (lv' := [(3, .int (v 66 0)), (0, .ref (G.2.2 (66))), (1, .int (p1)), (2, .int (p2))]) hx hb dX5_append_4 rfl hl (by decide) rfl (fun ls hl => ?_)
  refine lv_aload_n hx hb dX5_append_5 rfl (lv_at hl 1 rfl) ?_
  refine g_get (ci := 5) (x := .ref (G.2.2 (80))) C h 66 (by decide) rfl rfl hi5 7 (by decide) f38 rfl rfl dX5_append_6 ?_
  refine lv_iload_n hx hb dX5_append_9 rfl (lv_at hl 0 rfl) ?_
  refine lv_iload_n hx hb dX5_append_10 rfl (lv_at hl 2 rfl) ?_
  refine g_iast C h 80 (by decide) (by decide) (n := 10) (by decide) (vp_of rfl (by omega) (by omega)) dX5_append_11 (fun H locs h => ?_)
  obtain ⟨v_2, hv_2⟩ : ∃ z, z = gu v 80 ((v 66 0 : Int32).toNatClampNeg) p1 := ⟨_, rfl⟩
  have h : gS (gA G) G s v_2 w sg H locs := by rw [hv_2]; exact h
  have u_3 : cI v_2 := by rw [hv_2]; exact (cI_o ci (by decide))
  have u_4 : fC 66 83 v w v_2 w := by rw [hv_2]; exact (fC_v fC_rf (by decide))
  refine lv_aload_n hx hb dX5_append_12 rfl (lv_at hl 1 rfl) ?_
  refine g_get (ci := 5) (x := .ref (G.2.2 (81))) C h 66 (by decide) rfl rfl hi5 8 (by decide) f41 rfl rfl dX5_append_13 ?_
  refine lv_iload_n hx hb dX5_append_16 rfl (lv_at hl 0 rfl) ?_
  refine lv_iload_n hx hb dX5_append_17 rfl (lv_at hl 3 rfl) ?_
  refine g_iast C h 81 (by decide) (by decide) (n := 10) (by decide) (vp_of rfl (by omega) (by omega)) dX5_append_18 (fun H locs h => ?_)
  obtain ⟨v_5, hv_5⟩ : ∃ z, z = gu v_2 81 ((v 66 0 : Int32).toNatClampNeg) p2 := ⟨_, rfl⟩
  have h : gS (gA G) G s v_5 w sg H locs := by rw [hv_5]; exact h
  have u_6 : cI v_5 := by rw [hv_5]; exact (cI_o u_3 (by decide))
  have u_7 : fC 66 83 v w v_5 w := by rw [hv_5]; exact (fC_v u_4 (by decide))
  refine lv_aload_n hx hb dX5_append_19 rfl (lv_at hl 1 rfl) ?_
  refine g_get (ci := 5) (x := .ref (G.2.2 (67))) C h 66 (by decide) rfl rfl hi5 1 (by decide) f15 rfl rfl dX5_append_20 ?_
  refine lv_iload_n hx hb dX5_append_23 rfl (lv_at hl 0 rfl) ?_
  refine lv_iconst (v := 0) hx hb dX5_append_24 (by decide) ?_
  refine g_zast C h 67 (by decide) (by decide) (n := 9) (by decide) (vp_of rfl (by omega) (by omega)) dX5_append_25 (fun H locs h => ?_)
  obtain ⟨v_8, hv_8⟩ : ∃ z, z = gu v_5 67 ((v 66 0 : Int32).toNatClampNeg) (vp_nar .boolean 0) := ⟨_, rfl⟩
  have h : gS (gA G) G s v_8 w sg H locs := by rw [hv_8]; exact h
  have u_9 : cI v_8 := by rw [hv_8]; exact (cI_o u_6 (by decide))
  have u_10 : fC 66 83 v w v_8 w := by rw [hv_8]; exact (fC_v u_7 (by decide))
  refine lv_aload_n hx hb dX5_append_26 rfl (lv_at hl 1 rfl) ?_
  refine lv_dup hx hb dX5_append_27 rfl ?_
  refine g_geti (ci := 5) (x := v 66 0) C h 66 (by decide) rfl rfl hi5 0 (by decide) f11 rfl rfl (by rw [hv_8, hv_5, hv_2] <;> rfl) dX5_append_28 ?_
  refine lv_iconst (v := 1) hx hb dX5_append_31 (by decide) ?_
  refine lv_iadd hx hb dX5_append_32 ?_
  refine lv_topi (fun x_11 e_12 => ?_)
  have i_13 : x_11.toInt = (v 66 0).toInt + 1 := ia_add e_12 rfl (by decide) (by omega) (by omega)
  refine g_put (ci := 5) (x := x_11) (ty := .int) C h 66 (by decide) rfl rfl hi5 tyX5 tyX5_ok nmX5 0 (by decide) f11 rfl rfl (by decide +kernel) rfl rfl (Nat.le_of_ble_eq_true rfl) rfl dX5_append_33 (fun H locs h => ?_)
  obtain ⟨v_14, hv_14⟩ : ∃ z, z = gu v_8 66 0 x_11 := ⟨_, rfl⟩
  have h : gS (gA G) G s v_14 w sg H locs := by rw [hv_14]; exact h
  have u_15 : cI v_14 := by rw [hv_14]; exact (cI_66_0 u_9 (by omega))
  have u_16 : fC 66 83 v w v_14 w := by rw [hv_14]; exact (fC_v u_10 (by decide))
  refine lv_iconst (v := 0) hx hb dX5_append_36 (by decide) ?_
  have J39_18 : ∀ (n : Nat) (y_17 : Int32) (v_18 : Nat → Nat → Int32) (H : Heap) (locs : List Loc) (ls : Array Slot), ((v 66 0).toInt - (y_17).toInt).toNat < n → (cI v_18) → (fC 66 83 v w v_18 w) → (0 ≤ (y_17).toInt ∧ (y_17).toInt ≤ (v 66 0).toInt) → (fP4 v_14 v_18) → (mxI v_14 v_18 (v 66 0).toInt.toNat (y_17).toInt) → (v_18 82 = v_14 82) → gS (gA G) G s v_18 w sg H locs → lv_has ls 5 [(0, .ref (G.2.2 (66))), (1, .int (p1)), (2, .int (p2)), (3, .int (v 66 0)), (4, .int (y_17))] → W p l e R s m args below meth c H locs 0 0 Q (F0 m 39 ls []) := by
    intro n
    induction n with
    | zero => intro y_17 v_18 H locs ls hm; exact absurd hm (Nat.not_lt_zero _)
    | succ n ih39 =>
      intro y_17 v_18 H locs ls hm u_19 u_20 f_21 f_22 f_23 f_24 h hl
      have o_25 := u_19
      obtain ⟨K1, K2, K3, K4, K5, K6, K7, Ks, K9, Ka, Kr, Kz⟩ := o_25
      refine lv_iload hx hb dX5_append_39 (lv_at hl 4 rfl) ?_
      refine lv_iload_n hx hb dX5_append_41 rfl (lv_at hl 3 rfl) ?_
      refine lv_icmp_ge (tgt := 58) hx hb dX5_append_42 (by decide) (fun c_26 => ?_) (fun c_26 => ?_)
      · have j_27 : (v 66 0).toInt ≤ (y_17).toInt := (i_le rfl rfl).mp c_26
        refine lv_aload_n hx hb dX5_append_58 rfl (lv_at hl 0 rfl) ?_
        refine lv_iload_n hx hb dX5_append_59 rfl (lv_at hl 3 rfl) ?_
        refine lv_bipush (v := 9) hx hb dX5_append_60 (by decide) ?_
        refine g_callv C (va_runV (As := [.int (v 66 0), .int (9)]) (rest := []) C.1 (c_X5_setMove l G v_18 w sg (v 66 0) (A1 := (v 66 0).toInt) rfl (9) (A2 := 9) (by decide) (by omega) (by omega) u_19) (cwV 2 hts gX5_append_X5_setMove rfl rfl rfl (by decide +kernel) ⟨by rw [hR]; exact Nat.le_of_ble_eq_true rfl, by rw [hR]; exact Nat.le_of_ble_eq_true rfl⟩) ⟨gPre_blind, g_recv C h 66 (by decide) (ci := 5) rfl rfl, gS_pre C h _⟩ rfl rfl hl.1 rfl (lv_room (Nat.le_of_ble_eq_true rfl)) dX5_append_62 ⟨Nat.zero_le _, Nat.zero_le _⟩) h (fun v_30 w_31 g_32 H locs p_29 h => ?_)
        obtain ⟨p_29, rfl, rfl⟩ := p_29
        have u_33 : cI v_30 := p_29.1
        have u_34 : fC 66 83 v w v_30 w := fC_tr u_20 (fC_le p_29.2.1 (by decide))
        have o_35 := u_33
        obtain ⟨K1, K2, K3, K4, K5, K6, K7, Ks, K9, Ka, Kr, Kz⟩ := o_35
        have hfr2 := p_29.2.1
        have hmv2 := p_29.2.2
        refine lv_aload_n hx hb dX5_append_65 rfl (lv_at hl 0 rfl) ?_
        refine lv_iconst (v := 0) hx hb dX5_append_66 (by decide) ?_
        refine g_put (ci := 5) (x := 0) (ty := .boolean) C h 66 (by decide) rfl rfl hi5 tyX5 tyX5_ok nmX5 3 (by decide) f24 rfl rfl (by decide +kernel) rfl rfl (Nat.le_of_ble_eq_true rfl) rfl dX5_append_67 (fun H locs h => ?_)
        obtain ⟨v_36, hv_36⟩ : ∃ z, z = gu v_30 66 3 0 := ⟨_, rfl⟩
        have h : gS (gA G) G s v_36 w sg H locs := by rw [hv_36]; exact h
        have u_37 : cI v_36 := by rw [hv_36]; exact (cI_66 u_33 (by decide))
        have u_38 : fC 66 83 v w v_36 w := by rw [hv_36]; exact (fC_v u_34 (by decide))
        refine lv_iload_n hx hb dX5_append_70 rfl (lv_at hl 3 rfl) ?_
        exact ret (v 66 0) v_36 w sg _ _ _ _ dX5_append_71 h ⟨⟨u_37, u_38, ⟨rfl, (by have hq := f_22.tr hfr2; rw [hv_14, hv_8, hv_5, hv_2, e_12] at hq; rw [hv_36]; exact hq.st), (by have hq := mxF_of f_23 f_22 hmv2 (by omega) (by omega); rw [hv_14, hv_8, hv_5, hv_2, e_12] at hq; rw [hv_36]; exact hq.st), (by rw [hv_36, gu_o (by decide), hfr2.1 82 (by decide), f_24, hv_14, hv_8, hv_5, hv_2]; rfl)⟩⟩, rfl, rfl⟩
      · have j_27 : ¬ ((v 66 0).toInt ≤ (y_17).toInt) := fun q => c_26 ((i_le rfl rfl).mpr q)
        refine lv_aload_n hx hb dX5_append_45 rfl (lv_at hl 0 rfl) ?_
        refine lv_iload_n hx hb dX5_append_46 rfl (lv_at hl 3 rfl) ?_
        refine lv_iload hx hb dX5_append_47 (lv_at hl 4 rfl) ?_
        refine g_callv C (va_runV (As := [.int (v 66 0), .int (y_17)]) (rest := []) C.1 (c_X5_setMove l G v_18 w sg (v 66 0) (A1 := (v 66 0).toInt) rfl y_17 (A2 := (y_17).toInt) rfl (by omega) (by omega) u_19) (cwV 2 hts gX5_append_X5_setMove rfl rfl rfl (by decide +kernel) ⟨by rw [hR]; exact Nat.le_of_ble_eq_true rfl, by rw [hR]; exact Nat.le_of_ble_eq_true rfl⟩) ⟨gPre_blind, g_recv C h 66 (by decide) (ci := 5) rfl rfl, gS_pre C h _⟩ rfl rfl hl.1 rfl (lv_room (Nat.le_of_ble_eq_true rfl)) dX5_append_49 ⟨Nat.zero_le _, Nat.zero_le _⟩) h (fun v_41 w_42 g_43 H locs p_40 h => ?_)
        obtain ⟨p_40, rfl, rfl⟩ := p_40
        have u_44 : cI v_41 := p_40.1
        have u_45 : fC 66 83 v w v_41 w := fC_tr u_20 (fC_le p_40.2.1 (by decide))
        have o_46 := u_44
        obtain ⟨K1, K2, K3, K4, K5, K6, K7, Ks, K9, Ka, Kr, Kz⟩ := o_46
        have hfr := p_40.2.1
        have hmv1 := p_40.2.2
        obtain ⟨x_47, e_48⟩ : ∃ y : Int32, y = y_17 + 1 := ⟨_, rfl⟩
        have i_49 : x_47.toInt = (y_17).toInt + 1 := ia_add e_48 rfl (by decide) (by omega) (by omega)
        refine lv_iinc (v := x_47) (lv' := [(4, .int (x_47)), (0, .ref (G.2.2 (66))), (1, .int (p1)), (2, .int (p2)), (3, .int (v 66 0))]) hx hb dX5_append_52 hl (k := 4) rfl (by rw [e_48]; rfl) (by decide) rfl (fun ls hl => ?_)
        refine lv_goto (tgt := 39) hx hb dX5_append_55 (by decide) ?_
        exact ih39 x_47 v_41 _ _ _ (by omega) u_44 u_45 (by omega) (f_22.tr hfr) (mxI_st f_23 f_22 hmv1 (by omega) (by omega) (by omega)) ((hfr.1 82 (by decide)).trans f_24) h (lv_sub hl [1, 2, 3, 4, 0] rfl)
  refine lv_istore (lv' := [(4, .int (0)), (3, .int (v 66 0)), (0, .ref (G.2.2 (66))), (1, .int (p1)), (2, .int (p2))]) hx hb dX5_append_37 hl (by decide) rfl (fun ls hl => ?_)
  exact J39_18 _ 0 v_14 _ _ _ (Nat.lt_succ_self _) u_15 u_16 (by omega) fP4_rf mxI_0 rfl h (lv_sub hl [2, 3, 4, 1, 0] rfl)

set_option maxHeartbeats 4000000 in
set_option maxRecDepth 100000 in
theorem c_X5_cell (l : Launch) (G : gG) (v : Nat → Nat → Int32) (w : Nat → Nat → Int64) (sg : Nat → Nat) (p0 : Int32) {A0 : Int} (a0 : p0.toInt = A0) (p1 : Int32) {A1 : Int} (a1 : p1.toInt = A1) (b0 : 0 ≤ A0 ∧ A0 ≤ 511) (b1 : 0 ≤ A1 ∧ A1 ≤ 9) : Met l yX5_cell wsX5_cell ({ frames := 0, cells := 0, slots := 0, locals := 0 }) (gPre G v w sg [.int (p0), .int (p1)]) (gQi G (fun r v' w' sg' => (r.toInt = A0 * 10 + A1) ∧ v = v' ∧ w = w' ∧ sg = sg')) 0 0 (gA G) := by
  refine gM_ofi (cc := cX5_cell) (maxL := 2) (by decide) rfl (Nat.le_of_ble_eq_true rfl) ?_
  intro p e R s m args below meth c Q ls C hR ret h hl
  have hx := C.1.1
  have hb := C.1.2.1
  have hown := C.1.2.2.2.1
  have hts := C.1.2.2.2.2
  have hl : lv_has ls 2 [(0, .int (p0)), (1, .int (p1))] := hl
  have q0 := i_rng p0; rw [a0] at q0
  have q1 := i_rng p1; rw [a1] at q1
  have z_0 : (0 : Int32).toInt = 0 := by decide
  have z_1 : (1 : Int32).toInt = 1 := by decide
  have z_10 : (10 : Int32).toInt = 10 := by decide
  refine lv_iload_n hx hb dX5_cell_0 rfl (lv_at hl 0 rfl) ?_
  refine lv_bipush (v := 10) hx hb dX5_cell_1 (by decide) ?_
  refine lv_imul hx hb dX5_cell_3 ?_
  refine lv_topi (fun x_1 e_2 => ?_)
  have i_3 : x_1.toInt = A0 * 10 := ia_mul e_2 a0 (by decide) (by omega) (by omega)
  refine lv_iload_n hx hb dX5_cell_4 rfl (lv_at hl 1 rfl) ?_
  refine lv_iadd hx hb dX5_cell_5 ?_
  refine lv_topi (fun x_4 e_5 => ?_)
  have i_6 : x_4.toInt = (A0 * 10) + A1 := ia_add e_5 i_3 a1 (by omega) (by omega)
  exact ret x_4 v w sg _ _ _ _ dX5_cell_6 h ⟨i_6, rfl, rfl, rfl⟩

set_option maxHeartbeats 4000000 in
set_option maxRecDepth 100000 in
theorem c_X5_isIn (l : Launch) (G : gG) (v : Nat → Nat → Int32) (w : Nat → Nat → Int64) (sg : Nat → Nat) (p0 : Int32) {A0 : Int} (a0 : p0.toInt = A0) (p1 : Int32) {A1 : Int} (a1 : p1.toInt = A1) (b0 : 0 ≤ A0 ∧ A0 ≤ 511) (b1 : 0 ≤ A1 ∧ A1 ≤ 8) : Met l yX5_isIn wsX5_isIn ({ frames := 0, cells := 0, slots := 0, locals := 0 }) (gPre G v w sg [.int (p0), .int (p1)]) (gQi G (fun r v' w' sg' => ((r = 1 ∧ A0.toNat.testBit A1.toNat = true) ∨ (r = 0 ∧ A0.toNat.testBit A1.toNat = false)) ∧ v = v' ∧ w = w' ∧ sg = sg')) 0 0 (gA G) := by
  refine gM_ofz (cc := cX5_isIn) (maxL := 2) (by decide) rfl (Nat.le_of_ble_eq_true rfl) ?_
  intro p e R s m args below meth c Q ls C hR ret h hl
  have hx := C.1.1
  have hb := C.1.2.1
  have hown := C.1.2.2.2.1
  have hts := C.1.2.2.2.2
  have hl : lv_has ls 2 [(0, .int (p0)), (1, .int (p1))] := hl
  have q0 := i_rng p0; rw [a0] at q0
  have q1 := i_rng p1; rw [a1] at q1
  have z_0 : (0 : Int32).toInt = 0 := by decide
  have z_1 : (1 : Int32).toInt = 1 := by decide
  refine lv_iload_n hx hb dX5_isIn_0 rfl (lv_at hl 0 rfl) ?_
  refine lv_iconst (v := 1) hx hb dX5_isIn_1 (by decide) ?_
  refine lv_iload_n hx hb dX5_isIn_2 rfl (lv_at hl 1 rfl) ?_
  refine lv_ishl hx hb dX5_isIn_3 ?_
  refine lv_topi (fun x_1 e_2 => ?_)
  refine lv_iand hx hb dX5_isIn_4 ?_
  refine lv_topi (fun x_3 e_4 => ?_)
  have hin := in_of e_2 e_4 a0 a1 (by omega) (by omega)
  refine lv_if_eq (tgt := 12) hx hb dX5_isIn_5 (by decide) (fun c_5 => ?_) (fun c_5 => ?_)
  · have j_6 : (x_3).toInt = 0 := (i_eq rfl (by decide)).mp c_5
    refine lv_iconst (v := 0) hx hb dX5_isIn_12 (by decide) ?_
    exact ret 0 v w sg _ _ _ _ rfl dX5_isIn_13 h ⟨Or.inr ⟨rfl, hin.elim (fun q => absurd (by omega) q.1) (fun q => q.2)⟩, rfl, rfl, rfl⟩
  · have j_6 : ¬ ((x_3).toInt = 0) := fun q => c_5 ((i_eq rfl (by decide)).mpr q)
    refine lv_iconst (v := 1) hx hb dX5_isIn_8 (by decide) ?_
    refine lv_goto (tgt := 13) hx hb dX5_isIn_9 (by decide) ?_
    exact ret 1 v w sg _ _ _ _ rfl dX5_isIn_13 h ⟨Or.inl ⟨rfl, hin.elim (fun q => q.2) (fun q => absurd q.1 (by omega))⟩, rfl, rfl, rfl⟩

set_option maxHeartbeats 4000000 in
set_option maxRecDepth 100000 in
theorem c_X5_sumBy (l : Launch) (G : gG) (v : Nat → Nat → Int32) (w : Nat → Nat → Int64) (sg : Nat → Nat) (p1 : Int32) {A1 : Int} (a1 : p1.toInt = A1) (p2 : Int32) {A2 : Int} (a2 : p2.toInt = A2) (p3 : Int32) {A3 : Int} (a3 : p3.toInt = A3) (b1 : 0 ≤ A1 ∧ A1 ≤ 9) (b2 : 0 ≤ A2 ∧ A2 ≤ 8) (b3 : 0 ≤ A3 ∧ A3 ≤ 511) (hbI : A3.toNat.testBit A2.toNat = true) (ci : cI v) : Met l yX5_sumBy wsX5_sumBy ({ frames := 1, cells := 0, slots := 0, locals := 21 }) (gPre G v w sg [.ref (G.2.2 (66)), .int (p1), .int (p2), .int (p3)]) (gQi G (fun r v' w' sg' => (r = v (69 + A1.toNat) A2.toNat + v 82 (10 * (A3.toNat - 2 ^ A2.toNat) + A2.toNat)) ∧ v = v' ∧ w = w' ∧ sg = sg')) 0 0 (gA G) := by
  refine gM_ofi (cc := cX5_sumBy) (maxL := 4) (by decide) rfl (Nat.le_of_ble_eq_true rfl) ?_
  intro p e R s m args below meth c Q ls C hR ret h hl
  have hx := C.1.1
  have hb := C.1.2.1
  have hown := C.1.2.2.2.1
  have hts := C.1.2.2.2.2
  have hl : lv_has ls 4 [(0, .ref (G.2.2 (66))), (1, .int (p1)), (2, .int (p2)), (3, .int (p3))] := hl
  have q1 := i_rng p1; rw [a1] at q1
  have q2 := i_rng p2; rw [a2] at q2
  have q3 := i_rng p3; rw [a3] at q3
  have z_m1 : ((-1) : Int32).toInt = (-1) := by decide
  have z_0 : (0 : Int32).toInt = 0 := by decide
  have z_1 : (1 : Int32).toInt = 1 := by decide
  have f21 : Cond.fieldLink RX5 21 "WindHall$Program" "move" "[[I" ∈ wsX5_sumBy := by decide +kernel
  have hi5 : ∀ x ∈ u_ws RX5 TX5 10, x ∈ wsX5_sumBy := fun x q => List.mem_cons_of_mem _ (List.mem_append_right _ q)
  have f44 : Cond.fieldLink RX5 44 "WindHall$Program" "rest" "[I" ∈ wsX5_sumBy := by decide +kernel
  have o_1 := ci
  obtain ⟨K1, K2, K3, K4, K5, K6, K7, Ks, K9, Ka, Kr, Kz⟩ := o_1
  refine lv_aload_n hx hb dX5_sumBy_0 rfl (lv_at hl 0 rfl) ?_
  refine g_get (ci := 5) (x := .ref (G.2.2 (68))) C h 66 (by decide) rfl rfl hi5 2 (by decide) f21 rfl rfl dX5_sumBy_1 ?_
  refine lv_iload_n hx hb dX5_sumBy_4 rfl (lv_at hl 1 rfl) ?_
  refine g_aald (ty := .array .int) C h 68 (by decide) 0 (by decide) (n := 10) (by decide) rfl rfl (vp_of a1 (by omega) (by omega)) dX5_sumBy_5 ?_
  obtain ⟨q_2, q_2_e, q_2_i, q_2_l⟩ := g_row sg (b := 68) (n := 10) (i := p1) (by decide) (by decide) a1 (by omega) (by omega)
  rw [q_2_e]
  refine lv_iload_n hx hb dX5_sumBy_6 rfl (lv_at hl 2 rfl) ?_
  refine g_iald C h q_2 (by omega) (g_kd 69 10 1 rfl q_2_l) (n := 10) (g_ln 69 10 10 rfl q_2_l) (vp_of a2 (by omega) (by omega)) dX5_sumBy_7 ?_
  refine lv_topi (fun x_3 e_4 => ?_)
  have hx7 : x_3 = v (69 + A1.toNat) A2.toNat := by rw [e_4, cl_nat a2, show q_2 = 69 + A1.toNat by omega]
  refine lv_aload_n hx hb dX5_sumBy_8 rfl (lv_at hl 0 rfl) ?_
  refine g_get (ci := 5) (x := .ref (G.2.2 (82))) C h 66 (by decide) rfl rfl hi5 9 (by decide) f44 rfl rfl dX5_sumBy_9 ?_
  refine lv_iload_n hx hb dX5_sumBy_12 rfl (lv_at hl 3 rfl) ?_
  refine lv_iconst (v := 1) hx hb dX5_sumBy_13 (by decide) ?_
  refine lv_iload_n hx hb dX5_sumBy_14 rfl (lv_at hl 2 rfl) ?_
  refine lv_ishl hx hb dX5_sumBy_15 ?_
  refine lv_topi (fun x_5 e_6 => ?_)
  refine lv_iconst (v := (-1)) hx hb dX5_sumBy_16 (by decide) ?_
  refine lv_ixor hx hb dX5_sumBy_17 ?_
  refine lv_topi (fun x_7 e_8 => ?_)
  refine lv_iand hx hb dX5_sumBy_18 ?_
  refine lv_topi (fun x_9 e_10 => ?_)
  have hp0 : 0 < 2 ^ A2.toNat := Nat.two_pow_pos _
  have hrm := rm_of e_6 e_8 e_10 a3 a2 (by omega) (by omega) hbI
  refine lv_iload_n hx hb dX5_sumBy_19 rfl (lv_at hl 2 rfl) ?_
  refine g_calli C (va_runS (As := [.int (x_9), .int (p2)]) (rest := [.ref (G.2.2 (82)), .int (x_3)]) C.1 (c_X5_cell l G v w sg x_9 (A0 := ((A3.toNat - 2 ^ A2.toNat : Nat) : Int)) hrm p2 (A1 := A2) a2 (by omega) (by omega)) (va_cwS 2 hts gX5_sumBy_X5_cell rfl rfl rfl (by decide +kernel) ⟨by rw [hR]; exact Nat.le_of_ble_eq_true rfl, by rw [hR]; exact Nat.le_of_ble_eq_true rfl⟩) ⟨gPre_blind, gS_pre C h _⟩ rfl rfl hl.1 rfl (lv_room (Nat.le_of_ble_eq_true rfl)) dX5_sumBy_20 ⟨Nat.zero_le _, Nat.zero_le _⟩) h (fun r_11 v_13 w_14 g_15 H locs p_12 h => ?_)
  obtain ⟨p_12, rfl, rfl, rfl⟩ := p_12
  refine g_iald C h 82 (by decide) (by decide) (n := 5120) (by decide) (vp_of rfl (by omega) (by omega)) dX5_sumBy_23 ?_
  refine lv_topi (fun x_16 e_17 => ?_)
  have hx23 : x_16 = v 82 (10 * (A3.toNat - 2 ^ A2.toNat) + A2.toNat) := by rw [e_17, cl_nat rfl]; congr 1; omega
  refine lv_iadd hx hb dX5_sumBy_24 ?_
  refine lv_topi (fun x_18 e_19 => ?_)
  exact ret x_18 v w sg _ _ _ _ dX5_sumBy_25 h ⟨(by rw [e_19, hx7, hx23]), rfl, rfl, rfl⟩

set_option maxHeartbeats 4000000 in
set_option maxRecDepth 100000 in
theorem c_X5_firstOfLeast (l : Launch) (G : gG) (v : Nat → Nat → Int32) (w : Nat → Nat → Int64) (sg : Nat → Nat) (p1 : Int32) {A1 : Int} (a1 : p1.toInt = A1) (p2 : Int32) {A2 : Int} (a2 : p2.toInt = A2) (b1 : 0 ≤ A1 ∧ A1 ≤ 9) (b2 : 0 ≤ A2 ∧ A2 ≤ 511) (hF : flH v A1.toNat A2.toNat) (ci : cI v) : Met l yX5_firstOfLeast wsX5_firstOfLeast ({ frames := 2, cells := 0, slots := 0, locals := 44 }) (gPre G v w sg [.ref (G.2.2 (66)), .int (p1), .int (p2)]) (gQi G (fun r v' w' sg' => ((0 ≤ r.toInt ∧ r.toInt ≤ 8) ∧ (noB A2.toNat (v 66 0).toInt ∨ isF (FC v A1.toNat A2.toNat) A2.toNat (v 66 0).toInt.toNat r.toInt.toNat)) ∧ v = v' ∧ w = w' ∧ sg = sg')) 0 0 (gA G) := by
  refine gM_ofi (cc := cX5_firstOfLeast) (maxL := 7) (by decide) rfl (Nat.le_of_ble_eq_true rfl) ?_
  intro p e R s m args below meth c Q ls C hR ret h hl
  have hx := C.1.1
  have hb := C.1.2.1
  have hown := C.1.2.2.2.1
  have hts := C.1.2.2.2.2
  have hl : lv_has ls 7 [(0, .ref (G.2.2 (66))), (1, .int (p1)), (2, .int (p2))] := hl
  have q1 := i_rng p1; rw [a1] at q1
  have q2 := i_rng p2; rw [a2] at q2
  have z_0 : (0 : Int32).toInt = 0 := by decide
  have z_1 : (1 : Int32).toInt = 1 := by decide
  have z_2147483647 : (2147483647 : Int32).toInt = 2147483647 := by decide
  have k91 : (Cond.constant RX5 91 (2147483647)).before args s = true := hts _ (by decide +kernel)
  have f11 : Cond.fieldLink RX5 11 "WindHall$Program" "count" "I" ∈ wsX5_firstOfLeast := by decide +kernel
  have hi5 : ∀ x ∈ u_ws RX5 TX5 10, x ∈ wsX5_firstOfLeast := fun x q => List.mem_cons_of_mem _ (List.mem_append_right _ q)
  have o_1 := ci
  obtain ⟨K1, K2, K3, K4, K5, K6, K7, Ks, K9, Ka, Kr, Kz⟩ := o_1
  refine lv_iconst (v := 0) hx hb dX5_firstOfLeast_0 (by decide) ?_
  refine lv_istore_n (lv' := [(3, .int (0)), (0, .ref (G.2.2 (66))), (1, .int (p1)), (2, .int (p2))]) hx hb dX5_firstOfLeast_1 rfl hl (by decide) rfl (fun ls hl => ?_)
  refine lv_ldc hx hb hown k91 dX5_firstOfLeast_2 ?_
  refine lv_istore (lv' := [(4, .int (2147483647)), (3, .int (0)), (0, .ref (G.2.2 (66))), (1, .int (p1)), (2, .int (p2))]) hx hb dX5_firstOfLeast_4 hl (by decide) rfl (fun ls hl => ?_)
  refine lv_iconst (v := 0) hx hb dX5_firstOfLeast_6 (by decide) ?_
  have J9_4 : ∀ (n : Nat) (y_2 : Int32) (y_3 : Int32) (y_4 : Int32) (H : Heap) (locs : List Loc) (ls : Array Slot), ((v 66 0).toInt - (y_4).toInt).toNat < n → (0 ≤ (y_4).toInt ∧ (y_4).toInt ≤ (v 66 0).toInt) → (0 ≤ (y_2).toInt ∧ (y_2).toInt ≤ 8) → (flI v A1.toNat A2.toNat (y_4).toInt (y_2).toInt (y_3).toInt) → gS (gA G) G s v w sg H locs → lv_has ls 7 [(0, .ref (G.2.2 (66))), (1, .int (p1)), (2, .int (p2)), (3, .int (y_2)), (4, .int (y_3)), (5, .int (y_4))] → W p l e R s m args below meth c H locs 0 0 Q (F0 m 9 ls []) := by
    intro n
    induction n with
    | zero => intro y_2 y_3 y_4 H locs ls hm; exact absurd hm (Nat.not_lt_zero _)
    | succ n ih9 =>
      intro y_2 y_3 y_4 H locs ls hm f_5 f_6 f_7 h hl
      refine lv_iload hx hb dX5_firstOfLeast_9 (lv_at hl 5 rfl) ?_
      refine lv_aload_n hx hb dX5_firstOfLeast_11 rfl (lv_at hl 0 rfl) ?_
      refine g_geti (ci := 5) (x := v 66 0) C h 66 (by decide) rfl rfl hi5 0 (by decide) f11 rfl rfl rfl dX5_firstOfLeast_12 ?_
      refine lv_icmp_ge (tgt := 62) hx hb dX5_firstOfLeast_15 (by decide) (fun c_8 => ?_) (fun c_8 => ?_)
      · have j_9 : (v 66 0).toInt ≤ (y_4).toInt := (i_le rfl rfl).mp c_8
        refine lv_iload_n hx hb dX5_firstOfLeast_62 rfl (lv_at hl 3 rfl) ?_
        exact ret y_2 v w sg _ _ _ _ dX5_firstOfLeast_63 h ⟨⟨f_6, fl_end f_7 (by omega)⟩, rfl, rfl, rfl⟩
      · have j_9 : ¬ ((v 66 0).toInt ≤ (y_4).toInt) := fun q => c_8 ((i_le rfl rfl).mpr q)
        refine lv_iload_n hx hb dX5_firstOfLeast_18 rfl (lv_at hl 2 rfl) ?_
        refine lv_iload hx hb dX5_firstOfLeast_19 (lv_at hl 5 rfl) ?_
        refine g_calli C (va_runS (As := [.int (p2), .int (y_4)]) (rest := []) C.1 (c_X5_isIn l G v w sg p2 (A0 := A2) a2 y_4 (A1 := (y_4).toInt) rfl (by omega) (by omega)) (va_cwS 2 hts gX5_firstOfLeast_X5_isIn rfl rfl rfl (by decide +kernel) ⟨by rw [hR]; exact Nat.le_of_ble_eq_true rfl, by rw [hR]; exact Nat.le_of_ble_eq_true rfl⟩) ⟨gPre_blind, gS_pre C h _⟩ rfl rfl hl.1 rfl (lv_room (Nat.le_of_ble_eq_true rfl)) dX5_firstOfLeast_21 ⟨Nat.zero_le _, Nat.zero_le _⟩) h (fun r_10 v_12 w_13 g_14 H locs p_11 h => ?_)
        obtain ⟨p_11, rfl, rfl, rfl⟩ := p_11
        rcases p_11 with ⟨rfl, t_15⟩ | ⟨rfl, t_15⟩
        · skip
          have hbt := t_15
          have J40_16 : ∀ (y_16 : Int32) (H : Heap) (locs : List Loc) (ls : Array Slot), (flS v A1.toNat A2.toNat (y_4 : Int32).toInt (y_16).toInt) → gS (gA G) G s v w sg H locs → lv_has ls 7 [(0, .ref (G.2.2 (66))), (1, .int (p1)), (2, .int (p2)), (3, .int (y_2)), (4, .int (y_3)), (5, .int (y_4))] → W p l e R s m args below meth c H locs 0 0 Q (F0 m 40 ls [.int (y_16)]) := by
            intro y_16 H locs ls f_17 h hl
            refine lv_istore (lv' := [(6, .int (y_16)), (0, .ref (G.2.2 (66))), (1, .int (p1)), (2, .int (p2)), (3, .int (y_2)), (4, .int (y_3)), (5, .int (y_4))]) hx hb dX5_firstOfLeast_40 hl (by decide) rfl (fun ls hl => ?_)
            refine lv_iload hx hb dX5_firstOfLeast_42 (lv_at hl 0 rfl) ?_
            refine lv_iload hx hb dX5_firstOfLeast_44 (lv_at hl 5 rfl) ?_
            have J56_19 : ∀ (y_18 : Int32) (y_19 : Int32) (H : Heap) (locs : List Loc) (ls : Array Slot), (0 ≤ (y_18).toInt ∧ (y_18).toInt ≤ 8) → (flI v A1.toNat A2.toNat ((y_4 : Int32).toInt + 1) (y_18).toInt (y_19).toInt) → gS (gA G) G s v w sg H locs → lv_has ls 7 [(0, .ref (G.2.2 (66))), (1, .int (p1)), (2, .int (p2)), (3, .int (y_18)), (4, .int (y_19)), (5, .int (y_4)), (6, .int (y_16))] → W p l e R s m args below meth c H locs 0 0 Q (F0 m 56 ls []) := by
              intro y_18 y_19 H locs ls f_20 f_21 h hl
              obtain ⟨x_22, e_23⟩ : ∃ y : Int32, y = y_4 + 1 := ⟨_, rfl⟩
              have i_24 : x_22.toInt = (y_4).toInt + 1 := ia_add e_23 rfl (by decide) (by omega) (by omega)
              refine lv_iinc (v := x_22) (lv' := [(5, .int (x_22)), (0, .ref (G.2.2 (66))), (1, .int (p1)), (2, .int (p2)), (3, .int (y_18)), (4, .int (y_19)), (6, .int (y_16))]) hx hb dX5_firstOfLeast_56 hl (k := 5) rfl (by rw [e_23]; rfl) (by decide) rfl (fun ls hl => ?_)
              refine lv_goto (tgt := 9) hx hb dX5_firstOfLeast_59 (by decide) ?_
              exact ih9 y_18 y_19 x_22 _ _ _ (by omega) (by omega) (by omega) (by rw [show (x_22 : Int32).toInt = (y_4 : Int32).toInt + 1 by omega]; exact f_21) h (lv_sub hl [1, 2, 3, 4, 5, 0] rfl)
            refine lv_icmp_ge (tgt := 56) hx hb dX5_firstOfLeast_46 (by decide) (fun c_25 => ?_) (fun c_25 => ?_)
            · have j_26 : (y_3).toInt ≤ (y_16).toInt := (i_le rfl rfl).mp c_25
              exact J56_19 y_2 y_3 _ _ _ (by omega) (by first | exact f_7.keep f_17 hF (by omega) rfl (by omega) | exact f_7.new f_17 hF (by omega) rfl (by omega)) h (lv_sub hl [1, 2, 3, 4, 5, 6, 0] rfl)
            · have j_26 : ¬ ((y_3).toInt ≤ (y_16).toInt) := fun q => c_25 ((i_le rfl rfl).mpr q)
              refine lv_iload hx hb dX5_firstOfLeast_49 (lv_at hl 6 rfl) ?_
              refine lv_istore_n (lv' := [(3, .int (y_4)), (6, .int (y_16)), (0, .ref (G.2.2 (66))), (1, .int (p1)), (2, .int (p2)), (4, .int (y_3)), (5, .int (y_4))]) hx hb dX5_firstOfLeast_51 rfl hl (by decide) rfl (fun ls hl => ?_)
              refine lv_iload hx hb dX5_firstOfLeast_52 (lv_at hl 1 rfl) ?_
              refine lv_istore (lv' := [(4, .int (y_16)), (3, .int (y_4)), (6, .int (y_16)), (0, .ref (G.2.2 (66))), (1, .int (p1)), (2, .int (p2)), (5, .int (y_4))]) hx hb dX5_firstOfLeast_54 hl (by decide) rfl (fun ls hl => ?_)
              exact J56_19 y_4 y_16 _ _ _ (by omega) (by first | exact f_7.keep f_17 hF (by omega) rfl (by omega) | exact f_7.new f_17 hF (by omega) rfl (by omega)) h (lv_sub hl [3, 4, 5, 1, 0, 6, 2] rfl)
          refine lv_if_eq (tgt := 38) hx hb dX5_firstOfLeast_24 (by decide) (fun c_27 => absurd c_27 (by decide)) (fun _ => ?_)
          refine lv_aload_n hx hb dX5_firstOfLeast_27 rfl (lv_at hl 0 rfl) ?_
          refine lv_iload_n hx hb dX5_firstOfLeast_28 rfl (lv_at hl 1 rfl) ?_
          refine lv_iload hx hb dX5_firstOfLeast_29 (lv_at hl 5 rfl) ?_
          refine lv_iload_n hx hb dX5_firstOfLeast_31 rfl (lv_at hl 2 rfl) ?_
          refine g_calli C (va_runV (As := [.int (p1), .int (y_4), .int (p2)]) (rest := []) C.1 (c_X5_sumBy l G v w sg p1 (A1 := A1) a1 y_4 (A2 := (y_4).toInt) rfl p2 (A3 := A2) a2 (by omega) (by omega) (by omega) hbt ci) (cwV 3 hts gX5_firstOfLeast_X5_sumBy rfl rfl rfl (by decide +kernel) ⟨by rw [hR]; exact Nat.le_of_ble_eq_true rfl, by rw [hR]; exact Nat.le_of_ble_eq_true rfl⟩) ⟨gPre_blind, g_recv C h 66 (by decide) (ci := 5) rfl rfl, gS_pre C h _⟩ rfl rfl hl.1 rfl (lv_room (Nat.le_of_ble_eq_true rfl)) dX5_firstOfLeast_32 ⟨Nat.zero_le _, Nat.zero_le _⟩) h (fun r_28 v_30 w_31 g_32 H locs p_29 h => ?_)
          obtain ⟨p_29, rfl, rfl, rfl⟩ := p_29
          have hsm := fc_of hF p_29 (by omega) hbt
          refine lv_goto (tgt := 40) hx hb dX5_firstOfLeast_35 (by decide) ?_
          exact J40_16 r_28 _ _ _ (by first | exact Or.inl ⟨hbt, hsm⟩ | exact Or.inr ⟨hbt, by decide⟩) h (lv_sub hl [0, 1, 2, 3, 4, 5] rfl)
        · skip
          have hbt := t_15
          have J40_33 : ∀ (y_33 : Int32) (H : Heap) (locs : List Loc) (ls : Array Slot), (flS v A1.toNat A2.toNat (y_4 : Int32).toInt (y_33).toInt) → gS (gA G) G s v w sg H locs → lv_has ls 7 [(0, .ref (G.2.2 (66))), (1, .int (p1)), (2, .int (p2)), (3, .int (y_2)), (4, .int (y_3)), (5, .int (y_4))] → W p l e R s m args below meth c H locs 0 0 Q (F0 m 40 ls [.int (y_33)]) := by
            intro y_33 H locs ls f_34 h hl
            refine lv_istore (lv' := [(6, .int (y_33)), (0, .ref (G.2.2 (66))), (1, .int (p1)), (2, .int (p2)), (3, .int (y_2)), (4, .int (y_3)), (5, .int (y_4))]) hx hb dX5_firstOfLeast_40 hl (by decide) rfl (fun ls hl => ?_)
            refine lv_iload hx hb dX5_firstOfLeast_42 (lv_at hl 0 rfl) ?_
            refine lv_iload hx hb dX5_firstOfLeast_44 (lv_at hl 5 rfl) ?_
            have J56_36 : ∀ (y_35 : Int32) (y_36 : Int32) (H : Heap) (locs : List Loc) (ls : Array Slot), (0 ≤ (y_35).toInt ∧ (y_35).toInt ≤ 8) → (flI v A1.toNat A2.toNat ((y_4 : Int32).toInt + 1) (y_35).toInt (y_36).toInt) → gS (gA G) G s v w sg H locs → lv_has ls 7 [(0, .ref (G.2.2 (66))), (1, .int (p1)), (2, .int (p2)), (3, .int (y_35)), (4, .int (y_36)), (5, .int (y_4)), (6, .int (y_33))] → W p l e R s m args below meth c H locs 0 0 Q (F0 m 56 ls []) := by
              intro y_35 y_36 H locs ls f_37 f_38 h hl
              obtain ⟨x_39, e_40⟩ : ∃ y : Int32, y = y_4 + 1 := ⟨_, rfl⟩
              have i_41 : x_39.toInt = (y_4).toInt + 1 := ia_add e_40 rfl (by decide) (by omega) (by omega)
              refine lv_iinc (v := x_39) (lv' := [(5, .int (x_39)), (0, .ref (G.2.2 (66))), (1, .int (p1)), (2, .int (p2)), (3, .int (y_35)), (4, .int (y_36)), (6, .int (y_33))]) hx hb dX5_firstOfLeast_56 hl (k := 5) rfl (by rw [e_40]; rfl) (by decide) rfl (fun ls hl => ?_)
              refine lv_goto (tgt := 9) hx hb dX5_firstOfLeast_59 (by decide) ?_
              exact ih9 y_35 y_36 x_39 _ _ _ (by omega) (by omega) (by omega) (by rw [show (x_39 : Int32).toInt = (y_4 : Int32).toInt + 1 by omega]; exact f_38) h (lv_sub hl [1, 2, 3, 4, 5, 0] rfl)
            refine lv_icmp_ge (tgt := 56) hx hb dX5_firstOfLeast_46 (by decide) (fun c_42 => ?_) (fun c_42 => ?_)
            · have j_43 : (y_3).toInt ≤ (y_33).toInt := (i_le rfl rfl).mp c_42
              exact J56_36 y_2 y_3 _ _ _ (by omega) (by first | exact f_7.keep f_34 hF (by omega) rfl (by omega) | exact f_7.new f_34 hF (by omega) rfl (by omega)) h (lv_sub hl [1, 2, 3, 4, 5, 6, 0] rfl)
            · have j_43 : ¬ ((y_3).toInt ≤ (y_33).toInt) := fun q => c_42 ((i_le rfl rfl).mpr q)
              refine lv_iload hx hb dX5_firstOfLeast_49 (lv_at hl 6 rfl) ?_
              refine lv_istore_n (lv' := [(3, .int (y_4)), (6, .int (y_33)), (0, .ref (G.2.2 (66))), (1, .int (p1)), (2, .int (p2)), (4, .int (y_3)), (5, .int (y_4))]) hx hb dX5_firstOfLeast_51 rfl hl (by decide) rfl (fun ls hl => ?_)
              refine lv_iload hx hb dX5_firstOfLeast_52 (lv_at hl 1 rfl) ?_
              refine lv_istore (lv' := [(4, .int (y_33)), (3, .int (y_4)), (6, .int (y_33)), (0, .ref (G.2.2 (66))), (1, .int (p1)), (2, .int (p2)), (5, .int (y_4))]) hx hb dX5_firstOfLeast_54 hl (by decide) rfl (fun ls hl => ?_)
              exact J56_36 y_4 y_33 _ _ _ (by omega) (by first | exact f_7.keep f_34 hF (by omega) rfl (by omega) | exact f_7.new f_34 hF (by omega) rfl (by omega)) h (lv_sub hl [3, 4, 5, 1, 0, 6, 2] rfl)
          refine lv_if_eq (tgt := 38) hx hb dX5_firstOfLeast_24 (by decide) (fun _ => ?_) (fun c_44 => absurd (by decide) c_44)
          refine lv_ldc hx hb hown k91 dX5_firstOfLeast_38 ?_
          exact J40_33 2147483647 _ _ _ (by first | exact Or.inl ⟨hbt, hsm⟩ | exact Or.inr ⟨hbt, by decide⟩) h (lv_sub hl [0, 1, 2, 3, 4, 5] rfl)
  refine lv_istore (lv' := [(5, .int (0)), (4, .int (2147483647)), (3, .int (0)), (0, .ref (G.2.2 (66))), (1, .int (p1)), (2, .int (p2))]) hx hb dX5_firstOfLeast_7 hl (by decide) rfl (fun ls hl => ?_)
  exact J9_4 _ 0 2147483647 0 _ _ _ (Nat.lt_succ_self _) (by omega) (by omega) (flI_0 (by decide) (by decide)) h (lv_sub hl [3, 4, 5, 2, 1, 0] rfl)

set_option maxHeartbeats 4000000 in
set_option maxRecDepth 100000 in
theorem c_X5_setRest (l : Launch) (G : gG) (v : Nat → Nat → Int32) (w : Nat → Nat → Int64) (sg : Nat → Nat) (p1 : Int32) {A1 : Int} (a1 : p1.toInt = A1) (p2 : Int32) {A2 : Int} (a2 : p2.toInt = A2) (b1 : 1 ≤ A1 ∧ A1 ≤ 511) (b2 : 0 ≤ A2 ∧ A2 ≤ 511) (hs : sbS A1.toNat A2.toNat) (hp2 : A2.toNat < 2 ^ (v 66 0).toInt.toNat) (hmv : mvB v) (hz : z82 v) (hRT : RT (cC v) (v 66 0).toInt.toNat A2.toNat (tC v) A1.toNat 0) (ci : cI v) : Met l yX5_setRest wsX5_setRest ({ frames := 3, cells := 0, slots := 0, locals := 70 }) (gPre G v w sg [.ref (G.2.2 (66)), .int (p1), .int (p2)]) (gQv G (fun v' w' sg' => (cI v' ∧ fC 66 83 v w v' w ∧ fPl v v' ∧ z82 v' ∧ RT (cC v) (v 66 0).toInt.toNat A2.toNat (tC v') (A1.toNat + 1) 0 ∧ sqT v v' A1 A2) ∧ w = w' ∧ sg = sg')) 0 0 (gA G) := by
  refine gM_ofv (cc := cX5_setRest) (maxL := 4) (by decide) rfl (Nat.le_of_ble_eq_true rfl) ?_
  intro p e R s m args below meth c Q ls C hR ret h hl
  have hx := C.1.1
  have hb := C.1.2.1
  have hown := C.1.2.2.2.1
  have hts := C.1.2.2.2.2
  have hl : lv_has ls 4 [(0, .ref (G.2.2 (66))), (1, .int (p1)), (2, .int (p2))] := hl
  have q1 := i_rng p1; rw [a1] at q1
  have q2 := i_rng p2; rw [a2] at q2
  have z_m1 : ((-1) : Int32).toInt = (-1) := by decide
  have z_0 : (0 : Int32).toInt = 0 := by decide
  have z_1 : (1 : Int32).toInt = 1 := by decide
  have z_9 : (9 : Int32).toInt = 9 := by decide
  have f11 : Cond.fieldLink RX5 11 "WindHall$Program" "count" "I" ∈ wsX5_setRest := by decide +kernel
  have hi5 : ∀ x ∈ u_ws RX5 TX5 10, x ∈ wsX5_setRest := fun x q => List.mem_cons_of_mem _ (List.mem_append_right _ q)
  have f44 : Cond.fieldLink RX5 44 "WindHall$Program" "rest" "[I" ∈ wsX5_setRest := by decide +kernel
  have o_1 := ci
  obtain ⟨K1, K2, K3, K4, K5, K6, K7, Ks, K9, Ka, Kr, Kz⟩ := o_1
  refine lv_iconst (v := 0) hx hb dX5_setRest_0 (by decide) ?_
  have J2_3 : ∀ (n : Nat) (y_2 : Int32) (v_3 : Nat → Nat → Int32) (H : Heap) (locs : List Loc) (ls : Array Slot), ((v 66 0).toInt - (y_2).toInt).toNat < n → (cI v_3) → (fC 66 83 v w v_3 w) → (fPl v v_3) → (0 ≤ (y_2).toInt ∧ (y_2).toInt ≤ (v 66 0).toInt) → (z82 v_3) → (RT (cC v) (v 66 0).toInt.toNat A2.toNat (tC v_3) A1.toNat ((y_2).toInt).toNat) → gS (gA G) G s v_3 w sg H locs → lv_has ls 4 [(0, .ref (G.2.2 (66))), (1, .int (p1)), (2, .int (p2)), (3, .int (y_2))] → W p l e R s m args below meth c H locs 0 0 Q (F0 m 2 ls []) := by
    intro n
    induction n with
    | zero => intro y_2 v_3 H locs ls hm; exact absurd hm (Nat.not_lt_zero _)
    | succ n ih2 =>
      intro y_2 v_3 H locs ls hm u_4 u_5 u_6 f_7 f_8 f_9 h hl
      have o_10 := u_4
      obtain ⟨K1, K2, K3, K4, K5, K6, K7, Ks, K9, Ka, Kr, Kz⟩ := o_10
      have e66 : (v_3 66 0).toInt = (v 66 0).toInt := by rw [u_6.1]
      refine lv_iload_n hx hb dX5_setRest_2 rfl (lv_at hl 3 rfl) ?_
      refine lv_aload_n hx hb dX5_setRest_3 rfl (lv_at hl 0 rfl) ?_
      refine g_geti (ci := 5) (x := v_3 66 0) C h 66 (by decide) rfl rfl hi5 0 (by decide) f11 rfl rfl rfl dX5_setRest_4 ?_
      refine lv_icmp_ge (tgt := 50) hx hb dX5_setRest_7 (by decide) (fun c_11 => ?_) (fun c_11 => ?_)
      · have j_12 : (v_3 66 0).toInt ≤ (y_2).toInt := (i_le rfl rfl).mp c_11
        refine lv_iload_n hx hb dX5_setRest_50 rfl (lv_at hl 1 rfl) ?_
        refine lv_iload_n hx hb dX5_setRest_51 rfl (lv_at hl 2 rfl) ?_
        refine lv_icmp_ne (tgt := 80) hx hb dX5_setRest_52 (by decide) (fun c_13 => ?_) (fun c_13 => ?_)
        · have j_14 : ¬ (A1 = A2) := fun q => c_13 ((i_eq a1 a2).mpr q)
          exact ret v_3 w sg _ _ _ _ dX5_setRest_80 h ⟨⟨u_4, u_5, u_6, ⟨f_8, f_9.next (by omega) rfl, fun e => absurd e (by omega)⟩⟩, rfl, rfl⟩
        · have j_14 : A1 = A2 := (i_eq a1 a2).mp c_13
          have hfH := flH_of u_6 (by omega) hmv f_8 f_9 hs ⟨by omega, by omega⟩ (f := 9) (by omega)
          have hpw : A1.toNat < 2 ^ (v_3 66 0).toInt.toNat := by rw [e66]; exact sb_lt hs hp2
          refine lv_aload_n hx hb dX5_setRest_55 rfl (lv_at hl 0 rfl) ?_
          refine g_get (ci := 5) (x := .ref (G.2.2 (82))) C h 66 (by decide) rfl rfl hi5 9 (by decide) f44 rfl rfl dX5_setRest_56 ?_
          refine lv_iload_n hx hb dX5_setRest_59 rfl (lv_at hl 1 rfl) ?_
          refine lv_bipush (v := 9) hx hb dX5_setRest_60 (by decide) ?_
          refine g_calli C (va_runS (As := [.int (p1), .int (9)]) (rest := [.ref (G.2.2 (82))]) C.1 (c_X5_cell l G v_3 w sg p1 (A0 := A1) a1 (9) (A1 := 9) (by decide) (by omega) (by omega)) (va_cwS 2 hts gX5_setRest_X5_cell rfl rfl rfl (by decide +kernel) ⟨by rw [hR]; exact Nat.le_of_ble_eq_true rfl, by rw [hR]; exact Nat.le_of_ble_eq_true rfl⟩) ⟨gPre_blind, gS_pre C h _⟩ rfl rfl hl.1 rfl (lv_room (Nat.le_of_ble_eq_true rfl)) dX5_setRest_62 ⟨Nat.zero_le _, Nat.zero_le _⟩) h (fun r_15 v_17 w_18 g_19 H locs p_16 h => ?_)
          obtain ⟨p_16, rfl, rfl, rfl⟩ := p_16
          refine lv_aload_n hx hb dX5_setRest_65 rfl (lv_at hl 0 rfl) ?_
          refine lv_bipush (v := 9) hx hb dX5_setRest_66 (by decide) ?_
          refine lv_aload_n hx hb dX5_setRest_68 rfl (lv_at hl 0 rfl) ?_
          refine lv_bipush (v := 9) hx hb dX5_setRest_69 (by decide) ?_
          refine lv_iload_n hx hb dX5_setRest_71 rfl (lv_at hl 1 rfl) ?_
          refine g_calli C (va_runV (As := [.int (9), .int (p1)]) (rest := [.int (9), .ref (G.2.2 (66)), .int (r_15), .ref (G.2.2 (82))]) C.1 (c_X5_firstOfLeast l G v_3 w sg (9) (A1 := 9) (by decide) p1 (A2 := A1) a1 (by omega) (by omega) hfH u_4) (cwV 2 hts gX5_setRest_X5_firstOfLeast rfl rfl rfl (by decide +kernel) ⟨by rw [hR]; exact Nat.le_of_ble_eq_true rfl, by rw [hR]; exact Nat.le_of_ble_eq_true rfl⟩) ⟨gPre_blind, g_recv C h 66 (by decide) (ci := 5) rfl rfl, gS_pre C h _⟩ rfl rfl hl.1 rfl (lv_room (Nat.le_of_ble_eq_true rfl)) dX5_setRest_72 ⟨Nat.zero_le _, Nat.zero_le _⟩) h (fun r_20 v_22 w_23 g_24 H locs p_21 h => ?_)
          obtain ⟨p_21, rfl, rfl, rfl⟩ := p_21
          have hfl72 := p_21
          have hif72 : isF (FC v_3 9 A1.toNat) A1.toNat (v_3 66 0).toInt.toNat (r_20 : Int32).toInt.toNat := fl_F hfl72.2 (by omega) hpw
          have hfn72 := hif72.1.1
          have hfr72 := hfl72.1
          have hfb72 := fc_b hfH (q := (r_20 : Int32).toInt.toNat) (by omega) hif72.1.2
          refine lv_iload_n hx hb dX5_setRest_75 rfl (lv_at hl 1 rfl) ?_
          refine g_calli C (va_runV (As := [.int (9), .int (r_20), .int (p1)]) (rest := [.int (r_15), .ref (G.2.2 (82))]) C.1 (c_X5_sumBy l G v_3 w sg (9) (A1 := 9) (by decide) r_20 (A2 := (r_20).toInt) rfl p1 (A3 := A1) a1 (by omega) (by omega) (by omega) hif72.1.2 u_4) (cwV 3 hts gX5_setRest_X5_sumBy rfl rfl rfl (by decide +kernel) ⟨by rw [hR]; exact Nat.le_of_ble_eq_true rfl, by rw [hR]; exact Nat.le_of_ble_eq_true rfl⟩) ⟨gPre_blind, g_recv C h 66 (by decide) (ci := 5) rfl rfl, gS_pre C h _⟩ rfl rfl hl.1 rfl (lv_room (Nat.le_of_ble_eq_true rfl)) dX5_setRest_76 ⟨Nat.zero_le _, Nat.zero_le _⟩) h (fun r_25 v_27 w_28 g_29 H locs p_26 h => ?_)
          obtain ⟨p_26, rfl, rfl, rfl⟩ := p_26
          have hsm76 := fc_of hfH p_26 (by omega) hif72.1.2
          have hmn76 := isF_M hif72
          rw [← hsm76, FC_f u_6 (by omega), e66] at hmn76
          refine g_iast C h 82 (by decide) (by decide) (n := 5120) (by decide) (vp_of rfl (by omega) (by omega)) dX5_setRest_79 (fun H locs h => ?_)
          obtain ⟨v_30, hv_30⟩ : ∃ z, z = gu v_3 82 ((r_15 : Int32).toNatClampNeg) r_25 := ⟨_, rfl⟩
          have h : gS (gA G) G s v_30 w sg H locs := by rw [hv_30]; exact h
          have u_31 : cI v_30 := by rw [hv_30]; exact (cI_o u_4 (by decide))
          have u_32 : fC 66 83 v w v_30 w := by rw [hv_30]; exact (fC_v u_5 (by decide))
          have u_33 : fPl v v_30 := by rw [hv_30]; exact (fPl_v u_6 (by omega))
          exact ret v_30 w sg _ _ _ _ dX5_setRest_80 h ⟨⟨u_31, u_32, u_33, ⟨z82_st f_8 hv_30 rfl (by omega), RT_o (S := A1.toNat) (f_9.next (by omega) rfl) hv_30 rfl (by omega) (by omega), sqT_of hmn76 hv_30 rfl (by omega) (by omega) (by omega)⟩⟩, rfl, rfl⟩
      · have j_12 : ¬ ((v_3 66 0).toInt ≤ (y_2).toInt) := fun q => c_11 ((i_le rfl rfl).mpr q)
        refine lv_iload_n hx hb dX5_setRest_10 rfl (lv_at hl 2 rfl) ?_
        refine lv_iload_n hx hb dX5_setRest_11 rfl (lv_at hl 1 rfl) ?_
        refine lv_iconst (v := (-1)) hx hb dX5_setRest_12 (by decide) ?_
        refine lv_ixor hx hb dX5_setRest_13 ?_
        refine lv_topi (fun x_34 e_35 => ?_)
        refine lv_iand hx hb dX5_setRest_14 ?_
        refine lv_topi (fun x_36 e_37 => ?_)
        have hab := and_b e_37 a2 (by omega)
        have hnd := nd_of e_35 e_37 a1 a2 (by omega) (by omega) (by omega) (q := ((y_2).toInt).toNat) (by omega)
        refine lv_iload_n hx hb dX5_setRest_15 rfl (lv_at hl 3 rfl) ?_
        refine g_calli C (va_runS (As := [.int (x_36), .int (y_2)]) (rest := []) C.1 (c_X5_isIn l G v_3 w sg x_36 (A0 := (x_36).toInt) rfl y_2 (A1 := (y_2).toInt) rfl (by omega) (by omega)) (va_cwS 2 hts gX5_setRest_X5_isIn rfl rfl rfl (by decide +kernel) ⟨by rw [hR]; exact Nat.le_of_ble_eq_true rfl, by rw [hR]; exact Nat.le_of_ble_eq_true rfl⟩) ⟨gPre_blind, gS_pre C h _⟩ rfl rfl hl.1 rfl (lv_room (Nat.le_of_ble_eq_true rfl)) dX5_setRest_16 ⟨Nat.zero_le _, Nat.zero_le _⟩) h (fun r_38 v_40 w_41 g_42 H locs p_39 h => ?_)
        obtain ⟨p_39, rfl, rfl, rfl⟩ := p_39
        rcases p_39 with ⟨rfl, t_43⟩ | ⟨rfl, t_43⟩
        · skip
          have hbt := t_43
          have J44_44 : ∀ (v_44 : Nat → Nat → Int32) (H : Heap) (locs : List Loc) (ls : Array Slot), (cI v_44) → (fC 66 83 v w v_44 w) → (fPl v v_44) → (z82 v_44) → (RT (cC v) (v 66 0).toInt.toNat A2.toNat (tC v_44) A1.toNat ((y_2 : Int32).toInt.toNat + 1)) → gS (gA G) G s v_44 w sg H locs → lv_has ls 4 [(0, .ref (G.2.2 (66))), (1, .int (p1)), (2, .int (p2)), (3, .int (y_2))] → W p l e R s m args below meth c H locs 0 0 Q (F0 m 44 ls []) := by
            intro v_44 H locs ls u_45 u_46 u_47 f_48 f_49 h hl
            have o_50 := u_45
            obtain ⟨K1, K2, K3, K4, K5, K6, K7, Ks, K9, Ka, Kr, Kz⟩ := o_50
            obtain ⟨x_51, e_52⟩ : ∃ y : Int32, y = y_2 + 1 := ⟨_, rfl⟩
            have i_53 : x_51.toInt = (y_2).toInt + 1 := ia_add e_52 rfl (by decide) (by omega) (by omega)
            refine lv_iinc (v := x_51) (lv' := [(3, .int (x_51)), (0, .ref (G.2.2 (66))), (1, .int (p1)), (2, .int (p2))]) hx hb dX5_setRest_44 hl (k := 3) rfl (by rw [e_52]; rfl) (by decide) rfl (fun ls hl => ?_)
            refine lv_goto (tgt := 2) hx hb dX5_setRest_47 (by decide) ?_
            exact ih2 x_51 v_44 _ _ _ (by omega) u_45 u_46 u_47 (by omega) f_48 (by rw [show (x_51 : Int32).toInt.toNat = (y_2 : Int32).toInt.toNat + 1 by omega]; exact f_49) h (lv_sub hl [1, 2, 3, 0] rfl)
          refine lv_if_eq (tgt := 44) hx hb dX5_setRest_19 (by decide) (fun c_54 => absurd c_54 (by decide)) (fun _ => ?_)
          have hfH := flH_of u_6 (by omega) hmv f_8 f_9 hs ⟨by omega, by omega⟩ (f := ((y_2).toInt).toNat) (by omega)
          have hpw : A1.toNat < 2 ^ (v_3 66 0).toInt.toNat := by rw [e66]; exact sb_lt hs hp2
          refine lv_aload_n hx hb dX5_setRest_22 rfl (lv_at hl 0 rfl) ?_
          refine g_get (ci := 5) (x := .ref (G.2.2 (82))) C h 66 (by decide) rfl rfl hi5 9 (by decide) f44 rfl rfl dX5_setRest_23 ?_
          refine lv_iload_n hx hb dX5_setRest_26 rfl (lv_at hl 1 rfl) ?_
          refine lv_iload_n hx hb dX5_setRest_27 rfl (lv_at hl 3 rfl) ?_
          refine g_calli C (va_runS (As := [.int (p1), .int (y_2)]) (rest := [.ref (G.2.2 (82))]) C.1 (c_X5_cell l G v_3 w sg p1 (A0 := A1) a1 y_2 (A1 := (y_2).toInt) rfl (by omega) (by omega)) (va_cwS 2 hts gX5_setRest_X5_cell rfl rfl rfl (by decide +kernel) ⟨by rw [hR]; exact Nat.le_of_ble_eq_true rfl, by rw [hR]; exact Nat.le_of_ble_eq_true rfl⟩) ⟨gPre_blind, gS_pre C h _⟩ rfl rfl hl.1 rfl (lv_room (Nat.le_of_ble_eq_true rfl)) dX5_setRest_28 ⟨Nat.zero_le _, Nat.zero_le _⟩) h (fun r_55 v_57 w_58 g_59 H locs p_56 h => ?_)
          obtain ⟨p_56, rfl, rfl, rfl⟩ := p_56
          refine lv_aload_n hx hb dX5_setRest_31 rfl (lv_at hl 0 rfl) ?_
          refine lv_iload_n hx hb dX5_setRest_32 rfl (lv_at hl 3 rfl) ?_
          refine lv_aload_n hx hb dX5_setRest_33 rfl (lv_at hl 0 rfl) ?_
          refine lv_iload_n hx hb dX5_setRest_34 rfl (lv_at hl 3 rfl) ?_
          refine lv_iload_n hx hb dX5_setRest_35 rfl (lv_at hl 1 rfl) ?_
          refine g_calli C (va_runV (As := [.int (y_2), .int (p1)]) (rest := [.int (y_2), .ref (G.2.2 (66)), .int (r_55), .ref (G.2.2 (82))]) C.1 (c_X5_firstOfLeast l G v_3 w sg y_2 (A1 := (y_2).toInt) rfl p1 (A2 := A1) a1 (by omega) (by omega) hfH u_4) (cwV 2 hts gX5_setRest_X5_firstOfLeast rfl rfl rfl (by decide +kernel) ⟨by rw [hR]; exact Nat.le_of_ble_eq_true rfl, by rw [hR]; exact Nat.le_of_ble_eq_true rfl⟩) ⟨gPre_blind, g_recv C h 66 (by decide) (ci := 5) rfl rfl, gS_pre C h _⟩ rfl rfl hl.1 rfl (lv_room (Nat.le_of_ble_eq_true rfl)) dX5_setRest_36 ⟨Nat.zero_le _, Nat.zero_le _⟩) h (fun r_60 v_62 w_63 g_64 H locs p_61 h => ?_)
          obtain ⟨p_61, rfl, rfl, rfl⟩ := p_61
          have hfl36 := p_61
          have hif36 : isF (FC v_3 ((y_2).toInt).toNat A1.toNat) A1.toNat (v_3 66 0).toInt.toNat (r_60 : Int32).toInt.toNat := fl_F hfl36.2 (by omega) hpw
          have hfn36 := hif36.1.1
          have hfr36 := hfl36.1
          have hfb36 := fc_b hfH (q := (r_60 : Int32).toInt.toNat) (by omega) hif36.1.2
          refine lv_iload_n hx hb dX5_setRest_39 rfl (lv_at hl 1 rfl) ?_
          refine g_calli C (va_runV (As := [.int (y_2), .int (r_60), .int (p1)]) (rest := [.int (r_55), .ref (G.2.2 (82))]) C.1 (c_X5_sumBy l G v_3 w sg y_2 (A1 := (y_2).toInt) rfl r_60 (A2 := (r_60).toInt) rfl p1 (A3 := A1) a1 (by omega) (by omega) (by omega) hif36.1.2 u_4) (cwV 3 hts gX5_setRest_X5_sumBy rfl rfl rfl (by decide +kernel) ⟨by rw [hR]; exact Nat.le_of_ble_eq_true rfl, by rw [hR]; exact Nat.le_of_ble_eq_true rfl⟩) ⟨gPre_blind, g_recv C h 66 (by decide) (ci := 5) rfl rfl, gS_pre C h _⟩ rfl rfl hl.1 rfl (lv_room (Nat.le_of_ble_eq_true rfl)) dX5_setRest_40 ⟨Nat.zero_le _, Nat.zero_le _⟩) h (fun r_65 v_67 w_68 g_69 H locs p_66 h => ?_)
          obtain ⟨p_66, rfl, rfl, rfl⟩ := p_66
          have hsm40 := fc_of hfH p_66 (by omega) hif36.1.2
          have hmn40 := isF_M hif36
          rw [← hsm40, FC_f u_6 (by omega), e66] at hmn40
          refine g_iast C h 82 (by decide) (by decide) (n := 5120) (by decide) (vp_of rfl (by omega) (by omega)) dX5_setRest_43 (fun H locs h => ?_)
          obtain ⟨v_70, hv_70⟩ : ∃ z, z = gu v_3 82 ((r_55 : Int32).toNatClampNeg) r_65 := ⟨_, rfl⟩
          have h : gS (gA G) G s v_70 w sg H locs := by rw [hv_70]; exact h
          have u_71 : cI v_70 := by rw [hv_70]; exact (cI_o u_4 (by decide))
          have u_72 : fC 66 83 v w v_70 w := by rw [hv_70]; exact (fC_v u_5 (by decide))
          have u_73 : fPl v v_70 := by rw [hv_70]; exact (fPl_v u_6 (by omega))
          exact J44_44 v_70 _ _ _ u_71 u_72 u_73 (by first | exact f_8 | exact z82_st f_8 hv_70 rfl (by omega)) (by first | exact f_9.skip (nd_f hnd hbt) rfl | exact RT_st f_9 hv_70 rfl (by omega) (by omega) (by omega) hmn40 (by rw [hsm40]; exact ⟨hfb36.1, hfb36.2.1⟩) rfl) h (lv_sub hl [0, 1, 2, 3] rfl)
        · skip
          have hbt := t_43
          have J44_74 : ∀ (v_74 : Nat → Nat → Int32) (H : Heap) (locs : List Loc) (ls : Array Slot), (cI v_74) → (fC 66 83 v w v_74 w) → (fPl v v_74) → (z82 v_74) → (RT (cC v) (v 66 0).toInt.toNat A2.toNat (tC v_74) A1.toNat ((y_2 : Int32).toInt.toNat + 1)) → gS (gA G) G s v_74 w sg H locs → lv_has ls 4 [(0, .ref (G.2.2 (66))), (1, .int (p1)), (2, .int (p2)), (3, .int (y_2))] → W p l e R s m args below meth c H locs 0 0 Q (F0 m 44 ls []) := by
            intro v_74 H locs ls u_75 u_76 u_77 f_78 f_79 h hl
            have o_80 := u_75
            obtain ⟨K1, K2, K3, K4, K5, K6, K7, Ks, K9, Ka, Kr, Kz⟩ := o_80
            obtain ⟨x_81, e_82⟩ : ∃ y : Int32, y = y_2 + 1 := ⟨_, rfl⟩
            have i_83 : x_81.toInt = (y_2).toInt + 1 := ia_add e_82 rfl (by decide) (by omega) (by omega)
            refine lv_iinc (v := x_81) (lv' := [(3, .int (x_81)), (0, .ref (G.2.2 (66))), (1, .int (p1)), (2, .int (p2))]) hx hb dX5_setRest_44 hl (k := 3) rfl (by rw [e_82]; rfl) (by decide) rfl (fun ls hl => ?_)
            refine lv_goto (tgt := 2) hx hb dX5_setRest_47 (by decide) ?_
            exact ih2 x_81 v_74 _ _ _ (by omega) u_75 u_76 u_77 (by omega) f_78 (by rw [show (x_81 : Int32).toInt.toNat = (y_2 : Int32).toInt.toNat + 1 by omega]; exact f_79) h (lv_sub hl [1, 2, 3, 0] rfl)
          refine lv_if_eq (tgt := 44) hx hb dX5_setRest_19 (by decide) (fun _ => ?_) (fun c_84 => absurd (by decide) c_84)
          exact J44_74 v_3 _ _ _ u_4 u_5 u_6 (by first | exact f_8 | exact z82_st f_8 rfl rfl (by omega)) (by first | exact f_9.skip (nd_f hnd hbt) rfl | exact RT_st f_9 rfl rfl (by omega) (by omega) (by omega) hmn40 (by rw [hsm40]; exact ⟨hfb36.1, hfb36.2.1⟩) rfl) h (lv_sub hl [0, 1, 2, 3] rfl)
  refine lv_istore_n (lv' := [(3, .int (0)), (0, .ref (G.2.2 (66))), (1, .int (p1)), (2, .int (p2))]) hx hb dX5_setRest_1 rfl hl (by decide) rfl (fun ls hl => ?_)
  exact J2_3 _ 0 v _ _ _ (Nat.lt_succ_self _) ci fC_rf fPl_rf (by omega) hz (by rw [z_0]; exact hRT) h (lv_sub hl [1, 2, 3, 0] rfl)

set_option maxHeartbeats 4000000 in
set_option maxRecDepth 100000 in
theorem c_X5_setOfOpen (l : Launch) (G : gG) (v : Nat → Nat → Int32) (w : Nat → Nat → Int64) (sg : Nat → Nat) (ci : cI v) : Met l yX5_setOfOpen wsX5_setOfOpen ({ frames := 0, cells := 0, slots := 0, locals := 0 }) (gPre G v w sg [.ref (G.2.2 (66))]) (gQi G (fun r v' w' sg' => ((0 ≤ r.toInt ∧ r.toInt ≤ 511) ∧ r.toInt = (opA v : Int)) ∧ v = v' ∧ w = w' ∧ sg = sg')) 0 0 (gA G) := by
  refine gM_ofi (cc := cX5_setOfOpen) (maxL := 3) (by decide) rfl (Nat.le_of_ble_eq_true rfl) ?_
  intro p e R s m args below meth c Q ls C hR ret h hl
  have hx := C.1.1
  have hb := C.1.2.1
  have hown := C.1.2.2.2.1
  have hts := C.1.2.2.2.2
  have hl : lv_has ls 3 [(0, .ref (G.2.2 (66)))] := hl
  have z_0 : (0 : Int32).toInt = 0 := by decide
  have z_1 : (1 : Int32).toInt = 1 := by decide
  have f11 : Cond.fieldLink RX5 11 "WindHall$Program" "count" "I" ∈ wsX5_setOfOpen := by decide +kernel
  have hi5 : ∀ x ∈ u_ws RX5 TX5 10, x ∈ wsX5_setOfOpen := fun x q => List.mem_cons_of_mem _ (List.mem_append_right _ q)
  have f15 : Cond.fieldLink RX5 15 "WindHall$Program" "isDone" "[Z" ∈ wsX5_setOfOpen := by decide +kernel
  have o_1 := ci
  obtain ⟨K1, K2, K3, K4, K5, K6, K7, Ks, K9, Ka, Kr, Kz⟩ := o_1
  refine lv_iconst (v := 0) hx hb dX5_setOfOpen_0 (by decide) ?_
  refine lv_istore_n (lv' := [(1, .int (0)), (0, .ref (G.2.2 (66)))]) hx hb dX5_setOfOpen_1 rfl hl (by decide) rfl (fun ls hl => ?_)
  refine lv_iconst (v := 0) hx hb dX5_setOfOpen_2 (by decide) ?_
  have J4_3 : ∀ (n : Nat) (y_2 : Int32) (y_3 : Int32) (H : Heap) (locs : List Loc) (ls : Array Slot), ((v 66 0).toInt - (y_3).toInt).toNat < n → (0 ≤ (y_3).toInt ∧ (y_3).toInt ≤ (v 66 0).toInt) → (0 ≤ (y_2).toInt ∧ (y_2).toInt ≤ 511) → ((y_2).toInt = (opN (v 67) ((y_3).toInt).toNat : Int)) → gS (gA G) G s v w sg H locs → lv_has ls 3 [(0, .ref (G.2.2 (66))), (1, .int (y_2)), (2, .int (y_3))] → W p l e R s m args below meth c H locs 0 0 Q (F0 m 4 ls []) := by
    intro n
    induction n with
    | zero => intro y_2 y_3 H locs ls hm; exact absurd hm (Nat.not_lt_zero _)
    | succ n ih4 =>
      intro y_2 y_3 H locs ls hm f_4 f_5 f_6 h hl
      refine lv_iload_n hx hb dX5_setOfOpen_4 rfl (lv_at hl 2 rfl) ?_
      refine lv_aload_n hx hb dX5_setOfOpen_5 rfl (lv_at hl 0 rfl) ?_
      refine g_geti (ci := 5) (x := v 66 0) C h 66 (by decide) rfl rfl hi5 0 (by decide) f11 rfl rfl rfl dX5_setOfOpen_6 ?_
      refine lv_icmp_ge (tgt := 37) hx hb dX5_setOfOpen_9 (by decide) (fun c_7 => ?_) (fun c_7 => ?_)
      · have j_8 : (v 66 0).toInt ≤ (y_3).toInt := (i_le rfl rfl).mp c_7
        refine lv_iload_n hx hb dX5_setOfOpen_37 rfl (lv_at hl 1 rfl) ?_
        exact ret y_2 v w sg _ _ _ _ dX5_setOfOpen_38 h ⟨⟨by omega, by rw [f_6]; unfold opA; rw [show (y_3).toInt = (v 66 0).toInt by omega]⟩, rfl, rfl, rfl⟩
      · have j_8 : ¬ ((v 66 0).toInt ≤ (y_3).toInt) := fun q => c_7 ((i_le rfl rfl).mpr q)
        refine lv_iload_n hx hb dX5_setOfOpen_12 rfl (lv_at hl 1 rfl) ?_
        refine lv_aload_n hx hb dX5_setOfOpen_13 rfl (lv_at hl 0 rfl) ?_
        refine g_get (ci := 5) (x := .ref (G.2.2 (67))) C h 66 (by decide) rfl rfl hi5 1 (by decide) f15 rfl rfl dX5_setOfOpen_14 ?_
        refine lv_iload_n hx hb dX5_setOfOpen_17 rfl (lv_at hl 2 rfl) ?_
        refine g_zald C h 67 (by decide) (by decide) (n := 9) (by decide) (vp_of rfl (by omega) (by omega)) dX5_setOfOpen_18 ?_
        refine lv_topi (fun x_9 e_10 => ?_)
        have hx18 : (x_9).toInt = (v 67 (y_3 : Int32).toNatClampNeg).toInt := by rw [e_10]
        have J29_11 : ∀ (y_11 : Int32) (H : Heap) (locs : List Loc) (ls : Array Slot), (0 ≤ (y_11).toInt ∧ (y_11).toInt ≤ 256) → (((v 67 (y_3 : Int32).toNatClampNeg).toInt ≠ 0 ∧ (y_11).toInt = 0) ∨ ((v 67 (y_3 : Int32).toNatClampNeg).toInt = 0 ∧ (y_11).toInt = pw2 (y_3).toInt)) → gS (gA G) G s v w sg H locs → lv_has ls 3 [(0, .ref (G.2.2 (66))), (1, .int (y_2)), (2, .int (y_3))] → W p l e R s m args below meth c H locs 0 0 Q (F0 m 29 ls [.int (y_11), .int (y_2)]) := by
          intro y_11 H locs ls f_12 f_13 h hl
          refine lv_ior hx hb dX5_setOfOpen_29 ?_
          refine lv_topi (fun x_14 e_15 => ?_)
          have hob := or_b e_15 rfl rfl (by omega) (by omega)
          have hor := e_15
          refine lv_istore_n (lv' := [(1, .int (x_14)), (0, .ref (G.2.2 (66))), (2, .int (y_3))]) hx hb dX5_setOfOpen_30 rfl hl (by decide) rfl (fun ls hl => ?_)
          obtain ⟨x_16, e_17⟩ : ∃ y : Int32, y = y_3 + 1 := ⟨_, rfl⟩
          have i_18 : x_16.toInt = (y_3).toInt + 1 := ia_add e_17 rfl (by decide) (by omega) (by omega)
          refine lv_iinc (v := x_16) (lv' := [(2, .int (x_16)), (1, .int (x_14)), (0, .ref (G.2.2 (66)))]) hx hb dX5_setOfOpen_31 hl (k := 2) rfl (by rw [e_17]; rfl) (by decide) rfl (fun ls hl => ?_)
          refine lv_goto (tgt := 4) hx hb dX5_setOfOpen_34 (by decide) ?_
          exact ih4 x_14 x_16 _ _ _ (by omega) (by omega) (by omega) (by rw [show (x_16 : Int32).toInt.toNat = (y_3 : Int32).toInt.toNat + 1 by omega]; exact or_op (y := v 67 (y_3 : Int32).toNatClampNeg) hor rfl rfl f_6 (by omega) (by rw [cl_nat (i := y_3) rfl]) rfl f_13) h (lv_sub hl [2, 1, 0] rfl)
        refine lv_if_eq (tgt := 26) hx hb dX5_setOfOpen_19 (by decide) (fun c_19 => ?_) (fun c_19 => ?_)
        · have j_20 : (x_9).toInt = 0 := (i_eq rfl (by decide)).mp c_19
          refine lv_iconst (v := 1) hx hb dX5_setOfOpen_26 (by decide) ?_
          refine lv_iload_n hx hb dX5_setOfOpen_27 rfl (lv_at hl 2 rfl) ?_
          refine lv_ishl hx hb dX5_setOfOpen_28 ?_
          refine lv_topi (fun x_21 e_22 => ?_)
          exact J29_11 x_21 _ _ _ (by first | decide | (rw [pow_of e_22 rfl (by omega)]; have := pw2_b8 (n := (y_3).toInt) (by omega); omega)) (by first | exact Or.inl ⟨by omega, by decide⟩ | exact Or.inr ⟨by omega, pow_of e_22 rfl (by omega)⟩) h (lv_sub hl [0, 1, 2] rfl)
        · have j_20 : ¬ ((x_9).toInt = 0) := fun q => c_19 ((i_eq rfl (by decide)).mpr q)
          refine lv_iconst (v := 0) hx hb dX5_setOfOpen_22 (by decide) ?_
          refine lv_goto (tgt := 29) hx hb dX5_setOfOpen_23 (by decide) ?_
          exact J29_11 0 _ _ _ (by first | decide | (rw [pow_of rfl rfl (by omega)]; have := pw2_b8 (n := (y_3).toInt) (by omega); omega)) (by first | exact Or.inl ⟨by omega, by decide⟩ | exact Or.inr ⟨by omega, pow_of rfl rfl (by omega)⟩) h (lv_sub hl [0, 1, 2] rfl)
  refine lv_istore_n (lv' := [(2, .int (0)), (1, .int (0)), (0, .ref (G.2.2 (66)))]) hx hb dX5_setOfOpen_3 rfl hl (by decide) rfl (fun ls hl => ?_)
  exact J4_3 _ 0 0 _ _ _ (Nat.lt_succ_self _) (by omega) (by omega) (by rw [z_0] <;> rfl) h (lv_sub hl [2, 1, 0] rfl)

set_option maxHeartbeats 4000000 in
set_option maxRecDepth 100000 in
theorem c_X5_setOrder (l : Launch) (G : gG) (v : Nat → Nat → Int32) (w : Nat → Nat → Int64) (sg : Nat → Nat) (p1 : Int32) {A1 : Int} (a1 : p1.toInt = A1) (b1 : 0 ≤ A1 ∧ A1 ≤ 511) (hp2 : A1.toNat < 2 ^ (v 66 0).toInt.toNat) (hmv : mvB v) (hz : z82 v) (hRT : RT (cC v) (v 66 0).toInt.toNat A1.toNat (tC v) (A1.toNat + 1) 0) (ci : cI v) : Met l yX5_setOrder wsX5_setOrder ({ frames := 3, cells := 0, slots := 0, locals := 70 }) (gPre G v w sg [.ref (G.2.2 (66)), .int (p1)]) (gQv G (fun v' w' sg' => (cI v' ∧ fC 66 83 v w v' w ∧ fPl v v' ∧ (v' 66 4).toInt = (pcN A1.toNat 9 : Int) ∧ grR (cC v) (v 66 0).toInt.toNat A1.toNat (tC v) (rwC v') (pcN A1.toNat 9) ∧ rwP v' (pcN A1.toNat 9) ∧ v' 82 = v 82 ∧ v' 66 5 = v 66 5) ∧ w = w' ∧ sg = sg')) 0 0 (gA G) := by
  refine gM_ofv (cc := cX5_setOrder) (maxL := 6) (by decide) rfl (Nat.le_of_ble_eq_true rfl) ?_
  intro p e R s m args below meth c Q ls C hR ret h hl
  have hx := C.1.1
  have hb := C.1.2.1
  have hown := C.1.2.2.2.1
  have hts := C.1.2.2.2.2
  have hl : lv_has ls 6 [(0, .ref (G.2.2 (66))), (1, .int (p1))] := hl
  have q1 := i_rng p1; rw [a1] at q1
  have z_m1 : ((-1) : Int32).toInt = (-1) := by decide
  have z_0 : (0 : Int32).toInt = 0 := by decide
  have z_1 : (1 : Int32).toInt = 1 := by decide
  have z_9 : (9 : Int32).toInt = 9 := by decide
  have f28 : Cond.fieldLink RX5 28 "WindHall$Program" "planned" "I" ∈ wsX5_setOrder := by decide +kernel
  have hi5 : ∀ x ∈ u_ws RX5 TX5 10, x ∈ wsX5_setOrder := fun x q => List.mem_cons_of_mem _ (List.mem_append_right _ q)
  have f34 : Cond.fieldLink RX5 34 "WindHall$Program" "row" "[I" ∈ wsX5_setOrder := by decide +kernel
  have o_1 := ci
  obtain ⟨K1, K2, K3, K4, K5, K6, K7, Ks, K9, Ka, Kr, Kz⟩ := o_1
  refine lv_aload_n hx hb dX5_setOrder_0 rfl (lv_at hl 0 rfl) ?_
  refine lv_iload_n hx hb dX5_setOrder_1 rfl (lv_at hl 1 rfl) ?_
  refine g_calli C (va_runS (As := [.int (p1)]) (rest := [.ref (G.2.2 (66))]) C.1 (c_J6_bitCount_0f7a4 l G v w sg p1 (A0 := A1) a1 (by omega)) (va_cwS 1 hts gX5_setOrder_J6_bitCount_0f7a4 rfl rfl rfl (by decide +kernel) ⟨by rw [hR]; exact Nat.le_of_ble_eq_true rfl, by rw [hR]; exact Nat.le_of_ble_eq_true rfl⟩) ⟨gPre_blind, gS_pre C h _⟩ rfl rfl hl.1 rfl (lv_room (Nat.le_of_ble_eq_true rfl)) dX5_setOrder_2 ⟨Nat.zero_le _, Nat.zero_le _⟩) h (fun r_2 v_4 w_5 g_6 H locs p_3 h => ?_)
  obtain ⟨p_3, rfl, rfl, rfl⟩ := p_3
  have hbc := p_3.2
  have hbr := p_3.1
  refine g_put (ci := 5) (x := r_2) (ty := .int) C h 66 (by decide) rfl rfl hi5 tyX5 tyX5_ok nmX5 4 (by decide) f28 rfl rfl (by decide +kernel) rfl rfl (Nat.le_of_ble_eq_true rfl) rfl dX5_setOrder_5 (fun H locs h => ?_)
  obtain ⟨v_7, hv_7⟩ : ∃ z, z = gu v 66 4 r_2 := ⟨_, rfl⟩
  have h : gS (gA G) G s v_7 w sg H locs := by rw [hv_7]; exact h
  have u_8 : cI v_7 := by rw [hv_7]; exact (cI_66_4 ci (by omega))
  have u_9 : fC 66 83 v w v_7 w := by rw [hv_7]; exact (fC_v fC_rf (by decide))
  have u_10 : fPl v v_7 := by rw [hv_7]; exact (fPl_v fPl_rf (by decide))
  refine lv_iload_n hx hb dX5_setOrder_8 rfl (lv_at hl 1 rfl) ?_
  refine lv_istore_n (lv' := [(2, .int (p1)), (0, .ref (G.2.2 (66))), (1, .int (p1))]) hx hb dX5_setOrder_9 rfl hl (by decide) rfl (fun ls hl => ?_)
  refine lv_bipush (v := 9) hx hb dX5_setOrder_10 (by decide) ?_
  refine lv_istore_n (lv' := [(3, .int (9)), (2, .int (p1)), (0, .ref (G.2.2 (66))), (1, .int (p1))]) hx hb dX5_setOrder_12 rfl hl (by decide) rfl (fun ls hl => ?_)
  refine lv_iconst (v := 0) hx hb dX5_setOrder_13 (by decide) ?_
  have J16_14 : ∀ (n : Nat) (y_11 : Int32) (y_12 : Int32) (y_13 : Int32) (v_14 : Nat → Nat → Int32) (H : Heap) (locs : List Loc) (ls : Array Slot), ((pcN A1.toNat 9 : Int) - (y_13).toInt).toNat < n → (cI v_14) → (fC 66 83 v w v_14 w) → (fPl v v_14) → (0 ≤ (y_13).toInt ∧ (y_13).toInt ≤ (pcN A1.toNat 9 : Int)) → (0 ≤ (y_11).toInt ∧ (y_11).toInt ≤ 511) → (0 ≤ (y_12).toInt ∧ (y_12).toInt ≤ 9) → (soI v v_14 A1.toNat (y_13).toInt (y_11).toInt (y_12).toInt) → gS (gA G) G s v_14 w sg H locs → lv_has ls 6 [(0, .ref (G.2.2 (66))), (1, .int (p1)), (2, .int (y_11)), (3, .int (y_12)), (4, .int (y_13))] → W p l e R s m args below meth c H locs 0 0 Q (F0 m 16 ls []) := by
    intro n
    induction n with
    | zero => intro y_11 y_12 y_13 v_14 H locs ls hm; exact absurd hm (Nat.not_lt_zero _)
    | succ n ih16 =>
      intro y_11 y_12 y_13 v_14 H locs ls hm u_15 u_16 u_17 f_18 f_19 f_20 f_21 h hl
      have o_22 := u_15
      obtain ⟨K1, K2, K3, K4, K5, K6, K7, Ks, K9, Ka, Kr, Kz⟩ := o_22
      have hpc := pc_9 A1.toNat (by omega)
      have h664 := f_21.2.2.2.2.2.2
      have e66 : (v_14 66 0).toInt = (v 66 0).toInt := by rw [u_17.1]
      have hfp16 := u_17
      refine lv_iload hx hb dX5_setOrder_16 (lv_at hl 4 rfl) ?_
      refine lv_aload_n hx hb dX5_setOrder_18 rfl (lv_at hl 0 rfl) ?_
      refine g_geti (ci := 5) (x := v_14 66 4) C h 66 (by decide) rfl rfl hi5 4 (by decide) f28 rfl rfl rfl dX5_setOrder_19 ?_
      refine lv_icmp_ge (tgt := 60) hx hb dX5_setOrder_22 (by decide) (fun c_23 => ?_) (fun c_23 => ?_)
      · have j_24 : (v_14 66 4).toInt ≤ (y_13).toInt := (i_le rfl rfl).mp c_23
        exact ret v_14 w sg _ _ _ _ dX5_setOrder_60 h ⟨⟨u_15, u_16, u_17, (by have hso := f_21; rw [show (y_13).toInt = (pcN A1.toNat 9 : Int) by omega] at hso; exact ⟨hso.2.2.2.2.2.2, hso.1, hso.2.2.2.1, hso.2.2.2.2.1, hso.2.2.2.2.2.1⟩)⟩, rfl, rfl⟩
      · have j_24 : ¬ ((v_14 66 4).toInt ≤ (y_13).toInt) := fun q => c_23 ((i_le rfl rfl).mpr q)
        have hst := so_ok f_21 (by omega) (by omega)
        have hne := so_ne f_21 (by omega) (by omega) (by omega)
        have hfH := so_flH f_21 hfp16 (by omega) (by omega) hmv hz hRT
        have hpw : ((y_11).toInt).toNat < 2 ^ (v_14 66 0).toInt.toNat := by rw [e66]; exact sb_lt hst.2.1 hp2
        refine lv_aload_n hx hb dX5_setOrder_25 rfl (lv_at hl 0 rfl) ?_
        refine lv_iload_n hx hb dX5_setOrder_26 rfl (lv_at hl 3 rfl) ?_
        refine lv_iload_n hx hb dX5_setOrder_27 rfl (lv_at hl 2 rfl) ?_
        refine g_calli C (va_runV (As := [.int (y_12), .int (y_11)]) (rest := []) C.1 (c_X5_firstOfLeast l G v_14 w sg y_12 (A1 := (y_12).toInt) rfl y_11 (A2 := (y_11).toInt) rfl (by omega) (by omega) hfH u_15) (cwV 2 hts gX5_setOrder_X5_firstOfLeast rfl rfl rfl (by decide +kernel) ⟨by rw [hR]; exact Nat.le_of_ble_eq_true rfl, by rw [hR]; exact Nat.le_of_ble_eq_true rfl⟩) ⟨gPre_blind, g_recv C h 66 (by decide) (ci := 5) rfl rfl, gS_pre C h _⟩ rfl rfl hl.1 rfl (lv_room (Nat.le_of_ble_eq_true rfl)) dX5_setOrder_28 ⟨Nat.zero_le _, Nat.zero_le _⟩) h (fun r_25 v_27 w_28 g_29 H locs p_26 h => ?_)
        obtain ⟨p_26, rfl, rfl, rfl⟩ := p_26
        have hfl := p_26
        have hif := fl_F hfl.2 hne hpw
        have hfl1 := hfl.1
        refine lv_istore (lv' := [(5, .int (r_25)), (0, .ref (G.2.2 (66))), (1, .int (p1)), (2, .int (y_11)), (3, .int (y_12)), (4, .int (y_13))]) hx hb dX5_setOrder_31 hl (by decide) rfl (fun ls hl => ?_)
        refine lv_aload_n hx hb dX5_setOrder_33 rfl (lv_at hl 1 rfl) ?_
        refine g_get (ci := 5) (x := .ref (G.2.2 (79))) C h 66 (by decide) rfl rfl hi5 6 (by decide) f34 rfl rfl dX5_setOrder_34 ?_
        refine lv_iload hx hb dX5_setOrder_37 (lv_at hl 5 rfl) ?_
        refine lv_iload hx hb dX5_setOrder_39 (lv_at hl 0 rfl) ?_
        refine g_iast C h 79 (by decide) (by decide) (n := 9) (by decide) (vp_of rfl (by omega) (by omega)) dX5_setOrder_41 (fun H locs h => ?_)
        obtain ⟨v_30, hv_30⟩ : ∃ z, z = gu v_14 79 ((y_13 : Int32).toNatClampNeg) r_25 := ⟨_, rfl⟩
        have h : gS (gA G) G s v_30 w sg H locs := by rw [hv_30]; exact h
        have u_31 : cI v_30 := by rw [hv_30]; exact (cI_o u_15 (by decide))
        have u_32 : fC 66 83 v w v_30 w := by rw [hv_30]; exact (fC_v u_16 (by decide))
        have u_33 : fPl v v_30 := by rw [hv_30]; exact (fPl_v u_17 (by omega))
        refine lv_iload_n hx hb dX5_setOrder_42 rfl (lv_at hl 3 rfl) ?_
        refine lv_iconst (v := 1) hx hb dX5_setOrder_43 (by decide) ?_
        refine lv_iload hx hb dX5_setOrder_44 (lv_at hl 0 rfl) ?_
        refine lv_ishl hx hb dX5_setOrder_46 ?_
        refine lv_topi (fun x_34 e_35 => ?_)
        refine lv_iconst (v := (-1)) hx hb dX5_setOrder_47 (by decide) ?_
        refine lv_ixor hx hb dX5_setOrder_48 ?_
        refine lv_topi (fun x_36 e_37 => ?_)
        refine lv_iand hx hb dX5_setOrder_49 ?_
        refine lv_topi (fun x_38 e_39 => ?_)
        have hrm := rm_of e_35 e_37 e_39 rfl rfl (by omega) (by omega) hif.1.2
        have hrl := Nat.sub_le ((y_11).toInt).toNat (2 ^ ((r_25).toInt).toNat)
        refine lv_istore_n (lv' := [(2, .int (x_38)), (5, .int (r_25)), (0, .ref (G.2.2 (66))), (1, .int (p1)), (3, .int (y_12)), (4, .int (y_13))]) hx hb dX5_setOrder_50 rfl hl (by decide) rfl (fun ls hl => ?_)
        refine lv_iload hx hb dX5_setOrder_51 (lv_at hl 1 rfl) ?_
        refine lv_istore_n (lv' := [(3, .int (r_25)), (2, .int (x_38)), (5, .int (r_25)), (0, .ref (G.2.2 (66))), (1, .int (p1)), (4, .int (y_13))]) hx hb dX5_setOrder_53 rfl hl (by decide) rfl (fun ls hl => ?_)
        obtain ⟨x_40, e_41⟩ : ∃ y : Int32, y = y_13 + 1 := ⟨_, rfl⟩
        have i_42 : x_40.toInt = (y_13).toInt + 1 := ia_add e_41 rfl (by decide) (by omega) (by omega)
        refine lv_iinc (v := x_40) (lv' := [(4, .int (x_40)), (3, .int (r_25)), (2, .int (x_38)), (5, .int (r_25)), (0, .ref (G.2.2 (66))), (1, .int (p1))]) hx hb dX5_setOrder_54 hl (k := 5) rfl (by rw [e_41]; rfl) (by decide) rfl (fun ls hl => ?_)
        refine lv_goto (tgt := 16) hx hb dX5_setOrder_57 (by decide) ?_
        exact ih16 x_38 r_25 x_40 v_30 _ _ _ (by omega) u_31 u_32 u_33 (by omega) (by omega) (by omega) (so_st f_21 hfp16 (by omega) (by omega) (by omega) hif (by omega) hv_30 rfl (by omega) (by omega) rfl) h (lv_sub hl [4, 5, 2, 1, 0] rfl)
  refine lv_istore (lv' := [(4, .int (0)), (3, .int (9)), (2, .int (p1)), (0, .ref (G.2.2 (66))), (1, .int (p1))]) hx hb dX5_setOrder_14 hl (by decide) rfl (fun ls hl => ?_)
  exact J16_14 _ p1 9 0 v_7 _ _ _ (Nat.lt_succ_self _) u_8 u_9 u_10 (by omega) (by omega) (by omega) (soI_0 hv_7 hbc (by decide) (by omega) (by decide)) h (lv_sub hl [3, 4, 2, 1, 0] rfl)

set_option maxHeartbeats 4000000 in
set_option maxRecDepth 100000 in
theorem c_X5_plan (l : Launch) (G : gG) (v : Nat → Nat → Int32) (w : Nat → Nat → Int64) (sg : Nat → Nat) (hmv : mvB v) (hz : z82 v) (ci : cI v) : Met l yX5_plan wsX5_plan ({ frames := 4, cells := 0, slots := 0, locals := 95 }) (gPre G v w sg [.ref (G.2.2 (66))]) (gQv G (fun v' w' sg' => (cI v' ∧ fC 66 83 v w v' w ∧ fPl v v' ∧ (((v 66 3).toInt ≠ 0 ∧ v' = v) ∨ ((v 66 3).toInt = 0 ∧ plC v v'))) ∧ w = w' ∧ sg = sg')) 0 0 (gA G) := by
  refine gM_ofv (cc := cX5_plan) (maxL := 3) (by decide) rfl (Nat.le_of_ble_eq_true rfl) ?_
  intro p e R s m args below meth c Q ls C hR ret h hl
  have hx := C.1.1
  have hb := C.1.2.1
  have hown := C.1.2.2.2.1
  have hts := C.1.2.2.2.2
  have hl : lv_has ls 3 [(0, .ref (G.2.2 (66)))] := hl
  have z_0 : (0 : Int32).toInt = 0 := by decide
  have z_1 : (1 : Int32).toInt = 1 := by decide
  have z_9 : (9 : Int32).toInt = 9 := by decide
  have f24 : Cond.fieldLink RX5 24 "WindHall$Program" "isPlanned" "Z" ∈ wsX5_plan := by decide +kernel
  have hi5 : ∀ x ∈ u_ws RX5 TX5 10, x ∈ wsX5_plan := fun x q => List.mem_cons_of_mem _ (List.mem_append_right _ q)
  have f44 : Cond.fieldLink RX5 44 "WindHall$Program" "rest" "[I" ∈ wsX5_plan := by decide +kernel
  have f31 : Cond.fieldLink RX5 31 "WindHall$Program" "leastSum" "I" ∈ wsX5_plan := by decide +kernel
  have o_1 := ci
  obtain ⟨K1, K2, K3, K4, K5, K6, K7, Ks, K9, Ka, Kr, Kz⟩ := o_1
  refine lv_aload_n hx hb dX5_plan_0 rfl (lv_at hl 0 rfl) ?_
  refine g_geti (ci := 5) (x := v 66 3) C h 66 (by decide) rfl rfl hi5 3 (by decide) f24 rfl rfl rfl dX5_plan_1 ?_
  refine lv_if_eq (tgt := 8) hx hb dX5_plan_4 (by decide) (fun c_2 => ?_) (fun c_2 => ?_)
  · have j_3 : (v 66 3).toInt = 0 := (i_eq rfl (by decide)).mp c_2
    refine lv_aload_n hx hb dX5_plan_8 rfl (lv_at hl 0 rfl) ?_
    refine g_calli C (va_runV (As := []) (rest := []) C.1 (c_X5_setOfOpen l G v w sg  ci) (cwV 0 hts gX5_plan_X5_setOfOpen rfl rfl rfl (by decide +kernel) ⟨by rw [hR]; exact Nat.le_of_ble_eq_true rfl, by rw [hR]; exact Nat.le_of_ble_eq_true rfl⟩) ⟨gPre_blind, g_recv C h 66 (by decide) (ci := 5) rfl rfl, gS_pre C h _⟩ rfl rfl hl.1 rfl (lv_room (Nat.le_of_ble_eq_true rfl)) dX5_plan_9 ⟨Nat.zero_le _, Nat.zero_le _⟩) h (fun r_4 v_6 w_7 g_8 H locs p_5 h => ?_)
    obtain ⟨p_5, rfl, rfl, rfl⟩ := p_5
    have hoA := p_5.2
    have hoB := p_5.1
    refine lv_istore_n (lv' := [(1, .int (r_4)), (0, .ref (G.2.2 (66)))]) hx hb dX5_plan_12 rfl hl (by decide) rfl (fun ls hl => ?_)
    refine lv_iconst (v := 1) hx hb dX5_plan_13 (by decide) ?_
    have J15_10 : ∀ (n : Nat) (y_9 : Int32) (v_10 : Nat → Nat → Int32) (H : Heap) (locs : List Loc) (ls : Array Slot), ((r_4).toInt + 1 - (y_9).toInt).toNat < n → (cI v_10) → (fC 66 83 v w v_10 w) → (fPl v v_10) → (1 ≤ (y_9).toInt ∧ (y_9).toInt ≤ (r_4).toInt + 1) → (z82 v_10) → (RT (cC v) (v 66 0).toInt.toNat (r_4 : Int32).toInt.toNat (tC v_10) ((y_9).toInt).toNat 0) → (stR v v_10 (r_4 : Int32).toInt.toNat (y_9).toInt (r_4).toInt) → gS (gA G) G s v_10 w sg H locs → lv_has ls 3 [(0, .ref (G.2.2 (66))), (1, .int (r_4)), (2, .int (y_9))] → W p l e R s m args below meth c H locs 0 0 Q (F0 m 15 ls []) := by
      intro n
      induction n with
      | zero => intro y_9 v_10 H locs ls hm; exact absurd hm (Nat.not_lt_zero _)
      | succ n ih15 =>
        intro y_9 v_10 H locs ls hm u_11 u_12 u_13 f_14 f_15 f_16 f_17 h hl
        have o_18 := u_11
        obtain ⟨K1, K2, K3, K4, K5, K6, K7, Ks, K9, Ka, Kr, Kz⟩ := o_18
        have e66 : v_10 66 0 = v 66 0 := u_13.1
        have e66i : (v_10 66 0).toInt = (v 66 0).toInt := by rw [e66]
        have hfp15 := u_13
        have hpo : (r_4 : Int32).toInt.toNat < 2 ^ (v 66 0).toInt.toNat := by rw [show (r_4 : Int32).toInt.toNat = opA v by omega]; exact opN_lt _ _
        have hcc : ∀ f q, f < (v 66 0).toInt.toNat → cC v f q = cC v_10 f q := fun f q hf => (cc_f u_13 (by omega)).symm
        refine lv_iload_n hx hb dX5_plan_15 rfl (lv_at hl 2 rfl) ?_
        refine lv_iload_n hx hb dX5_plan_16 rfl (lv_at hl 1 rfl) ?_
        refine lv_icmp_gt (tgt := 39) hx hb dX5_plan_17 (by decide) (fun c_19 => ?_) (fun c_19 => ?_)
        · have j_20 : (r_4).toInt < (y_9).toInt := (i_lt rfl rfl).mp c_19
          refine lv_aload_n hx hb dX5_plan_39 rfl (lv_at hl 0 rfl) ?_
          refine lv_aload_n hx hb dX5_plan_40 rfl (lv_at hl 0 rfl) ?_
          refine g_get (ci := 5) (x := .ref (G.2.2 (82))) C h 66 (by decide) rfl rfl hi5 9 (by decide) f44 rfl rfl dX5_plan_41 ?_
          refine lv_iload_n hx hb dX5_plan_44 rfl (lv_at hl 1 rfl) ?_
          refine lv_bipush (v := 9) hx hb dX5_plan_45 (by decide) ?_
          refine g_calli C (va_runS (As := [.int (r_4), .int (9)]) (rest := [.ref (G.2.2 (82)), .ref (G.2.2 (66))]) C.1 (c_X5_cell l G v_10 w sg r_4 (A0 := (r_4).toInt) rfl (9) (A1 := 9) (by decide) (by omega) (by omega)) (va_cwS 2 hts gX5_plan_X5_cell rfl rfl rfl (by decide +kernel) ⟨by rw [hR]; exact Nat.le_of_ble_eq_true rfl, by rw [hR]; exact Nat.le_of_ble_eq_true rfl⟩) ⟨gPre_blind, gS_pre C h _⟩ rfl rfl hl.1 rfl (lv_room (Nat.le_of_ble_eq_true rfl)) dX5_plan_47 ⟨Nat.zero_le _, Nat.zero_le _⟩) h (fun r_21 v_23 w_24 g_25 H locs p_22 h => ?_)
          obtain ⟨p_22, rfl, rfl, rfl⟩ := p_22
          refine g_iald C h 82 (by decide) (by decide) (n := 5120) (by decide) (vp_of rfl (by omega) (by omega)) dX5_plan_50 ?_
          refine lv_topi (fun x_26 e_27 => ?_)
          have hx50 : x_26 = v_10 82 (10 * (r_4 : Int32).toInt.toNat + 9) := by rw [e_27, cl_nat rfl]; congr 1; omega
          refine g_put (ci := 5) (x := x_26) (ty := .int) C h 66 (by decide) rfl rfl hi5 tyX5 tyX5_ok nmX5 5 (by decide) f31 rfl rfl (by decide +kernel) rfl rfl (Nat.le_of_ble_eq_true rfl) rfl dX5_plan_51 (fun H locs h => ?_)
          obtain ⟨v_28, hv_28⟩ : ∃ z, z = gu v_10 66 5 x_26 := ⟨_, rfl⟩
          have h : gS (gA G) G s v_28 w sg H locs := by rw [hv_28]; exact h
          have u_29 : cI v_28 := by rw [hv_28]; exact (cI_66 u_11 (by decide))
          have u_30 : fC 66 83 v w v_28 w := by rw [hv_28]; exact (fC_v u_12 (by decide))
          have u_31 : fPl v v_28 := by rw [hv_28]; exact (fPl_v u_13 (by decide))
          have hv5 := hv_28
          have hfp5 := u_31
          refine lv_aload_n hx hb dX5_plan_54 rfl (lv_at hl 0 rfl) ?_
          refine lv_iload_n hx hb dX5_plan_55 rfl (lv_at hl 1 rfl) ?_
          refine g_callv C (va_runV (As := [.int (r_4)]) (rest := []) C.1 (c_X5_setOrder l G v_28 w sg r_4 (A1 := (r_4).toInt) rfl (by omega) (by rw [hfp5.1]; exact hpo) (mvB_f hfp5 (by omega) hmv) (fun q hq => by rw [hv5, gu_o (by decide)]; exact f_15 q hq) (by rw [hfp5.1]; exact RT_5 hv5 (RT_c ((show ((y_9).toInt).toNat = (r_4 : Int32).toInt.toNat + 1 by omega) ▸ f_16) (fun f q hf => (cc_f hfp5 (by omega)).symm))) u_29) (cwV 1 hts gX5_plan_X5_setOrder rfl rfl rfl (by decide +kernel) ⟨by rw [hR]; exact Nat.le_of_ble_eq_true rfl, by rw [hR]; exact Nat.le_of_ble_eq_true rfl⟩) ⟨gPre_blind, g_recv C h 66 (by decide) (ci := 5) rfl rfl, gS_pre C h _⟩ rfl rfl hl.1 rfl (lv_room (Nat.le_of_ble_eq_true rfl)) dX5_plan_56 ⟨Nat.zero_le _, Nat.zero_le _⟩) h (fun v_34 w_35 g_36 H locs p_33 h => ?_)
          obtain ⟨p_33, rfl, rfl⟩ := p_33
          have u_37 : cI v_34 := p_33.1
          have u_38 : fC 66 83 v w v_34 w := fC_tr u_30 (fC_le p_33.2.1 (by decide))
          have u_39 : fPl v v_34 := fPl_tr u_31 p_33.2.2.1
          have o_40 := u_37
          obtain ⟨K1, K2, K3, K4, K5, K6, K7, Ks, K9, Ka, Kr, Kz⟩ := o_40
          have hso := p_33.2.2.2
          refine lv_aload_n hx hb dX5_plan_59 rfl (lv_at hl 0 rfl) ?_
          refine lv_iconst (v := 1) hx hb dX5_plan_60 (by decide) ?_
          refine g_put (ci := 5) (x := 1) (ty := .boolean) C h 66 (by decide) rfl rfl hi5 tyX5 tyX5_ok nmX5 3 (by decide) f24 rfl rfl (by decide +kernel) rfl rfl (Nat.le_of_ble_eq_true rfl) rfl dX5_plan_61 (fun H locs h => ?_)
          obtain ⟨v_41, hv_41⟩ : ∃ z, z = gu v_34 66 3 1 := ⟨_, rfl⟩
          have h : gS (gA G) G s v_41 w sg H locs := by rw [hv_41]; exact h
          have u_42 : cI v_41 := by rw [hv_41]; exact (cI_66 u_37 (by decide))
          have u_43 : fC 66 83 v w v_41 w := by rw [hv_41]; exact (fC_v u_38 (by decide))
          have u_44 : fPl v v_41 := by rw [hv_41]; exact (fPl_v u_39 (by decide))
          exact ret v_41 w sg _ _ _ _ dX5_plan_64 h ⟨⟨u_42, u_43, u_44, Or.inr ⟨by omega, plC_of (A := (r_4).toInt) (a := (y_9).toInt) hoA hfp15 (by omega) f_15 ((show ((y_9).toInt).toNat = (r_4 : Int32).toInt.toNat + 1 by omega) ▸ f_16) f_17 (by omega) hv5 hx50 hso.1 hso.2.1 hso.2.2.1 hso.2.2.2.1 hso.2.2.2.2 hv_41 (by decide)⟩⟩, rfl, rfl⟩
        · have j_20 : ¬ ((r_4).toInt < (y_9).toInt) := fun q => c_19 ((i_lt rfl rfl).mpr q)
          refine lv_iload_n hx hb dX5_plan_20 rfl (lv_at hl 2 rfl) ?_
          refine lv_iload_n hx hb dX5_plan_21 rfl (lv_at hl 1 rfl) ?_
          refine lv_iand hx hb dX5_plan_22 ?_
          refine lv_topi (fun x_45 e_46 => ?_)
          refine lv_iload_n hx hb dX5_plan_23 rfl (lv_at hl 2 rfl) ?_
          have han := and_sb e_46 rfl rfl (by omega) (by omega)
          have J33_47 : ∀ (v_47 : Nat → Nat → Int32) (H : Heap) (locs : List Loc) (ls : Array Slot), (cI v_47) → (fC 66 83 v w v_47 w) → (fPl v v_47) → (z82 v_47) → (RT (cC v) (v 66 0).toInt.toNat (r_4 : Int32).toInt.toNat (tC v_47) ((y_9 : Int32).toInt.toNat + 1) 0) → (stR v v_47 (r_4 : Int32).toInt.toNat ((y_9 : Int32).toInt + 1) (r_4).toInt) → gS (gA G) G s v_47 w sg H locs → lv_has ls 3 [(0, .ref (G.2.2 (66))), (1, .int (r_4)), (2, .int (y_9))] → W p l e R s m args below meth c H locs 0 0 Q (F0 m 33 ls []) := by
            intro v_47 H locs ls u_48 u_49 u_50 f_51 f_52 f_53 h hl
            have o_54 := u_48
            obtain ⟨K1, K2, K3, K4, K5, K6, K7, Ks, K9, Ka, Kr, Kz⟩ := o_54
            obtain ⟨x_55, e_56⟩ : ∃ y : Int32, y = y_9 + 1 := ⟨_, rfl⟩
            have i_57 : x_55.toInt = (y_9).toInt + 1 := ia_add e_56 rfl (by decide) (by omega) (by omega)
            refine lv_iinc (v := x_55) (lv' := [(2, .int (x_55)), (0, .ref (G.2.2 (66))), (1, .int (r_4))]) hx hb dX5_plan_33 hl (k := 2) rfl (by rw [e_56]; rfl) (by decide) rfl (fun ls hl => ?_)
            refine lv_goto (tgt := 15) hx hb dX5_plan_36 (by decide) ?_
            exact ih15 x_55 v_47 _ _ _ (by omega) u_48 u_49 u_50 (by omega) f_51 (by rw [show (x_55 : Int32).toInt.toNat = (y_9 : Int32).toInt.toNat + 1 by omega]; exact f_52) (by rw [show (x_55 : Int32).toInt = (y_9 : Int32).toInt + 1 by omega]; exact f_53) h (lv_sub hl [1, 2, 0] rfl)
          refine lv_icmp_ne (tgt := 33) hx hb dX5_plan_24 (by decide) (fun c_58 => ?_) (fun c_58 => ?_)
          · have j_59 : ¬ ((x_45).toInt = (y_9).toInt) := fun q => c_58 ((i_eq rfl rfl).mpr q)
            exact J33_47 v_10 _ _ _ u_11 u_12 u_13 (by first | exact f_15 | exact hsr.1) (by first | exact f_16.skipS (anI_f han (by omega)) rfl | (have hq := hsr.2.1; rw [e66] at hq; exact RT_c hq (fun f q hf => (hcc f q hf).symm))) (by first | exact stR_no rfl (anI_lt han (by omega) (by omega)) | exact stR_q hfp15 rfl (by omega) hsr.2.2 rfl) h (lv_sub hl [0, 1, 2] rfl)
          · have j_59 : (x_45).toInt = (y_9).toInt := (i_eq rfl rfl).mp c_58
            have hsb := anI_t han (by omega)
            refine lv_aload_n hx hb dX5_plan_27 rfl (lv_at hl 0 rfl) ?_
            refine lv_iload_n hx hb dX5_plan_28 rfl (lv_at hl 2 rfl) ?_
            refine lv_iload_n hx hb dX5_plan_29 rfl (lv_at hl 1 rfl) ?_
            refine g_callv C (va_runV (As := [.int (y_9), .int (r_4)]) (rest := []) C.1 (c_X5_setRest l G v_10 w sg y_9 (A1 := (y_9).toInt) rfl r_4 (A2 := (r_4).toInt) rfl (by omega) (by omega) hsb (by rw [e66]; exact hpo) (mvB_f hfp15 (by omega) hmv) f_15 (by rw [e66]; exact RT_c f_16 hcc) u_11) (cwV 2 hts gX5_plan_X5_setRest rfl rfl rfl (by decide +kernel) ⟨by rw [hR]; exact Nat.le_of_ble_eq_true rfl, by rw [hR]; exact Nat.le_of_ble_eq_true rfl⟩) ⟨gPre_blind, g_recv C h 66 (by decide) (ci := 5) rfl rfl, gS_pre C h _⟩ rfl rfl hl.1 rfl (lv_room (Nat.le_of_ble_eq_true rfl)) dX5_plan_30 ⟨Nat.zero_le _, Nat.zero_le _⟩) h (fun v_62 w_63 g_64 H locs p_61 h => ?_)
            obtain ⟨p_61, rfl, rfl⟩ := p_61
            have u_65 : cI v_62 := p_61.1
            have u_66 : fC 66 83 v w v_62 w := fC_tr u_12 (fC_le p_61.2.1 (by decide))
            have u_67 : fPl v v_62 := fPl_tr u_13 p_61.2.2.1
            have o_68 := u_65
            obtain ⟨K1, K2, K3, K4, K5, K6, K7, Ks, K9, Ka, Kr, Kz⟩ := o_68
            have hsr := p_61.2.2.2
            exact J33_47 v_62 _ _ _ u_65 u_66 u_67 (by first | exact f_15 | exact hsr.1) (by first | exact f_16.skipS (anI_f han (by omega)) rfl | (have hq := hsr.2.1; rw [e66] at hq; exact RT_c hq (fun f q hf => (hcc f q hf).symm))) (by first | exact stR_no rfl (anI_lt han (by omega) (by omega)) | exact stR_q hfp15 rfl (by omega) hsr.2.2 rfl) h (lv_sub hl [0, 1, 2] rfl)
    refine lv_istore_n (lv' := [(2, .int (1)), (1, .int (r_4)), (0, .ref (G.2.2 (66)))]) hx hb dX5_plan_14 rfl hl (by decide) rfl (fun ls hl => ?_)
    exact J15_10 _ 1 v _ _ _ (Nat.lt_succ_self _) ci fC_rf fPl_rf (by omega) hz (RT_1 (by decide)) (stR_1 (by decide) (by omega) rfl) h (lv_sub hl [2, 1, 0] rfl)
  · have j_3 : ¬ ((v 66 3).toInt = 0) := fun q => c_2 ((i_eq rfl (by decide)).mpr q)
    exact ret v w sg _ _ _ _ dX5_plan_7 h ⟨⟨ci, fC_rf, fPl_rf, Or.inl ⟨by omega, rfl⟩⟩, rfl, rfl⟩

set_option maxHeartbeats 4000000 in
set_option maxRecDepth 100000 in
theorem c_X9_place (l : Launch) (G : gG) (v : Nat → Nat → Int32) (w : Nat → Nat → Int64) (sg : Nat → Nat) (p1 : Int32) {A1 : Int} (a1 : p1.toInt = A1) (p2 : Int32) {A2 : Int} (a2 : p2.toInt = A2) (ci : cI v) : Met l yX9_place wsX9_place ({ frames := 3, cells := 0, slots := 0, locals := 69 }) (gPre G v w sg [.ref (G.2.2 (0)), .int (p1), .int (p2)]) (gQi G (fun r v' w' sg' => (cI v' ∧ fC 66 83 v w v' w ∧ ((¬ rF19 A1 A2 ∧ r = -1 ∧ v' = v) ∨ (rF19 A1 A2 ∧ 9 ≤ (v 66 0).toInt ∧ r = -3 ∧ v' = v) ∨ (rF19 A1 A2 ∧ (v 66 0).toInt < 9 ∧ r = v 66 0 ∧ fP4 (gu (gu (gu (gu (gu v 80 (v 66 0).toInt.toNat p1) 81 (v 66 0).toInt.toNat p2) 67 (v 66 0).toInt.toNat (vp_nar .boolean 0)) 66 0 (v 66 0 + 1)) 66 3 0) v' ∧ mxF (gu (gu (gu (gu (gu v 80 (v 66 0).toInt.toNat p1) 81 (v 66 0).toInt.toNat p2) 67 (v 66 0).toInt.toNat (vp_nar .boolean 0)) 66 0 (v 66 0 + 1)) 66 3 0) v' (v 66 0).toInt.toNat ∧ v' 82 = v 82))) ∧ w = w' ∧ sg = sg')) 0 0 (gA G) := by
  refine gM_ofi (cc := cX9_place) (maxL := 3) (by decide) rfl (Nat.le_of_ble_eq_true rfl) ?_
  intro p e R s m args below meth c Q ls C hR ret h hl
  have hx := C.1.1
  have hb := C.1.2.1
  have hown := C.1.2.2.2.1
  have hts := C.1.2.2.2.2
  have hl : lv_has ls 3 [(0, .ref (G.2.2 (0))), (1, .int (p1)), (2, .int (p2))] := hl
  have q1 := i_rng p1; rw [a1] at q1
  have q2 := i_rng p2; rw [a2] at q2
  have z_m3 : ((-3) : Int32).toInt = (-3) := by decide
  have z_m1 : ((-1) : Int32).toInt = (-1) := by decide
  have z_0 : (0 : Int32).toInt = 0 := by decide
  have z_1 : (1 : Int32).toInt = 1 := by decide
  have z_9 : (9 : Int32).toInt = 9 := by decide
  have z_10 : (10 : Int32).toInt = 10 := by decide
  have z_24 : (24 : Int32).toInt = 24 := by decide
  have f33 : Cond.fieldLink RX9 33 "WindHall" "program" "LWindHall$Program;" ∈ wsX9_place := by decide +kernel
  have hi9 : ∀ x ∈ u_ws RX9 TX9 7, x ∈ wsX9_place := fun x q => List.mem_cons_of_mem _ (List.mem_append_left _ (List.mem_append_right _ q))
  have f163 : Cond.fieldLink RX9 163 "WindHall$Program" "count" "I" ∈ wsX9_place := by decide +kernel
  have hi5 : ∀ x ∈ u_ws RX5 TX5 10, x ∈ wsX9_place := fun x q => List.mem_cons_of_mem _ (List.mem_append_right _ q)
  have o_1 := ci
  obtain ⟨K1, K2, K3, K4, K5, K6, K7, Ks, K9, Ka, Kr, Kz⟩ := o_1
  refine lv_iload_n hx hb dX9_place_0 rfl (lv_at hl 1 rfl) ?_
  refine lv_bipush (v := 24) hx hb dX9_place_1 (by decide) ?_
  refine g_calli C (va_runS (As := [.int (p1), .int (24)]) (rest := []) C.1 (c_X9_isIndex l G v w sg p1 (A0 := A1) a1 (24) (A1 := 24) (by decide)) (va_cwS 2 hts gX9_place_X9_isIndex rfl rfl rfl (by decide +kernel) ⟨by rw [hR]; exact Nat.le_of_ble_eq_true rfl, by rw [hR]; exact Nat.le_of_ble_eq_true rfl⟩) ⟨gPre_blind, gS_pre C h _⟩ rfl rfl hl.1 rfl (lv_room (Nat.le_of_ble_eq_true rfl)) dX9_place_3 ⟨Nat.zero_le _, Nat.zero_le _⟩) h (fun r_2 v_4 w_5 g_6 H locs p_3 h => ?_)
  obtain ⟨p_3, rfl, rfl, rfl⟩ := p_3
  rcases p_3 with ⟨rfl, t_7⟩ | ⟨rfl, t_7⟩
  · skip
    refine lv_if_eq (tgt := 18) hx hb dX9_place_6 (by decide) (fun c_8 => absurd c_8 (by decide)) (fun _ => ?_)
    refine lv_iload_n hx hb dX9_place_9 rfl (lv_at hl 2 rfl) ?_
    refine lv_bipush (v := 10) hx hb dX9_place_10 (by decide) ?_
    refine g_calli C (va_runS (As := [.int (p2), .int (10)]) (rest := []) C.1 (c_X9_isIndex l G v w sg p2 (A0 := A2) a2 (10) (A1 := 10) (by decide)) (va_cwS 2 hts gX9_place_X9_isIndex rfl rfl rfl (by decide +kernel) ⟨by rw [hR]; exact Nat.le_of_ble_eq_true rfl, by rw [hR]; exact Nat.le_of_ble_eq_true rfl⟩) ⟨gPre_blind, gS_pre C h _⟩ rfl rfl hl.1 rfl (lv_room (Nat.le_of_ble_eq_true rfl)) dX9_place_12 ⟨Nat.zero_le _, Nat.zero_le _⟩) h (fun r_9 v_11 w_12 g_13 H locs p_10 h => ?_)
    obtain ⟨p_10, rfl, rfl, rfl⟩ := p_10
    rcases p_10 with ⟨rfl, t_14⟩ | ⟨rfl, t_14⟩
    · skip
      refine lv_if_ne (tgt := 20) hx hb dX9_place_15 (by decide) (fun _ => ?_) (fun c_15 => absurd c_15 (by decide))
      refine lv_aload_n hx hb dX9_place_20 rfl (lv_at hl 0 rfl) ?_
      refine g_get (ci := 9) (x := .ref (G.2.2 (66))) C h 0 (by decide) rfl rfl hi9 3 (by decide) f33 rfl rfl dX9_place_21 ?_
      refine g_geti (ci := 5) (x := v 66 0) C h 66 (by decide) rfl rfl hi5 0 (by decide) f163 rfl rfl rfl dX9_place_24 ?_
      refine lv_bipush (v := 9) hx hb dX9_place_27 (by decide) ?_
      refine lv_icmp_lt (tgt := 37) hx hb dX9_place_29 (by decide) (fun c_16 => ?_) (fun c_16 => ?_)
      · have j_17 : (v 66 0).toInt < 9 := (i_lt rfl (by decide)).mp c_16
        refine lv_aload_n hx hb dX9_place_37 rfl (lv_at hl 0 rfl) ?_
        refine g_get (ci := 9) (x := .ref (G.2.2 (66))) C h 0 (by decide) rfl rfl hi9 3 (by decide) f33 rfl rfl dX9_place_38 ?_
        refine lv_iload_n hx hb dX9_place_41 rfl (lv_at hl 1 rfl) ?_
        refine lv_iload_n hx hb dX9_place_42 rfl (lv_at hl 2 rfl) ?_
        refine g_calli C (va_runV (As := [.int (p1), .int (p2)]) (rest := []) C.1 (c_X5_append l G v w sg p1 (A1 := A1) a1 p2 (A2 := A2) a2 (by omega) ci) (cwV 2 hts gX9_place_X5_append rfl rfl rfl (by decide +kernel) ⟨by rw [hR]; exact Nat.le_of_ble_eq_true rfl, by rw [hR]; exact Nat.le_of_ble_eq_true rfl⟩) ⟨gPre_blind, g_recv C h 66 (by decide) (ci := 5) rfl rfl, gS_pre C h _⟩ rfl rfl hl.1 rfl (lv_room (Nat.le_of_ble_eq_true rfl)) dX9_place_43 ⟨Nat.zero_le _, Nat.zero_le _⟩) h (fun r_18 v_20 w_21 g_22 H locs p_19 h => ?_)
        obtain ⟨p_19, rfl, rfl⟩ := p_19
        have u_23 : cI v_20 := p_19.1
        have u_24 : fC 66 83 v w v_20 w := fC_tr fC_rf (fC_le p_19.2.1 (by decide))
        have o_25 := u_23
        obtain ⟨K1, K2, K3, K4, K5, K6, K7, Ks, K9, Ka, Kr, Kz⟩ := o_25
        exact ret r_18 v_20 w sg _ _ _ _ dX9_place_46 h ⟨⟨u_23, u_24, Or.inr (Or.inr ⟨by unfold rF19; omega, by omega, p_19.2.2.1, p_19.2.2.2⟩)⟩, rfl, rfl⟩
      · have j_17 : ¬ ((v 66 0).toInt < 9) := fun q => c_16 ((i_lt rfl (by decide)).mpr q)
        refine lv_bipush (v := (-3)) hx hb dX9_place_32 (by decide) ?_
        refine lv_goto (tgt := 46) hx hb dX9_place_34 (by decide) ?_
        exact ret (-3) v w sg _ _ _ _ dX9_place_46 h ⟨⟨ci, fC_rf, Or.inr (Or.inl ⟨by unfold rF19; omega, by omega, rfl, rfl⟩)⟩, rfl, rfl⟩
    · skip
      refine lv_if_ne (tgt := 20) hx hb dX9_place_15 (by decide) (fun c_26 => absurd (by decide) c_26) (fun _ => ?_)
      refine lv_iconst (v := (-1)) hx hb dX9_place_18 (by decide) ?_
      exact ret (-1) v w sg _ _ _ _ dX9_place_19 h ⟨⟨ci, fC_rf, Or.inl ⟨by unfold rF19; omega, rfl, rfl⟩⟩, rfl, rfl⟩
  · skip
    refine lv_if_eq (tgt := 18) hx hb dX9_place_6 (by decide) (fun _ => ?_) (fun c_27 => absurd (by decide) c_27)
    refine lv_iconst (v := (-1)) hx hb dX9_place_18 (by decide) ?_
    exact ret (-1) v w sg _ _ _ _ dX9_place_19 h ⟨⟨ci, fC_rf, Or.inl ⟨by unfold rF19; omega, rfl, rfl⟩⟩, rfl, rfl⟩

set_option maxHeartbeats 4000000 in
set_option maxRecDepth 100000 in
theorem c_X9_least (l : Launch) (G : gG) (v : Nat → Nat → Int32) (w : Nat → Nat → Int64) (sg : Nat → Nat) (hmv : mvB v) (hz : z82 v) (ci : cI v) : Met l yX9_least wsX9_least ({ frames := 5, cells := 0, slots := 0, locals := 117 }) (gPre G v w sg [.ref (G.2.2 (0))]) (gQi G (fun r v' w' sg' => (cI v' ∧ fC 66 83 v w v' w ∧ fPl v v' ∧ r = v' 66 5 ∧ (((v 66 3).toInt ≠ 0 ∧ v' = v) ∨ ((v 66 3).toInt = 0 ∧ plC v v'))) ∧ w = w' ∧ sg = sg')) 0 0 (gA G) := by
  refine gM_ofi (cc := cX9_least) (maxL := 1) (by decide) rfl (Nat.le_of_ble_eq_true rfl) ?_
  intro p e R s m args below meth c Q ls C hR ret h hl
  have hx := C.1.1
  have hb := C.1.2.1
  have hown := C.1.2.2.2.1
  have hts := C.1.2.2.2.2
  have hl : lv_has ls 1 [(0, .ref (G.2.2 (0)))] := hl
  have z_0 : (0 : Int32).toInt = 0 := by decide
  have z_1 : (1 : Int32).toInt = 1 := by decide
  have f33 : Cond.fieldLink RX9 33 "WindHall" "program" "LWindHall$Program;" ∈ wsX9_least := by decide +kernel
  have hi9 : ∀ x ∈ u_ws RX9 TX9 7, x ∈ wsX9_least := fun x q => List.mem_cons_of_mem _ (List.mem_append_left _ (List.mem_append_right _ q))
  have f180 : Cond.fieldLink RX9 180 "WindHall$Program" "leastSum" "I" ∈ wsX9_least := by decide +kernel
  have hi5 : ∀ x ∈ u_ws RX5 TX5 10, x ∈ wsX9_least := fun x q => List.mem_cons_of_mem _ (List.mem_append_right _ q)
  have o_1 := ci
  obtain ⟨K1, K2, K3, K4, K5, K6, K7, Ks, K9, Ka, Kr, Kz⟩ := o_1
  refine lv_aload_n hx hb dX9_least_0 rfl (lv_at hl 0 rfl) ?_
  refine g_get (ci := 9) (x := .ref (G.2.2 (66))) C h 0 (by decide) rfl rfl hi9 3 (by decide) f33 rfl rfl dX9_least_1 ?_
  refine g_callv C (va_runV (As := []) (rest := []) C.1 (c_X5_plan l G v w sg  hmv hz ci) (cwV 0 hts gX9_least_X5_plan rfl rfl rfl (by decide +kernel) ⟨by rw [hR]; exact Nat.le_of_ble_eq_true rfl, by rw [hR]; exact Nat.le_of_ble_eq_true rfl⟩) ⟨gPre_blind, g_recv C h 66 (by decide) (ci := 5) rfl rfl, gS_pre C h _⟩ rfl rfl hl.1 rfl (lv_room (Nat.le_of_ble_eq_true rfl)) dX9_least_4 ⟨Nat.zero_le _, Nat.zero_le _⟩) h (fun v_4 w_5 g_6 H locs p_3 h => ?_)
  obtain ⟨p_3, rfl, rfl⟩ := p_3
  have u_7 : cI v_4 := p_3.1
  have u_8 : fC 66 83 v w v_4 w := fC_tr fC_rf (fC_le p_3.2.1 (by decide))
  have u_9 : fPl v v_4 := fPl_tr fPl_rf p_3.2.2.1
  have o_10 := u_7
  obtain ⟨K1, K2, K3, K4, K5, K6, K7, Ks, K9, Ka, Kr, Kz⟩ := o_10
  have hpl := p_3.2.2.2
  refine lv_aload_n hx hb dX9_least_7 rfl (lv_at hl 0 rfl) ?_
  refine g_get (ci := 9) (x := .ref (G.2.2 (66))) C h 0 (by decide) rfl rfl hi9 3 (by decide) f33 rfl rfl dX9_least_8 ?_
  refine g_geti (ci := 5) (x := v_4 66 5) C h 66 (by decide) rfl rfl hi5 5 (by decide) f180 rfl rfl rfl dX9_least_11 ?_
  exact ret (v_4 66 5) v_4 w sg _ _ _ _ dX9_least_14 h ⟨⟨u_7, u_8, u_9, ⟨rfl, hpl⟩⟩, rfl, rfl⟩

set_option maxHeartbeats 4000000 in
set_option maxRecDepth 100000 in
theorem c_X9_order (l : Launch) (G : gG) (v : Nat → Nat → Int32) (w : Nat → Nat → Int64) (sg : Nat → Nat) (p1 : Int32) {A1 : Int} (a1 : p1.toInt = A1) (hmv : mvB v) (hz : z82 v) (ci : cI v) : Met l yX9_order wsX9_order ({ frames := 5, cells := 0, slots := 0, locals := 117 }) (gPre G v w sg [.ref (G.2.2 (0)), .int (p1)]) (gQi G (fun r v' w' sg' => (cI v' ∧ fC 66 83 v w v' w ∧ fPl v v' ∧ ((A1 < 0 ∧ r = -1 ∧ v' = v) ∨ (0 ≤ A1 ∧ (((v 66 3).toInt ≠ 0 ∧ v' = v) ∨ ((v 66 3).toInt = 0 ∧ plC v v')) ∧ ((A1 < (v' 66 4).toInt ∧ r = v' 79 A1.toNat) ∨ ((v' 66 4).toInt ≤ A1 ∧ r = -4))))) ∧ w = w' ∧ sg = sg')) 0 0 (gA G) := by
  refine gM_ofi (cc := cX9_order) (maxL := 2) (by decide) rfl (Nat.le_of_ble_eq_true rfl) ?_
  intro p e R s m args below meth c Q ls C hR ret h hl
  have hx := C.1.1
  have hb := C.1.2.1
  have hown := C.1.2.2.2.1
  have hts := C.1.2.2.2.2
  have hl : lv_has ls 2 [(0, .ref (G.2.2 (0))), (1, .int (p1))] := hl
  have q1 := i_rng p1; rw [a1] at q1
  have z_m4 : ((-4) : Int32).toInt = (-4) := by decide
  have z_m1 : ((-1) : Int32).toInt = (-1) := by decide
  have z_0 : (0 : Int32).toInt = 0 := by decide
  have z_1 : (1 : Int32).toInt = 1 := by decide
  have f33 : Cond.fieldLink RX9 33 "WindHall" "program" "LWindHall$Program;" ∈ wsX9_order := by decide +kernel
  have hi9 : ∀ x ∈ u_ws RX9 TX9 7, x ∈ wsX9_order := fun x q => List.mem_cons_of_mem _ (List.mem_append_left _ (List.mem_append_right _ q))
  have f183 : Cond.fieldLink RX9 183 "WindHall$Program" "planned" "I" ∈ wsX9_order := by decide +kernel
  have hi5 : ∀ x ∈ u_ws RX5 TX5 10, x ∈ wsX9_order := fun x q => List.mem_cons_of_mem _ (List.mem_append_right _ q)
  have f186 : Cond.fieldLink RX9 186 "WindHall$Program" "row" "[I" ∈ wsX9_order := by decide +kernel
  have o_1 := ci
  obtain ⟨K1, K2, K3, K4, K5, K6, K7, Ks, K9, Ka, Kr, Kz⟩ := o_1
  refine lv_iload_n hx hb dX9_order_0 rfl (lv_at hl 1 rfl) ?_
  refine lv_if_ge (tgt := 6) hx hb dX9_order_1 (by decide) (fun c_2 => ?_) (fun c_2 => ?_)
  · have j_3 : 0 ≤ A1 := (i_le (by decide) a1).mp c_2
    refine lv_aload_n hx hb dX9_order_6 rfl (lv_at hl 0 rfl) ?_
    refine g_get (ci := 9) (x := .ref (G.2.2 (66))) C h 0 (by decide) rfl rfl hi9 3 (by decide) f33 rfl rfl dX9_order_7 ?_
    refine g_callv C (va_runV (As := []) (rest := []) C.1 (c_X5_plan l G v w sg  hmv hz ci) (cwV 0 hts gX9_order_X5_plan rfl rfl rfl (by decide +kernel) ⟨by rw [hR]; exact Nat.le_of_ble_eq_true rfl, by rw [hR]; exact Nat.le_of_ble_eq_true rfl⟩) ⟨gPre_blind, g_recv C h 66 (by decide) (ci := 5) rfl rfl, gS_pre C h _⟩ rfl rfl hl.1 rfl (lv_room (Nat.le_of_ble_eq_true rfl)) dX9_order_10 ⟨Nat.zero_le _, Nat.zero_le _⟩) h (fun v_6 w_7 g_8 H locs p_5 h => ?_)
    obtain ⟨p_5, rfl, rfl⟩ := p_5
    have u_9 : cI v_6 := p_5.1
    have u_10 : fC 66 83 v w v_6 w := fC_tr fC_rf (fC_le p_5.2.1 (by decide))
    have u_11 : fPl v v_6 := fPl_tr fPl_rf p_5.2.2.1
    have o_12 := u_9
    obtain ⟨K1, K2, K3, K4, K5, K6, K7, Ks, K9, Ka, Kr, Kz⟩ := o_12
    have hpl := p_5.2.2.2
    refine lv_iload_n hx hb dX9_order_13 rfl (lv_at hl 1 rfl) ?_
    refine lv_aload_n hx hb dX9_order_14 rfl (lv_at hl 0 rfl) ?_
    refine g_get (ci := 9) (x := .ref (G.2.2 (66))) C h 0 (by decide) rfl rfl hi9 3 (by decide) f33 rfl rfl dX9_order_15 ?_
    refine g_geti (ci := 5) (x := v_6 66 4) C h 66 (by decide) rfl rfl hi5 4 (by decide) f183 rfl rfl rfl dX9_order_18 ?_
    refine lv_icmp_ge (tgt := 36) hx hb dX9_order_21 (by decide) (fun c_13 => ?_) (fun c_13 => ?_)
    · have j_14 : (v_6 66 4).toInt ≤ A1 := (i_le rfl a1).mp c_13
      refine lv_bipush (v := (-4)) hx hb dX9_order_36 (by decide) ?_
      exact ret (-4) v_6 w sg _ _ _ _ dX9_order_38 h ⟨⟨u_9, u_10, u_11, Or.inr ⟨by omega, hpl, Or.inr ⟨by omega, rfl⟩⟩⟩, rfl, rfl⟩
    · have j_14 : ¬ ((v_6 66 4).toInt ≤ A1) := fun q => c_13 ((i_le rfl a1).mpr q)
      refine lv_aload_n hx hb dX9_order_24 rfl (lv_at hl 0 rfl) ?_
      refine g_get (ci := 9) (x := .ref (G.2.2 (66))) C h 0 (by decide) rfl rfl hi9 3 (by decide) f33 rfl rfl dX9_order_25 ?_
      refine g_get (ci := 5) (x := .ref (G.2.2 (79))) C h 66 (by decide) rfl rfl hi5 6 (by decide) f186 rfl rfl dX9_order_28 ?_
      refine lv_iload_n hx hb dX9_order_31 rfl (lv_at hl 1 rfl) ?_
      refine g_iald C h 79 (by decide) (by decide) (n := 9) (by decide) (vp_of a1 (by omega) (by omega)) dX9_order_32 ?_
      refine lv_topi (fun x_15 e_16 => ?_)
      have hx32 : x_15 = v_6 79 A1.toNat := by rw [e_16, cl_nat a1]
      refine lv_goto (tgt := 38) hx hb dX9_order_33 (by decide) ?_
      exact ret x_15 v_6 w sg _ _ _ _ dX9_order_38 h ⟨⟨u_9, u_10, u_11, Or.inr ⟨by omega, hpl, Or.inl ⟨by omega, hx32⟩⟩⟩, rfl, rfl⟩
  · have j_3 : ¬ (0 ≤ A1) := fun q => c_2 ((i_le (by decide) a1).mpr q)
    refine lv_iconst (v := (-1)) hx hb dX9_order_4 (by decide) ?_
    exact ret (-1) v w sg _ _ _ _ dX9_order_5 h ⟨⟨ci, fC_rf, fPl_rf, Or.inl ⟨by omega, rfl, rfl⟩⟩, rfl, rfl⟩
