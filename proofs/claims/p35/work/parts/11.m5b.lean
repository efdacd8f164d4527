set_option maxHeartbeats 4000000 in
set_option maxRecDepth 100000 in
theorem c_X10_tube (l : Launch) (G : gG) (v : Nat → Nat → Int32) (w : Nat → Nat → Int64) (sg : Nat → Nat) (p1 : Int32) {A1 : Int} (a1 : p1.toInt = A1) (mi : mI v) : Met l yX10_tube wsX10_tube ({ frames := 1, cells := 0, slots := 0, locals := 25 }) (gPre G v w sg [.ref (G.2.2 (106)), .int (p1)]) (gQi G (fun r v' w' sg' => (mI v' ∧ fM 128 131 35 36 v w v' w ∧ ((¬ (1 ≤ A1 ∧ A1 ≤ 100) ∧ r = -1 ∧ v' = v) ∨ ((1 ≤ A1 ∧ A1 ≤ 100) ∧ (v 106 35).toInt = 10 ∧ r = -3 ∧ v' = v) ∨ ((1 ≤ A1 ∧ A1 ≤ 100) ∧ (v 106 35).toInt < 10 ∧ r = v 106 35 + 1 - 1 ∧ v' = (gu (gu (gu (gu v 128 (v 106 35).toInt.toNat p1) 129 (v 106 35).toInt.toNat 0) 130 (v 106 35).toInt.toNat (vp_nar .boolean 1)) 106 35 (v 106 35 + 1))))) ∧ w = w' ∧ sg = sg')) 0 0 (gA G) := by
  refine gM_ofi (cc := cX10_tube) (maxL := 2) (by decide) rfl (Nat.le_of_ble_eq_true rfl) ?_
  intro p e R s m args below meth c Q ls C hR ret h hl
  have hx := C.1.1
  have hb := C.1.2.1
  have hown := C.1.2.2.2.1
  have hts := C.1.2.2.2.2
  have hl : lv_has ls 2 [(0, .ref (G.2.2 (106))), (1, .int (p1))] := hl
  have q1 := i_rng p1; rw [a1] at q1
  have z_m3 : ((-3) : Int32).toInt = (-3) := by decide
  have z_m1 : ((-1) : Int32).toInt = (-1) := by decide
  have z_0 : (0 : Int32).toInt = 0 := by decide
  have z_1 : (1 : Int32).toInt = 1 := by decide
  have z_10 : (10 : Int32).toInt = 10 := by decide
  have k126 : (Cond.constantLong RX10 126 (100)).before args s = true := hts _ (by decide +kernel)
  have f273 : Cond.fieldLink RX10 273 "WindHallModel" "tubes" "I" ∈ wsX10_tube := by decide +kernel
  have hi10 : ∀ x ∈ u_ws RX10 TX10 42, x ∈ wsX10_tube := fun x q => List.mem_cons_of_mem _ (List.mem_append_right _ q)
  have f92 : Cond.fieldLink RX10 92 "WindHallModel" "areas" "[I" ∈ wsX10_tube := by decide +kernel
  have f95 : Cond.fieldLink RX10 95 "WindHallModel" "pressures" "[I" ∈ wsX10_tube := by decide +kernel
  have f98 : Cond.fieldLink RX10 98 "WindHallModel" "isLost" "[Z" ∈ wsX10_tube := by decide +kernel
  have o_1 := mi
  obtain ⟨I7, I10, I18, I22, I27, I29, I32, Is, I35, Ia, Iar, Isz, Ian⟩ := o_1
  refine lv_iload_n hx hb dX10_tube_0 rfl (lv_at hl 1 rfl) ?_
  refine lv_i2l (v := (p1 : Int32).toInt64) hx hb dX10_tube_1 rfl ?_
  refine lv_lconst (v := 1) hx hb dX10_tube_2 (by decide) ?_
  refine lv_ldc2 hx hb hown k126 dX10_tube_3 ?_
  refine g_calli C (va_runS (As := [.long ((p1 : Int32).toInt64), .long (1), .long (100)]) (rest := []) C.1 (c_X10_in l G v w sg ((p1 : Int32).toInt64) (A0 := A1) (il_of a1) (1) (A2 := 1) (by decide) (100) (A4 := 100) (by decide)) (va_cwS 3 hts gX10_tube_X10_in rfl rfl rfl (by decide +kernel) ⟨by rw [hR]; exact Nat.le_of_ble_eq_true rfl, by rw [hR]; exact Nat.le_of_ble_eq_true rfl⟩) ⟨gPre_blind, gS_pre C h _⟩ rfl rfl hl.1 rfl (lv_room (Nat.le_of_ble_eq_true rfl)) dX10_tube_6 ⟨Nat.zero_le _, Nat.zero_le _⟩) h (fun r_2 v_4 w_5 g_6 H locs p_3 h => ?_)
  obtain ⟨p_3, rfl, rfl, rfl⟩ := p_3
  rcases p_3 with ⟨rfl, t_7⟩ | ⟨rfl, t_7⟩
  · skip
    refine lv_if_ne (tgt := 14) hx hb dX10_tube_9 (by decide) (fun _ => ?_) (fun c_8 => absurd c_8 (by decide))
    refine lv_aload_n hx hb dX10_tube_14 rfl (lv_at hl 0 rfl) ?_
    refine g_geti (ci := 10) (x := v 106 35) C h 106 (by decide) rfl rfl hi10 35 (by decide) f273 rfl rfl rfl dX10_tube_15 ?_
    refine lv_bipush (v := 10) hx hb dX10_tube_18 (by decide) ?_
    refine lv_icmp_ne (tgt := 26) hx hb dX10_tube_20 (by decide) (fun c_9 => ?_) (fun c_9 => ?_)
    · have j_10 : ¬ ((v 106 35).toInt = 10) := fun q => c_9 ((i_eq rfl (by decide)).mpr q)
      refine lv_aload_n hx hb dX10_tube_26 rfl (lv_at hl 0 rfl) ?_
      refine g_get (ci := 10) (x := .ref (G.2.2 (128))) C h 106 (by decide) rfl rfl hi10 36 (by decide) f92 rfl rfl dX10_tube_27 ?_
      refine lv_aload_n hx hb dX10_tube_30 rfl (lv_at hl 0 rfl) ?_
      refine g_geti (ci := 10) (x := v 106 35) C h 106 (by decide) rfl rfl hi10 35 (by decide) f273 rfl rfl rfl dX10_tube_31 ?_
      refine lv_iload_n hx hb dX10_tube_34 rfl (lv_at hl 1 rfl) ?_
      refine g_iast C h 128 (by decide) (by decide) (n := 10) (by decide) (vp_of rfl (by omega) (by omega)) dX10_tube_35 (fun H locs h => ?_)
      obtain ⟨v_11, hv_11⟩ : ∃ z, z = gu v 128 ((v 106 35 : Int32).toNatClampNeg) p1 := ⟨_, rfl⟩
      have h : gS (gA G) G s v_11 w sg H locs := by rw [hv_11]; exact h
      have u_12 : fM 128 131 35 36 v w v_11 w := by rw [hv_11]; exact (fM_v fM_rf (by decide))
      refine lv_aload_n hx hb dX10_tube_36 rfl (lv_at hl 0 rfl) ?_
      refine g_get (ci := 10) (x := .ref (G.2.2 (129))) C h 106 (by decide) rfl rfl hi10 37 (by decide) f95 rfl rfl dX10_tube_37 ?_
      refine lv_aload_n hx hb dX10_tube_40 rfl (lv_at hl 0 rfl) ?_
      refine g_geti (ci := 10) (x := v 106 35) C h 106 (by decide) rfl rfl hi10 35 (by decide) f273 rfl rfl (by rw [hv_11] <;> rfl) dX10_tube_41 ?_
      refine lv_iconst (v := 0) hx hb dX10_tube_44 (by decide) ?_
      refine g_iast C h 129 (by decide) (by decide) (n := 10) (by decide) (vp_of rfl (by omega) (by omega)) dX10_tube_45 (fun H locs h => ?_)
      obtain ⟨v_13, hv_13⟩ : ∃ z, z = gu v_11 129 ((v 106 35 : Int32).toNatClampNeg) 0 := ⟨_, rfl⟩
      have h : gS (gA G) G s v_13 w sg H locs := by rw [hv_13]; exact h
      have u_14 : fM 128 131 35 36 v w v_13 w := by rw [hv_13]; exact (fM_v u_12 (by decide))
      refine lv_aload_n hx hb dX10_tube_46 rfl (lv_at hl 0 rfl) ?_
      refine g_get (ci := 10) (x := .ref (G.2.2 (130))) C h 106 (by decide) rfl rfl hi10 38 (by decide) f98 rfl rfl dX10_tube_47 ?_
      refine lv_aload_n hx hb dX10_tube_50 rfl (lv_at hl 0 rfl) ?_
      refine g_geti (ci := 10) (x := v 106 35) C h 106 (by decide) rfl rfl hi10 35 (by decide) f273 rfl rfl (by rw [hv_13, hv_11] <;> rfl) dX10_tube_51 ?_
      refine lv_iconst (v := 1) hx hb dX10_tube_54 (by decide) ?_
      refine g_zast C h 130 (by decide) (by decide) (n := 10) (by decide) (vp_of rfl (by omega) (by omega)) dX10_tube_55 (fun H locs h => ?_)
      obtain ⟨v_15, hv_15⟩ : ∃ z, z = gu v_13 130 ((v 106 35 : Int32).toNatClampNeg) (vp_nar .boolean 1) := ⟨_, rfl⟩
      have h : gS (gA G) G s v_15 w sg H locs := by rw [hv_15]; exact h
      have u_16 : fM 128 131 35 36 v w v_15 w := by rw [hv_15]; exact (fM_v u_14 (by decide))
      refine lv_aload_n hx hb dX10_tube_56 rfl (lv_at hl 0 rfl) ?_
      refine lv_dup hx hb dX10_tube_57 rfl ?_
      refine g_geti (ci := 10) (x := v 106 35) C h 106 (by decide) rfl rfl hi10 35 (by decide) f273 rfl rfl (by rw [hv_15, hv_13, hv_11] <;> rfl) dX10_tube_58 ?_
      refine lv_iconst (v := 1) hx hb dX10_tube_61 (by decide) ?_
      refine lv_iadd hx hb dX10_tube_62 ?_
      refine lv_topi (fun x_17 e_18 => ?_)
      have i_19 : x_17.toInt = (v 106 35).toInt + 1 := ia_add e_18 rfl (by decide) (by omega) (by omega)
      refine g_put (ci := 10) (x := x_17) (ty := .int) C h 106 (by decide) rfl rfl hi10 tyX10 tyX10_ok nmX10 35 (by decide) f273 rfl rfl (by decide +kernel) rfl rfl (Nat.le_of_ble_eq_true rfl) rfl dX10_tube_63 (fun H locs h => ?_)
      obtain ⟨v_20, hv_20⟩ : ∃ z, z = gu v_15 106 35 x_17 := ⟨_, rfl⟩
      have h : gS (gA G) G s v_20 w sg H locs := by rw [hv_20]; exact h
      have u_21 : fM 128 131 35 36 v w v_20 w := by rw [hv_20]; exact (fM_f u_16 (by decide))
      refine lv_aload_n hx hb dX10_tube_66 rfl (lv_at hl 0 rfl) ?_
      refine g_geti (ci := 10) (x := x_17) C h 106 (by decide) rfl rfl hi10 35 (by decide) f273 rfl rfl (by rw [hv_20] <;> rfl) dX10_tube_67 ?_
      refine lv_iconst (v := 1) hx hb dX10_tube_70 (by decide) ?_
      refine lv_isub hx hb dX10_tube_71 ?_
      refine lv_topi (fun x_22 e_23 => ?_)
      exact ret x_22 v_20 w sg _ _ _ _ dX10_tube_72 h ⟨⟨(by rw [hv_20, hv_15, hv_13, hv_11]; exact ⟨I7, I10, I18, I22, I27, I29, I32, Is, (show 0 ≤ (x_17 : Int32).toInt ∧ (x_17 : Int32).toInt ≤ 10 by omega), Ia, (up_grow (p := fun z => 1 ≤ z.toInt ∧ z.toInt ≤ 100) (I' := (x_17 : Int32).toInt) Iar rfl (by omega) (by omega) (by omega)), Isz, Ian⟩), u_21, Or.inr (Or.inr (⟨(by omega), (by omega), (by subst_vars; rfl), (by rw [hv_20, hv_15, hv_13, hv_11] <;> exact (gu_cg (gu_cg (gu_cg (gu_cg rfl rfl ((cl_nat rfl).trans (by omega)) rfl) rfl ((cl_nat rfl).trans (by omega)) rfl) rfl ((cl_nat rfl).trans (by omega)) rfl) rfl rfl e_18))⟩))⟩, rfl, rfl⟩
    · have j_10 : (v 106 35).toInt = 10 := (i_eq rfl (by decide)).mp c_9
      refine lv_bipush (v := (-3)) hx hb dX10_tube_23 (by decide) ?_
      exact ret (-3) v w sg _ _ _ _ dX10_tube_25 h ⟨⟨mi, fM_rf, Or.inr (Or.inl ⟨(by omega), (by omega), rfl, rfl⟩)⟩, rfl, rfl⟩
  · skip
    refine lv_if_ne (tgt := 14) hx hb dX10_tube_9 (by decide) (fun c_24 => absurd (by decide) c_24) (fun _ => ?_)
    refine lv_iconst (v := (-1)) hx hb dX10_tube_12 (by decide) ?_
    exact ret (-1) v w sg _ _ _ _ dX10_tube_13 h ⟨⟨mi, fM_rf, Or.inl ⟨(by omega), rfl, rfl⟩⟩, rfl, rfl⟩

set_option maxHeartbeats 4000000 in
set_option maxRecDepth 100000 in
theorem c_X10_press (l : Launch) (G : gG) (v : Nat → Nat → Int32) (w : Nat → Nat → Int64) (sg : Nat → Nat) (p1 : Int32) {A1 : Int} (a1 : p1.toInt = A1) (p2 : Int32) {A2 : Int} (a2 : p2.toInt = A2) (p3 : Int32) {A3 : Int} (a3 : p3.toInt = A3) (mi : mI v) : Met l yX10_press wsX10_press ({ frames := 1, cells := 0, slots := 0, locals := 25 }) (gPre G v w sg [.ref (G.2.2 (106)), .int (p1), .int (p2), .int (p3)]) (gQi G (fun r v' w' sg' => (mI v' ∧ fM 128 131 35 36 v w v' w ∧ ((¬ rF29 A1 A2 A3 (v 106 35).toInt ∧ r = -1 ∧ v' = v) ∨ (rF29 A1 A2 A3 (v 106 35).toInt ∧ r = 1 ∧ v' = (gu (gu v 130 A1.toNat (vp_nar .boolean p2)) 129 A1.toNat (prS A2 p3))))) ∧ w = w' ∧ sg = sg')) 0 0 (gA G) := by
  refine gM_ofi (cc := cX10_press) (maxL := 4) (by decide) rfl (Nat.le_of_ble_eq_true rfl) ?_
  intro p e R s m args below meth c Q ls C hR ret h hl
  have hx := C.1.1
  have hb := C.1.2.1
  have hown := C.1.2.2.2.1
  have hts := C.1.2.2.2.2
  have hl : lv_has ls 4 [(0, .ref (G.2.2 (106))), (1, .int (p1)), (2, .int (p2)), (3, .int (p3))] := hl
  have q1 := i_rng p1; rw [a1] at q1
  have q2 := i_rng p2; rw [a2] at q2
  have q3 := i_rng p3; rw [a3] at q3
  have z_m1 : ((-1) : Int32).toInt = (-1) := by decide
  have z_0 : (0 : Int32).toInt = 0 := by decide
  have z_1 : (1 : Int32).toInt = 1 := by decide
  have f273 : Cond.fieldLink RX10 273 "WindHallModel" "tubes" "I" ∈ wsX10_press := by decide +kernel
  have hi10 : ∀ x ∈ u_ws RX10 TX10 42, x ∈ wsX10_press := fun x q => List.mem_cons_of_mem _ (List.mem_append_right _ q)
  have f98 : Cond.fieldLink RX10 98 "WindHallModel" "isLost" "[Z" ∈ wsX10_press := by decide +kernel
  have f95 : Cond.fieldLink RX10 95 "WindHallModel" "pressures" "[I" ∈ wsX10_press := by decide +kernel
  have k276 : (Cond.constantLong RX10 276 (-1000)).before args s = true := hts _ (by decide +kernel)
  have k194 : (Cond.constantLong RX10 194 (1000)).before args s = true := hts _ (by decide +kernel)
  have o_1 := mi
  obtain ⟨I7, I10, I18, I22, I27, I29, I32, Is, I35, Ia, Iar, Isz, Ian⟩ := o_1
  refine lv_iload_n hx hb dX10_press_0 rfl (lv_at hl 1 rfl) ?_
  refine lv_i2l (v := (p1 : Int32).toInt64) hx hb dX10_press_1 rfl ?_
  refine lv_lconst (v := 0) hx hb dX10_press_2 (by decide) ?_
  refine lv_aload_n hx hb dX10_press_3 rfl (lv_at hl 0 rfl) ?_
  refine g_geti (ci := 10) (x := v 106 35) C h 106 (by decide) rfl rfl hi10 35 (by decide) f273 rfl rfl rfl dX10_press_4 ?_
  refine lv_iconst (v := 1) hx hb dX10_press_7 (by decide) ?_
  refine lv_isub hx hb dX10_press_8 ?_
  refine lv_topi (fun x_2 e_3 => ?_)
  have i_4 : x_2.toInt = (v 106 35).toInt - 1 := ia_sub e_3 rfl (by decide) (by omega) (by omega)
  refine lv_i2l (v := (x_2 : Int32).toInt64) hx hb dX10_press_9 rfl ?_
  refine g_calli C (va_runS (As := [.long ((p1 : Int32).toInt64), .long (0), .long ((x_2 : Int32).toInt64)]) (rest := []) C.1 (c_X10_in l G v w sg ((p1 : Int32).toInt64) (A0 := A1) (il_of a1) (0) (A2 := 0) (by decide) ((x_2 : Int32).toInt64) (A4 := ((v 106 35).toInt - 1)) (il_of i_4)) (va_cwS 3 hts gX10_press_X10_in rfl rfl rfl (by decide +kernel) ⟨by rw [hR]; exact Nat.le_of_ble_eq_true rfl, by rw [hR]; exact Nat.le_of_ble_eq_true rfl⟩) ⟨gPre_blind, gS_pre C h _⟩ rfl rfl hl.1 rfl (lv_room (Nat.le_of_ble_eq_true rfl)) dX10_press_10 ⟨Nat.zero_le _, Nat.zero_le _⟩) h (fun r_5 v_7 w_8 g_9 H locs p_6 h => ?_)
  obtain ⟨p_6, rfl, rfl, rfl⟩ := p_6
  rcases p_6 with ⟨rfl, t_10⟩ | ⟨rfl, t_10⟩
  · skip
    refine lv_if_eq (tgt := 34) hx hb dX10_press_13 (by decide) (fun c_11 => absurd c_11 (by decide)) (fun _ => ?_)
    refine lv_iload_n hx hb dX10_press_16 rfl (lv_at hl 2 rfl) ?_
    have J36_11 : ∀ (H : Heap) (locs : List Loc) (ls : Array Slot), (A2 ≠ 0 ∨ (-1000 ≤ A3 ∧ A3 ≤ 1000)) → gS (gA G) G s v w sg H locs → lv_has ls 4 [(0, .ref (G.2.2 (106))), (1, .int (p1)), (2, .int (p2)), (3, .int (p3))] → W p l e R s m args below meth c H locs 0 0 Q (F0 m 36 ls []) := by
      intro  H locs ls f_12 h hl
      refine lv_aload_n hx hb dX10_press_36 rfl (lv_at hl 0 rfl) ?_
      refine g_get (ci := 10) (x := .ref (G.2.2 (130))) C h 106 (by decide) rfl rfl hi10 38 (by decide) f98 rfl rfl dX10_press_37 ?_
      refine lv_iload_n hx hb dX10_press_40 rfl (lv_at hl 1 rfl) ?_
      refine lv_iload_n hx hb dX10_press_41 rfl (lv_at hl 2 rfl) ?_
      refine g_zast C h 130 (by decide) (by decide) (n := 10) (by decide) (vp_of a1 (by omega) (by omega)) dX10_press_42 (fun H locs h => ?_)
      obtain ⟨v_13, hv_13⟩ : ∃ z, z = gu v 130 ((p1 : Int32).toNatClampNeg) (vp_nar .boolean p2) := ⟨_, rfl⟩
      have h : gS (gA G) G s v_13 w sg H locs := by rw [hv_13]; exact h
      have u_14 : mI v_13 := by rw [hv_13]; exact mi
      have u_15 : fM 128 131 35 36 v w v_13 w := by rw [hv_13]; exact (fM_v fM_rf (by decide))
      refine lv_aload_n hx hb dX10_press_43 rfl (lv_at hl 0 rfl) ?_
      refine g_get (ci := 10) (x := .ref (G.2.2 (129))) C h 106 (by decide) rfl rfl hi10 37 (by decide) f95 rfl rfl dX10_press_44 ?_
      refine lv_iload_n hx hb dX10_press_47 rfl (lv_at hl 1 rfl) ?_
      refine lv_iload_n hx hb dX10_press_48 rfl (lv_at hl 2 rfl) ?_
      have J57_16 : ∀ (y_16 : Int32) (H : Heap) (locs : List Loc) (ls : Array Slot), (y_16 = prS A2 p3) → gS (gA G) G s v_13 w sg H locs → lv_has ls 4 [(0, .ref (G.2.2 (106))), (1, .int (p1)), (2, .int (p2)), (3, .int (p3))] → W p l e R s m args below meth c H locs 0 0 Q (F0 m 57 ls [.int (y_16), .int (p1), .ref (G.2.2 (129))]) := by
        intro y_16 H locs ls f_17 h hl
        refine g_iast C h 129 (by decide) (by decide) (n := 10) (by decide) (vp_of a1 (by omega) (by omega)) dX10_press_57 (fun H locs h => ?_)
        obtain ⟨v_18, hv_18⟩ : ∃ z, z = gu v_13 129 ((p1 : Int32).toNatClampNeg) y_16 := ⟨_, rfl⟩
        have h : gS (gA G) G s v_18 w sg H locs := by rw [hv_18]; exact h
        have u_19 : mI v_18 := by rw [hv_18]; exact u_14
        have u_20 : fM 128 131 35 36 v w v_18 w := by rw [hv_18]; exact (fM_v u_15 (by decide))
        refine lv_iconst (v := 1) hx hb dX10_press_58 (by decide) ?_
        exact ret 1 v_18 w sg _ _ _ _ dX10_press_59 h ⟨⟨u_19, u_20, Or.inr (⟨(by unfold rF29; omega), rfl, (by rw [hv_18, hv_13] <;> exact (gu_cg (gu_cg rfl rfl ((cl_nat a1).trans (by omega)) rfl) rfl ((cl_nat a1).trans (by omega)) (by subst_vars; rfl)))⟩)⟩, rfl, rfl⟩
      refine lv_if_eq (tgt := 56) hx hb dX10_press_49 (by decide) (fun c_21 => ?_) (fun c_21 => ?_)
      · have j_22 : A2 = 0 := (i_eq a2 (by decide)).mp c_21
        refine lv_iload_n hx hb dX10_press_56 rfl (lv_at hl 3 rfl) ?_
        exact J57_16 p3 _ _ _ (by unfold prS; split <;> first | rfl | omega) h (lv_sub hl [0, 1, 2, 3] rfl)
      · have j_22 : ¬ (A2 = 0) := fun q => c_21 ((i_eq a2 (by decide)).mpr q)
        refine lv_iconst (v := 0) hx hb dX10_press_52 (by decide) ?_
        refine lv_goto (tgt := 57) hx hb dX10_press_53 (by decide) ?_
        exact J57_16 0 _ _ _ (by unfold prS; split <;> first | rfl | omega) h (lv_sub hl [0, 1, 2, 3] rfl)
    refine lv_if_ne (tgt := 36) hx hb dX10_press_17 (by decide) (fun c_23 => ?_) (fun c_23 => ?_)
    · have j_24 : ¬ (A2 = 0) := fun q => c_23 ((i_eq a2 (by decide)).mpr q)
      exact J36_11  _ _ _ (by omega) h (lv_sub hl [0, 1, 2, 3] rfl)
    · have j_24 : A2 = 0 := (i_eq a2 (by decide)).mp c_23
      refine lv_iload_n hx hb dX10_press_20 rfl (lv_at hl 3 rfl) ?_
      refine lv_i2l (v := (p3 : Int32).toInt64) hx hb dX10_press_21 rfl ?_
      refine lv_ldc2 hx hb hown k276 dX10_press_22 ?_
      refine lv_ldc2 hx hb hown k194 dX10_press_25 ?_
      refine g_calli C (va_runS (As := [.long ((p3 : Int32).toInt64), .long ((-1000)), .long (1000)]) (rest := []) C.1 (c_X10_in l G v w sg ((p3 : Int32).toInt64) (A0 := A3) (il_of a3) ((-1000)) (A2 := (-1000)) (by decide) (1000) (A4 := 1000) (by decide)) (va_cwS 3 hts gX10_press_X10_in rfl rfl rfl (by decide +kernel) ⟨by rw [hR]; exact Nat.le_of_ble_eq_true rfl, by rw [hR]; exact Nat.le_of_ble_eq_true rfl⟩) ⟨gPre_blind, gS_pre C h _⟩ rfl rfl hl.1 rfl (lv_room (Nat.le_of_ble_eq_true rfl)) dX10_press_28 ⟨Nat.zero_le _, Nat.zero_le _⟩) h (fun r_25 v_27 w_28 g_29 H locs p_26 h => ?_)
      obtain ⟨p_26, rfl, rfl, rfl⟩ := p_26
      rcases p_26 with ⟨rfl, t_30⟩ | ⟨rfl, t_30⟩
      · skip
        refine lv_if_ne (tgt := 36) hx hb dX10_press_31 (by decide) (fun _ => ?_) (fun c_31 => absurd c_31 (by decide))
        exact J36_11  _ _ _ (by omega) h (lv_sub hl [0, 1, 2, 3] rfl)
      · skip
        refine lv_if_ne (tgt := 36) hx hb dX10_press_31 (by decide) (fun c_32 => absurd (by decide) c_32) (fun _ => ?_)
        refine lv_iconst (v := (-1)) hx hb dX10_press_34 (by decide) ?_
        exact ret (-1) v w sg _ _ _ _ dX10_press_35 h ⟨⟨mi, fM_rf, Or.inl ⟨(by unfold rF29; omega), rfl, rfl⟩⟩, rfl, rfl⟩
  · skip
    refine lv_if_eq (tgt := 34) hx hb dX10_press_13 (by decide) (fun _ => ?_) (fun c_33 => absurd (by decide) c_33)
    refine lv_iconst (v := (-1)) hx hb dX10_press_34 (by decide) ?_
    exact ret (-1) v w sg _ _ _ _ dX10_press_35 h ⟨⟨mi, fM_rf, Or.inl ⟨(by unfold rF29; omega), rfl, rfl⟩⟩, rfl, rfl⟩

set_option maxHeartbeats 4000000 in
set_option maxRecDepth 100000 in
theorem c_X10_sheet (l : Launch) (G : gG) (v : Nat → Nat → Int32) (w : Nat → Nat → Int64) (sg : Nat → Nat) (p1 : Int32) {A1 : Int} (a1 : p1.toInt = A1) (p2 : Int32) {A2 : Int} (a2 : p2.toInt = A2) (p3 : Int32) {A3 : Int} (a3 : p3.toInt = A3) (mi : mI v) : Met l yX10_sheet wsX10_sheet ({ frames := 1, cells := 0, slots := 0, locals := 25 }) (gPre G v w sg [.ref (G.2.2 (106)), .int (p1), .int (p2), .int (p3)]) (gQi G (fun r v' w' sg' => (mI v' ∧ fM 131 134 0 0 v w v' w ∧ ((¬ rF30 A1 A2 A3 ∧ r = -1 ∧ v' = v) ∨ (rF30 A1 A2 A3 ∧ A3 < 0 ∧ r = -14 ∧ v' = v) ∨ (rF30 A1 A2 A3 ∧ 0 ≤ A3 ∧ r = 1 ∧ v' = va_up (gu (gu v 131 A1.toNat p2) 132 A1.toNat p3) 133 (flR (fun _ => 0) (v 133) (60 * A1) (60 * A1 + 60))))) ∧ w = w' ∧ sg = sg')) 0 0 (gA G) := by
  refine gM_ofi (cc := cX10_sheet) (maxL := 5) (by decide) rfl (Nat.le_of_ble_eq_true rfl) ?_
  intro p e R s m args below meth c Q ls C hR ret h hl
  have hx := C.1.1
  have hb := C.1.2.1
  have hown := C.1.2.2.2.1
  have hts := C.1.2.2.2.2
  have hl : lv_has ls 5 [(0, .ref (G.2.2 (106))), (1, .int (p1)), (2, .int (p2)), (3, .int (p3))] := hl
  have q1 := i_rng p1; rw [a1] at q1
  have q2 := i_rng p2; rw [a2] at q2
  have q3 := i_rng p3; rw [a3] at q3
  have z_m14 : ((-14) : Int32).toInt = (-14) := by decide
  have z_m1 : ((-1) : Int32).toInt = (-1) := by decide
  have z_0 : (0 : Int32).toInt = 0 := by decide
  have z_1 : (1 : Int32).toInt = 1 := by decide
  have z_60 : (60 : Int32).toInt = 60 := by decide
  have k271 : (Cond.constantLong RX10 271 (3)).before args s = true := hts _ (by decide +kernel)
  have k122 : (Cond.constantLong RX10 122 (2)).before args s = true := hts _ (by decide +kernel)
  have f101 : Cond.fieldLink RX10 101 "WindHallModel" "lanes" "[I" ∈ wsX10_sheet := by decide +kernel
  have hi10 : ∀ x ∈ u_ws RX10 TX10 42, x ∈ wsX10_sheet := fun x q => List.mem_cons_of_mem _ (List.mem_append_right _ q)
  have f104 : Cond.fieldLink RX10 104 "WindHallModel" "sizes" "[I" ∈ wsX10_sheet := by decide +kernel
  have f107 : Cond.fieldLink RX10 107 "WindHallModel" "cells" "[I" ∈ wsX10_sheet := by decide +kernel
  have o_1 := mi
  obtain ⟨I7, I10, I18, I22, I27, I29, I32, Is, I35, Ia, Iar, Isz, Ian⟩ := o_1
  refine lv_iload_n hx hb dX10_sheet_0 rfl (lv_at hl 1 rfl) ?_
  refine lv_i2l (v := (p1 : Int32).toInt64) hx hb dX10_sheet_1 rfl ?_
  refine lv_lconst (v := 0) hx hb dX10_sheet_2 (by decide) ?_
  refine lv_ldc2 hx hb hown k271 dX10_sheet_3 ?_
  refine g_calli C (va_runS (As := [.long ((p1 : Int32).toInt64), .long (0), .long (3)]) (rest := []) C.1 (c_X10_in l G v w sg ((p1 : Int32).toInt64) (A0 := A1) (il_of a1) (0) (A2 := 0) (by decide) (3) (A4 := 3) (by decide)) (va_cwS 3 hts gX10_sheet_X10_in rfl rfl rfl (by decide +kernel) ⟨by rw [hR]; exact Nat.le_of_ble_eq_true rfl, by rw [hR]; exact Nat.le_of_ble_eq_true rfl⟩) ⟨gPre_blind, gS_pre C h _⟩ rfl rfl hl.1 rfl (lv_room (Nat.le_of_ble_eq_true rfl)) dX10_sheet_6 ⟨Nat.zero_le _, Nat.zero_le _⟩) h (fun r_2 v_4 w_5 g_6 H locs p_3 h => ?_)
  obtain ⟨p_3, rfl, rfl, rfl⟩ := p_3
  rcases p_3 with ⟨rfl, t_7⟩ | ⟨rfl, t_7⟩
  · skip
    refine lv_if_eq (tgt := 30) hx hb dX10_sheet_9 (by decide) (fun c_8 => absurd c_8 (by decide)) (fun _ => ?_)
    refine lv_iload_n hx hb dX10_sheet_12 rfl (lv_at hl 2 rfl) ?_
    refine lv_i2l (v := (p2 : Int32).toInt64) hx hb dX10_sheet_13 rfl ?_
    refine lv_lconst (v := 0) hx hb dX10_sheet_14 (by decide) ?_
    refine lv_ldc2 hx hb hown k122 dX10_sheet_15 ?_
    refine g_calli C (va_runS (As := [.long ((p2 : Int32).toInt64), .long (0), .long (2)]) (rest := []) C.1 (c_X10_in l G v w sg ((p2 : Int32).toInt64) (A0 := A2) (il_of a2) (0) (A2 := 0) (by decide) (2) (A4 := 2) (by decide)) (va_cwS 3 hts gX10_sheet_X10_in rfl rfl rfl (by decide +kernel) ⟨by rw [hR]; exact Nat.le_of_ble_eq_true rfl, by rw [hR]; exact Nat.le_of_ble_eq_true rfl⟩) ⟨gPre_blind, gS_pre C h _⟩ rfl rfl hl.1 rfl (lv_room (Nat.le_of_ble_eq_true rfl)) dX10_sheet_18 ⟨Nat.zero_le _, Nat.zero_le _⟩) h (fun r_9 v_11 w_12 g_13 H locs p_10 h => ?_)
    obtain ⟨p_10, rfl, rfl, rfl⟩ := p_10
    rcases p_10 with ⟨rfl, t_14⟩ | ⟨rfl, t_14⟩
    · skip
      refine lv_if_eq (tgt := 30) hx hb dX10_sheet_21 (by decide) (fun c_15 => absurd c_15 (by decide)) (fun _ => ?_)
      refine lv_iload_n hx hb dX10_sheet_24 rfl (lv_at hl 3 rfl) ?_
      refine lv_bipush (v := 60) hx hb dX10_sheet_25 (by decide) ?_
      refine lv_icmp_le (tgt := 32) hx hb dX10_sheet_27 (by decide) (fun c_16 => ?_) (fun c_16 => ?_)
      · have j_17 : A3 ≤ 60 := (i_le a3 (by decide)).mp c_16
        refine lv_iload_n hx hb dX10_sheet_32 rfl (lv_at hl 3 rfl) ?_
        refine lv_if_ge (tgt := 39) hx hb dX10_sheet_33 (by decide) (fun c_18 => ?_) (fun c_18 => ?_)
        · have j_19 : 0 ≤ A3 := (i_le (by decide) a3).mp c_18
          refine lv_aload_n hx hb dX10_sheet_39 rfl (lv_at hl 0 rfl) ?_
          refine g_get (ci := 10) (x := .ref (G.2.2 (131))) C h 106 (by decide) rfl rfl hi10 39 (by decide) f101 rfl rfl dX10_sheet_40 ?_
          refine lv_iload_n hx hb dX10_sheet_43 rfl (lv_at hl 1 rfl) ?_
          refine lv_iload_n hx hb dX10_sheet_44 rfl (lv_at hl 2 rfl) ?_
          refine g_iast C h 131 (by decide) (by decide) (n := 4) (by decide) (vp_of a1 (by omega) (by omega)) dX10_sheet_45 (fun H locs h => ?_)
          obtain ⟨v_20, hv_20⟩ : ∃ z, z = gu v 131 ((p1 : Int32).toNatClampNeg) p2 := ⟨_, rfl⟩
          have h : gS (gA G) G s v_20 w sg H locs := by rw [hv_20]; exact h
          have u_21 : mI v_20 := by rw [hv_20]; exact mi
          have u_22 : fM 131 134 0 0 v w v_20 w := by rw [hv_20]; exact (fM_v fM_rf (by decide))
          refine lv_aload_n hx hb dX10_sheet_46 rfl (lv_at hl 0 rfl) ?_
          refine g_get (ci := 10) (x := .ref (G.2.2 (132))) C h 106 (by decide) rfl rfl hi10 40 (by decide) f104 rfl rfl dX10_sheet_47 ?_
          refine lv_iload_n hx hb dX10_sheet_50 rfl (lv_at hl 1 rfl) ?_
          refine lv_iload_n hx hb dX10_sheet_51 rfl (lv_at hl 3 rfl) ?_
          refine g_iast C h 132 (by decide) (by decide) (n := 4) (by decide) (vp_of a1 (by omega) (by omega)) dX10_sheet_52 (fun H locs h => ?_)
          obtain ⟨v_23, hv_23⟩ : ∃ z, z = gu v_20 132 ((p1 : Int32).toNatClampNeg) p3 := ⟨_, rfl⟩
          have h : gS (gA G) G s v_23 w sg H locs := by rw [hv_23]; exact h
          have u_24 : fM 131 134 0 0 v w v_23 w := by rw [hv_23]; exact (fM_v u_22 (by decide))
          refine lv_iconst (v := 0) hx hb dX10_sheet_53 (by decide) ?_
          have J56_26 : ∀ (n : Nat) (y_25 : Int32) (v_26 : Nat → Nat → Int32) (H : Heap) (locs : List Loc) (ls : Array Slot), (60 - (y_25).toInt).toNat < n → (mI v_26) → (fM 131 134 0 0 v w v_26 w) → (0 ≤ (y_25).toInt ∧ (y_25).toInt ≤ 60) → (v_26 = va_up v_23 133 (flR (fun _ => 0) (v_23 133) (60 * A1) (60 * A1 + (y_25).toInt))) → gS (gA G) G s v_26 w sg H locs → lv_has ls 5 [(0, .ref (G.2.2 (106))), (1, .int (p1)), (2, .int (p2)), (3, .int (p3)), (4, .int (y_25))] → W p l e R s m args below meth c H locs 0 0 Q (F0 m 56 ls []) := by
            intro n
            induction n with
            | zero => intro y_25 v_26 H locs ls hm; exact absurd hm (Nat.not_lt_zero _)
            | succ n ih56 =>
              intro y_25 v_26 H locs ls hm u_27 u_28 f_29 f_30 h hl
              have o_31 := u_27
              obtain ⟨I7, I10, I18, I22, I27, I29, I32, Is, I35, Ia, Iar, Isz, Ian⟩ := o_31
              refine lv_iload hx hb dX10_sheet_56 (lv_at hl 4 rfl) ?_
              refine lv_bipush (v := 60) hx hb dX10_sheet_58 (by decide) ?_
              refine lv_icmp_ge (tgt := 82) hx hb dX10_sheet_60 (by decide) (fun c_32 => ?_) (fun c_32 => ?_)
              · have j_33 : 60 ≤ (y_25).toInt := (i_le (by decide) rfl).mp c_32
                refine lv_iconst (v := 1) hx hb dX10_sheet_82 (by decide) ?_
                exact ret 1 v_26 w sg _ _ _ _ dX10_sheet_83 h ⟨⟨u_27, u_28, Or.inr (Or.inr (⟨(by unfold rF30; omega), (by omega), rfl, (f_30.trans (shx_m hv_23 hv_20 a1 a1 (by omega) (by omega)))⟩))⟩, rfl, rfl⟩
              · have j_33 : ¬ (60 ≤ (y_25).toInt) := fun q => c_32 ((i_le (by decide) rfl).mpr q)
                refine lv_aload_n hx hb dX10_sheet_63 rfl (lv_at hl 0 rfl) ?_
                refine g_get (ci := 10) (x := .ref (G.2.2 (133))) C h 106 (by decide) rfl rfl hi10 41 (by decide) f107 rfl rfl dX10_sheet_64 ?_
                refine lv_bipush (v := 60) hx hb dX10_sheet_67 (by decide) ?_
                refine lv_iload_n hx hb dX10_sheet_69 rfl (lv_at hl 1 rfl) ?_
                refine lv_imul hx hb dX10_sheet_70 ?_
                refine lv_topi (fun x_34 e_35 => ?_)
                have i_36 : x_34.toInt = 60 * A1 := ia_mul e_35 (by decide) a1 (by omega) (by omega)
                refine lv_iload hx hb dX10_sheet_71 (lv_at hl 4 rfl) ?_
                refine lv_iadd hx hb dX10_sheet_73 ?_
                refine lv_topi (fun x_37 e_38 => ?_)
                have i_39 : x_37.toInt = (60 * A1) + (y_25).toInt := ia_add e_38 i_36 rfl (by omega) (by omega)
                refine lv_iconst (v := 0) hx hb dX10_sheet_74 (by decide) ?_
                refine g_iast C h 133 (by decide) (by decide) (n := 240) (by decide) (vp_of i_39 (by omega) (by omega)) dX10_sheet_75 (fun H locs h => ?_)
                obtain ⟨v_40, hv_40⟩ : ∃ z, z = gu v_26 133 ((x_37 : Int32).toNatClampNeg) 0 := ⟨_, rfl⟩
                have h : gS (gA G) G s v_40 w sg H locs := by rw [hv_40]; exact h
                have u_41 : mI v_40 := by rw [hv_40]; exact u_27
                have u_42 : fM 131 134 0 0 v w v_40 w := by rw [hv_40]; exact (fM_v u_28 (by decide))
                obtain ⟨x_43, e_44⟩ : ∃ y : Int32, y = y_25 + 1 := ⟨_, rfl⟩
                have i_45 : x_43.toInt = (y_25).toInt + 1 := ia_add e_44 rfl (by decide) (by omega) (by omega)
                refine lv_iinc (v := x_43) (lv' := [(4, .int (x_43)), (0, .ref (G.2.2 (106))), (1, .int (p1)), (2, .int (p2)), (3, .int (p3))]) hx hb dX10_sheet_76 hl (k := 4) rfl (by rw [e_44]; rfl) (by decide) rfl (fun ls hl => ?_)
                refine lv_goto (tgt := 56) hx hb dX10_sheet_79 (by decide) ?_
                exact ih56 x_43 v_40 _ _ _ (by omega) u_41 u_42 (by omega) (hv_40.trans (rr_st f_30 i_39 (by omega) (by omega) rfl (by omega))) h (lv_sub hl [1, 2, 3, 4, 0] rfl)
          refine lv_istore (lv' := [(4, .int (0)), (0, .ref (G.2.2 (106))), (1, .int (p1)), (2, .int (p2)), (3, .int (p3))]) hx hb dX10_sheet_54 hl (by decide) rfl (fun ls hl => ?_)
          exact J56_26 _ 0 v_23 _ _ _ (Nat.lt_succ_self _) (by rw [hv_23, hv_20]; exact ⟨I7, I10, I18, I22, I27, I29, I32, Is, I35, Ia, Iar, (up_all (p := fun _ z => 0 ≤ z.toInt ∧ z.toInt ≤ 60) Isz (by omega)), Ian⟩) u_24 (by omega) (fl_e (by omega)) h (lv_sub hl [1, 2, 3, 4, 0] rfl)
        · have j_19 : ¬ (0 ≤ A3) := fun q => c_18 ((i_le (by decide) a3).mpr q)
          refine lv_bipush (v := (-14)) hx hb dX10_sheet_36 (by decide) ?_
          exact ret (-14) v w sg _ _ _ _ dX10_sheet_38 h ⟨⟨mi, fM_rf, Or.inr (Or.inl ⟨(by unfold rF30; omega), (by omega), rfl, rfl⟩)⟩, rfl, rfl⟩
      · have j_17 : ¬ (A3 ≤ 60) := fun q => c_16 ((i_le a3 (by decide)).mpr q)
        refine lv_iconst (v := (-1)) hx hb dX10_sheet_30 (by decide) ?_
        exact ret (-1) v w sg _ _ _ _ dX10_sheet_31 h ⟨⟨mi, fM_rf, Or.inl ⟨(by unfold rF30; omega), rfl, rfl⟩⟩, rfl, rfl⟩
    · skip
      refine lv_if_eq (tgt := 30) hx hb dX10_sheet_21 (by decide) (fun _ => ?_) (fun c_46 => absurd (by decide) c_46)
      refine lv_iconst (v := (-1)) hx hb dX10_sheet_30 (by decide) ?_
      exact ret (-1) v w sg _ _ _ _ dX10_sheet_31 h ⟨⟨mi, fM_rf, Or.inl ⟨(by unfold rF30; omega), rfl, rfl⟩⟩, rfl, rfl⟩
  · skip
    refine lv_if_eq (tgt := 30) hx hb dX10_sheet_9 (by decide) (fun _ => ?_) (fun c_47 => absurd (by decide) c_47)
    refine lv_iconst (v := (-1)) hx hb dX10_sheet_30 (by decide) ?_
    exact ret (-1) v w sg _ _ _ _ dX10_sheet_31 h ⟨⟨mi, fM_rf, Or.inl ⟨(by unfold rF30; omega), rfl, rfl⟩⟩, rfl, rfl⟩

set_option maxHeartbeats 4000000 in
set_option maxRecDepth 100000 in
theorem c_X10_lay (l : Launch) (G : gG) (v : Nat → Nat → Int32) (w : Nat → Nat → Int64) (sg : Nat → Nat) (p1 : Int32) {A1 : Int} (a1 : p1.toInt = A1) (p2 : Int32) {A2 : Int} (a2 : p2.toInt = A2) (p3 : Int32) {A3 : Int} (a3 : p3.toInt = A3) (mi : mI v) : Met l yX10_lay wsX10_lay ({ frames := 1, cells := 0, slots := 0, locals := 25 }) (gPre G v w sg [.ref (G.2.2 (106)), .int (p1), .int (p2), .int (p3)]) (gQi G (fun r v' w' sg' => (mI v' ∧ fM 131 134 0 0 v w v' w ∧ ((¬ (0 ≤ A1 ∧ A1 ≤ 3) ∧ r = -1 ∧ v' = v) ∨ ((0 ≤ A1 ∧ A1 ≤ 3) ∧ (v 131 A1.toNat).toInt = -4 ∧ r = -11 ∧ v' = v) ∨ ((0 ≤ A1 ∧ A1 ≤ 3) ∧ (v 131 A1.toNat).toInt ≠ -4 ∧ ¬ (0 ≤ A2 ∧ A2 ≤ (v 132 A1.toNat).toInt - 1) ∧ r = -12 ∧ v' = v) ∨ ((0 ≤ A1 ∧ A1 ≤ 3) ∧ (v 131 A1.toNat).toInt ≠ -4 ∧ (0 ≤ A2 ∧ A2 ≤ (v 132 A1.toNat).toInt - 1) ∧ r = 1 ∧ v' = (gu v 133 (60 * A1 + A2).toNat (cvt (v 131 A1.toNat).toInt p3))))) ∧ w = w' ∧ sg = sg')) 0 0 (gA G) := by
  refine gM_ofi (cc := cX10_lay) (maxL := 4) (by decide) rfl (Nat.le_of_ble_eq_true rfl) ?_
  intro p e R s m args below meth c Q ls C hR ret h hl
  have hx := C.1.1
  have hb := C.1.2.1
  have hown := C.1.2.2.2.1
  have hts := C.1.2.2.2.2
  have hl : lv_has ls 4 [(0, .ref (G.2.2 (106))), (1, .int (p1)), (2, .int (p2)), (3, .int (p3))] := hl
  have q1 := i_rng p1; rw [a1] at q1
  have q2 := i_rng p2; rw [a2] at q2
  have q3 := i_rng p3; rw [a3] at q3
  have z_m12 : ((-12) : Int32).toInt = (-12) := by decide
  have z_m11 : ((-11) : Int32).toInt = (-11) := by decide
  have z_m4 : ((-4) : Int32).toInt = (-4) := by decide
  have z_m1 : ((-1) : Int32).toInt = (-1) := by decide
  have z_0 : (0 : Int32).toInt = 0 := by decide
  have z_1 : (1 : Int32).toInt = 1 := by decide
  have z_60 : (60 : Int32).toInt = 60 := by decide
  have k271 : (Cond.constantLong RX10 271 (3)).before args s = true := hts _ (by decide +kernel)
  have f101 : Cond.fieldLink RX10 101 "WindHallModel" "lanes" "[I" ∈ wsX10_lay := by decide +kernel
  have hi10 : ∀ x ∈ u_ws RX10 TX10 42, x ∈ wsX10_lay := fun x q => List.mem_cons_of_mem _ (List.mem_append_right _ q)
  have f104 : Cond.fieldLink RX10 104 "WindHallModel" "sizes" "[I" ∈ wsX10_lay := by decide +kernel
  have f107 : Cond.fieldLink RX10 107 "WindHallModel" "cells" "[I" ∈ wsX10_lay := by decide +kernel
  have o_1 := mi
  obtain ⟨I7, I10, I18, I22, I27, I29, I32, Is, I35, Ia, Iar, Isz, Ian⟩ := o_1
  refine lv_iload_n hx hb dX10_lay_0 rfl (lv_at hl 1 rfl) ?_
  refine lv_i2l (v := (p1 : Int32).toInt64) hx hb dX10_lay_1 rfl ?_
  refine lv_lconst (v := 0) hx hb dX10_lay_2 (by decide) ?_
  refine lv_ldc2 hx hb hown k271 dX10_lay_3 ?_
  refine g_calli C (va_runS (As := [.long ((p1 : Int32).toInt64), .long (0), .long (3)]) (rest := []) C.1 (c_X10_in l G v w sg ((p1 : Int32).toInt64) (A0 := A1) (il_of a1) (0) (A2 := 0) (by decide) (3) (A4 := 3) (by decide)) (va_cwS 3 hts gX10_lay_X10_in rfl rfl rfl (by decide +kernel) ⟨by rw [hR]; exact Nat.le_of_ble_eq_true rfl, by rw [hR]; exact Nat.le_of_ble_eq_true rfl⟩) ⟨gPre_blind, gS_pre C h _⟩ rfl rfl hl.1 rfl (lv_room (Nat.le_of_ble_eq_true rfl)) dX10_lay_6 ⟨Nat.zero_le _, Nat.zero_le _⟩) h (fun r_2 v_4 w_5 g_6 H locs p_3 h => ?_)
  obtain ⟨p_3, rfl, rfl, rfl⟩ := p_3
  rcases p_3 with ⟨rfl, t_7⟩ | ⟨rfl, t_7⟩
  · skip
    refine lv_if_ne (tgt := 14) hx hb dX10_lay_9 (by decide) (fun _ => ?_) (fun c_8 => absurd c_8 (by decide))
    refine lv_aload_n hx hb dX10_lay_14 rfl (lv_at hl 0 rfl) ?_
    refine g_get (ci := 10) (x := .ref (G.2.2 (131))) C h 106 (by decide) rfl rfl hi10 39 (by decide) f101 rfl rfl dX10_lay_15 ?_
    refine lv_iload_n hx hb dX10_lay_18 rfl (lv_at hl 1 rfl) ?_
    refine g_iald C h 131 (by decide) (by decide) (n := 4) (by decide) (vp_of a1 (by omega) (by omega)) dX10_lay_19 ?_
    refine lv_topi (fun x_9 e_10 => ?_)
    have hln1 : x_9 = v 131 A1.toNat := by rw [e_10, cl_nat a1]
    have hli1 : (x_9).toInt = (v 131 A1.toNat).toInt := by rw [hln1]
    refine lv_bipush (v := (-4)) hx hb dX10_lay_20 (by decide) ?_
    refine lv_icmp_ne (tgt := 28) hx hb dX10_lay_22 (by decide) (fun c_11 => ?_) (fun c_11 => ?_)
    · have j_12 : ¬ ((x_9).toInt = (-4)) := fun q => c_11 ((i_eq rfl (by decide)).mpr q)
      refine lv_iload_n hx hb dX10_lay_28 rfl (lv_at hl 2 rfl) ?_
      refine lv_i2l (v := (p2 : Int32).toInt64) hx hb dX10_lay_29 rfl ?_
      refine lv_lconst (v := 0) hx hb dX10_lay_30 (by decide) ?_
      refine lv_aload_n hx hb dX10_lay_31 rfl (lv_at hl 0 rfl) ?_
      refine g_get (ci := 10) (x := .ref (G.2.2 (132))) C h 106 (by decide) rfl rfl hi10 40 (by decide) f104 rfl rfl dX10_lay_32 ?_
      refine lv_iload_n hx hb dX10_lay_35 rfl (lv_at hl 1 rfl) ?_
      refine g_iald C h 132 (by decide) (by decide) (n := 4) (by decide) (vp_of a1 (by omega) (by omega)) dX10_lay_36 ?_
      refine lv_topi (fun x_13 e_14 => ?_)
      have hz := Isz (p1).toNatClampNeg (by have := cl_of a1 (by omega); omega)
      rw [← e_14] at hz
      have hsz : (x_13).toInt = (v 132 A1.toNat).toInt := by rw [e_14, cl_nat a1]
      refine lv_iconst (v := 1) hx hb dX10_lay_37 (by decide) ?_
      refine lv_isub hx hb dX10_lay_38 ?_
      refine lv_topi (fun x_15 e_16 => ?_)
      have i_17 : x_15.toInt = (x_13).toInt - 1 := ia_sub e_16 rfl (by decide) (by omega) (by omega)
      refine lv_i2l (v := (x_15 : Int32).toInt64) hx hb dX10_lay_39 rfl ?_
      refine g_calli C (va_runS (As := [.long ((p2 : Int32).toInt64), .long (0), .long ((x_15 : Int32).toInt64)]) (rest := []) C.1 (c_X10_in l G v w sg ((p2 : Int32).toInt64) (A0 := A2) (il_of a2) (0) (A2 := 0) (by decide) ((x_15 : Int32).toInt64) (A4 := ((x_13).toInt - 1)) (il_of i_17)) (va_cwS 3 hts gX10_lay_X10_in rfl rfl rfl (by decide +kernel) ⟨by rw [hR]; exact Nat.le_of_ble_eq_true rfl, by rw [hR]; exact Nat.le_of_ble_eq_true rfl⟩) ⟨gPre_blind, gS_pre C h _⟩ rfl rfl hl.1 rfl (lv_room (Nat.le_of_ble_eq_true rfl)) dX10_lay_40 ⟨Nat.zero_le _, Nat.zero_le _⟩) h (fun r_18 v_20 w_21 g_22 H locs p_19 h => ?_)
      obtain ⟨p_19, rfl, rfl, rfl⟩ := p_19
      rcases p_19 with ⟨rfl, t_23⟩ | ⟨rfl, t_23⟩
      · skip
        refine lv_if_ne (tgt := 49) hx hb dX10_lay_43 (by decide) (fun _ => ?_) (fun c_24 => absurd c_24 (by decide))
        refine lv_aload_n hx hb dX10_lay_49 rfl (lv_at hl 0 rfl) ?_
        refine g_get (ci := 10) (x := .ref (G.2.2 (133))) C h 106 (by decide) rfl rfl hi10 41 (by decide) f107 rfl rfl dX10_lay_50 ?_
        refine lv_bipush (v := 60) hx hb dX10_lay_53 (by decide) ?_
        refine lv_iload_n hx hb dX10_lay_55 rfl (lv_at hl 1 rfl) ?_
        refine lv_imul hx hb dX10_lay_56 ?_
        refine lv_topi (fun x_25 e_26 => ?_)
        have i_27 : x_25.toInt = 60 * A1 := ia_mul e_26 (by decide) a1 (by omega) (by omega)
        refine lv_iload_n hx hb dX10_lay_57 rfl (lv_at hl 2 rfl) ?_
        refine lv_iadd hx hb dX10_lay_58 ?_
        refine lv_topi (fun x_28 e_29 => ?_)
        have i_30 : x_28.toInt = (60 * A1) + A2 := ia_add e_29 i_27 a2 (by omega) (by omega)
        refine lv_aload_n hx hb dX10_lay_59 rfl (lv_at hl 0 rfl) ?_
        refine g_get (ci := 10) (x := .ref (G.2.2 (131))) C h 106 (by decide) rfl rfl hi10 39 (by decide) f101 rfl rfl dX10_lay_60 ?_
        refine lv_iload_n hx hb dX10_lay_63 rfl (lv_at hl 1 rfl) ?_
        refine g_iald C h 131 (by decide) (by decide) (n := 4) (by decide) (vp_of a1 (by omega) (by omega)) dX10_lay_64 ?_
        refine lv_topi (fun x_31 e_32 => ?_)
        have hln2 : x_31 = v 131 A1.toNat := by rw [e_32, cl_nat a1]
        have hli2 : (x_31).toInt = (v 131 A1.toNat).toInt := by rw [hln2]
        have J89_33 : ∀ (y_33 : Int32) (H : Heap) (locs : List Loc) (ls : Array Slot), (y_33 = cvt (v 131 A1.toNat).toInt p3) → gS (gA G) G s v w sg H locs → lv_has ls 4 [(0, .ref (G.2.2 (106))), (1, .int (p1)), (2, .int (p2)), (3, .int (p3))] → W p l e R s m args below meth c H locs 0 0 Q (F0 m 89 ls [.int (y_33), .int (x_28), .ref (G.2.2 (133))]) := by
          intro y_33 H locs ls f_34 h hl
          refine g_iast C h 133 (by decide) (by decide) (n := 240) (by decide) (vp_of i_30 (by omega) (by omega)) dX10_lay_89 (fun H locs h => ?_)
          obtain ⟨v_35, hv_35⟩ : ∃ z, z = gu v 133 ((x_28 : Int32).toNatClampNeg) y_33 := ⟨_, rfl⟩
          have h : gS (gA G) G s v_35 w sg H locs := by rw [hv_35]; exact h
          have u_36 : mI v_35 := by rw [hv_35]; exact mi
          have u_37 : fM 131 134 0 0 v w v_35 w := by rw [hv_35]; exact (fM_v fM_rf (by decide))
          refine lv_iconst (v := 1) hx hb dX10_lay_90 (by decide) ?_
          exact ret 1 v_35 w sg _ _ _ _ dX10_lay_91 h ⟨⟨u_36, u_37, Or.inr (Or.inr (Or.inr (⟨(by omega), (by omega), (by omega), rfl, (by rw [hv_35] <;> exact (gu_cg rfl rfl ((cl_nat i_30).trans (by omega)) (by subst_vars; rfl)))⟩)))⟩, rfl, rfl⟩
        refine lv_if_ne (tgt := 73) hx hb dX10_lay_65 (by decide) (fun c_38 => ?_) (fun c_38 => ?_)
        · have j_39 : ¬ ((x_31).toInt = 0) := fun q => c_38 ((i_eq rfl (by decide)).mpr q)
          refine lv_aload_n hx hb dX10_lay_73 rfl (lv_at hl 0 rfl) ?_
          refine g_get (ci := 10) (x := .ref (G.2.2 (131))) C h 106 (by decide) rfl rfl hi10 39 (by decide) f101 rfl rfl dX10_lay_74 ?_
          refine lv_iload_n hx hb dX10_lay_77 rfl (lv_at hl 1 rfl) ?_
          refine g_iald C h 131 (by decide) (by decide) (n := 4) (by decide) (vp_of a1 (by omega) (by omega)) dX10_lay_78 ?_
          refine lv_topi (fun x_40 e_41 => ?_)
          have hln3 : x_40 = v 131 A1.toNat := by rw [e_41, cl_nat a1]
          have hli3 : (x_40).toInt = (v 131 A1.toNat).toInt := by rw [hln3]
          refine lv_iconst (v := 1) hx hb dX10_lay_79 (by decide) ?_
          refine lv_icmp_ne (tgt := 88) hx hb dX10_lay_80 (by decide) (fun c_42 => ?_) (fun c_42 => ?_)
          · have j_43 : ¬ ((x_40).toInt = 1) := fun q => c_42 ((i_eq rfl (by decide)).mpr q)
            refine lv_iload_n hx hb dX10_lay_88 rfl (lv_at hl 3 rfl) ?_
            exact J89_33 p3 _ _ _ (by subst_vars; unfold cvt; first | (rw [if_pos (by omega)]; done) | (rw [if_neg (by omega), if_pos (by omega)]; done) | (rw [if_neg (by omega), if_neg (by omega)]; done)) h (lv_sub hl [0, 1, 2, 3] rfl)
          · have j_43 : (x_40).toInt = 1 := (i_eq rfl (by decide)).mp c_42
            refine lv_iload_n hx hb dX10_lay_83 rfl (lv_at hl 3 rfl) ?_
            refine lv_i2s hx hb dX10_lay_84 rfl ?_
            refine lv_topi (fun x_44 e_45 => ?_)
            refine lv_goto (tgt := 89) hx hb dX10_lay_85 (by decide) ?_
            exact J89_33 x_44 _ _ _ (by subst_vars; unfold cvt; first | (rw [if_pos (by omega)]; done) | (rw [if_neg (by omega), if_pos (by omega)]; done) | (rw [if_neg (by omega), if_neg (by omega)]; done)) h (lv_sub hl [0, 1, 2, 3] rfl)
        · have j_39 : (x_31).toInt = 0 := (i_eq rfl (by decide)).mp c_38
          refine lv_iload_n hx hb dX10_lay_68 rfl (lv_at hl 3 rfl) ?_
          refine lv_i2b hx hb dX10_lay_69 rfl ?_
          refine lv_topi (fun x_46 e_47 => ?_)
          refine lv_goto (tgt := 89) hx hb dX10_lay_70 (by decide) ?_
          exact J89_33 x_46 _ _ _ (by subst_vars; unfold cvt; first | (rw [if_pos (by omega)]; done) | (rw [if_neg (by omega), if_pos (by omega)]; done) | (rw [if_neg (by omega), if_neg (by omega)]; done)) h (lv_sub hl [0, 1, 2, 3] rfl)
      · skip
        refine lv_if_ne (tgt := 49) hx hb dX10_lay_43 (by decide) (fun c_48 => absurd (by decide) c_48) (fun _ => ?_)
        refine lv_bipush (v := (-12)) hx hb dX10_lay_46 (by decide) ?_
        exact ret (-12) v w sg _ _ _ _ dX10_lay_48 h ⟨⟨mi, fM_rf, Or.inr (Or.inr (Or.inl ⟨(by omega), (by omega), (by omega), rfl, rfl⟩))⟩, rfl, rfl⟩
    · have j_12 : (x_9).toInt = (-4) := (i_eq rfl (by decide)).mp c_11
      refine lv_bipush (v := (-11)) hx hb dX10_lay_25 (by decide) ?_
      exact ret (-11) v w sg _ _ _ _ dX10_lay_27 h ⟨⟨mi, fM_rf, Or.inr (Or.inl ⟨(by omega), (by omega), rfl, rfl⟩)⟩, rfl, rfl⟩
  · skip
    refine lv_if_ne (tgt := 14) hx hb dX10_lay_9 (by decide) (fun c_49 => absurd (by decide) c_49) (fun _ => ?_)
    refine lv_iconst (v := (-1)) hx hb dX10_lay_12 (by decide) ?_
    exact ret (-1) v w sg _ _ _ _ dX10_lay_13 h ⟨⟨mi, fM_rf, Or.inl ⟨(by omega), rfl, rfl⟩⟩, rfl, rfl⟩

set_option maxHeartbeats 4000000 in
set_option maxRecDepth 100000 in
theorem c_X10_lostMany (l : Launch) (G : gG) (v : Nat → Nat → Int32) (w : Nat → Nat → Int64) (sg : Nat → Nat) (mi : mI v) : Met l yX10_lostMany wsX10_lostMany ({ frames := 0, cells := 0, slots := 0, locals := 0 }) (gPre G v w sg [.ref (G.2.2 (106))]) (gQi G (fun r v' w' sg' => ((0 ≤ r.toInt ∧ r.toInt ≤ 10) ∧ (r.toInt = 0 ∨ exL (v 130) (v 106 35).toInt) ∧ r = sumN (fun k => lo1 (v 130 k)) (v 106 35).toInt.toNat) ∧ v = v' ∧ w = w' ∧ sg = sg')) 0 0 (gA G) := by
  refine gM_ofi (cc := cX10_lostMany) (maxL := 3) (by decide) rfl (Nat.le_of_ble_eq_true rfl) ?_
  intro p e R s m args below meth c Q ls C hR ret h hl
  have hx := C.1.1
  have hb := C.1.2.1
  have hown := C.1.2.2.2.1
  have hts := C.1.2.2.2.2
  have hl : lv_has ls 3 [(0, .ref (G.2.2 (106)))] := hl
  have z_0 : (0 : Int32).toInt = 0 := by decide
  have z_1 : (1 : Int32).toInt = 1 := by decide
  have f273 : Cond.fieldLink RX10 273 "WindHallModel" "tubes" "I" ∈ wsX10_lostMany := by decide +kernel
  have hi10 : ∀ x ∈ u_ws RX10 TX10 42, x ∈ wsX10_lostMany := fun x q => List.mem_cons_of_mem _ (List.mem_append_right _ q)
  have f98 : Cond.fieldLink RX10 98 "WindHallModel" "isLost" "[Z" ∈ wsX10_lostMany := by decide +kernel
  have o_1 := mi
  obtain ⟨I7, I10, I18, I22, I27, I29, I32, Is, I35, Ia, Iar, Isz, Ian⟩ := o_1
  refine lv_iconst (v := 0) hx hb dX10_lostMany_0 (by decide) ?_
  refine lv_istore_n (lv' := [(1, .int (0)), (0, .ref (G.2.2 (106)))]) hx hb dX10_lostMany_1 rfl hl (by decide) rfl (fun ls hl => ?_)
  refine lv_iconst (v := 0) hx hb dX10_lostMany_2 (by decide) ?_
  have J4_3 : ∀ (n : Nat) (y_2 : Int32) (y_3 : Int32) (H : Heap) (locs : List Loc) (ls : Array Slot), (((v 106 35) : Int32).toInt - (y_3).toInt).toNat < n → (0 ≤ (y_3).toInt ∧ (y_3).toInt ≤ ((v 106 35) : Int32).toInt) → (0 ≤ (y_2).toInt ∧ (y_2).toInt ≤ (y_3).toInt) → ((y_2).toInt = 0 ∨ exL (v 130) (y_3).toInt) → (y_2 = sumN (fun k => lo1 (v 130 k)) ((y_3).toInt).toNat) → gS (gA G) G s v w sg H locs → lv_has ls 3 [(0, .ref (G.2.2 (106))), (1, .int (y_2)), (2, .int (y_3))] → W p l e R s m args below meth c H locs 0 0 Q (F0 m 4 ls []) := by
    intro n
    induction n with
    | zero => intro y_2 y_3 H locs ls hm; exact absurd hm (Nat.not_lt_zero _)
    | succ n ih4 =>
      intro y_2 y_3 H locs ls hm f_4 f_5 f_6 f_7 h hl
      refine lv_iload_n hx hb dX10_lostMany_4 rfl (lv_at hl 2 rfl) ?_
      refine lv_aload_n hx hb dX10_lostMany_5 rfl (lv_at hl 0 rfl) ?_
      refine g_geti (ci := 10) (x := v 106 35) C h 106 (by decide) rfl rfl hi10 35 (by decide) f273 rfl rfl rfl dX10_lostMany_6 ?_
      refine lv_icmp_ge (tgt := 35) hx hb dX10_lostMany_9 (by decide) (fun c_8 => ?_) (fun c_8 => ?_)
      · have j_9 : (v 106 35).toInt ≤ (y_3).toInt := (i_le rfl rfl).mp c_8
        refine lv_iload_n hx hb dX10_lostMany_35 rfl (lv_at hl 1 rfl) ?_
        exact ret y_2 v w sg _ _ _ _ dX10_lostMany_36 h ⟨⟨by omega, f_6.elim (fun q => Or.inl q) (fun q => Or.inr (q.mono (by omega))), by rw [show (v 106 35).toInt = (y_3).toInt by omega]; exact f_7⟩, rfl, rfl, rfl⟩
      · have j_9 : ¬ ((v 106 35).toInt ≤ (y_3).toInt) := fun q => c_8 ((i_le rfl rfl).mpr q)
        refine lv_iload_n hx hb dX10_lostMany_12 rfl (lv_at hl 1 rfl) ?_
        refine lv_aload_n hx hb dX10_lostMany_13 rfl (lv_at hl 0 rfl) ?_
        refine g_get (ci := 10) (x := .ref (G.2.2 (130))) C h 106 (by decide) rfl rfl hi10 38 (by decide) f98 rfl rfl dX10_lostMany_14 ?_
        refine lv_iload_n hx hb dX10_lostMany_17 rfl (lv_at hl 2 rfl) ?_
        refine g_zald C h 130 (by decide) (by decide) (n := 10) (by decide) (vp_of rfl (by omega) (by omega)) dX10_lostMany_18 ?_
        refine lv_topi (fun x_10 e_11 => ?_)
        have J27_12 : ∀ (y_12 : Int32) (H : Heap) (locs : List Loc) (ls : Array Slot), ((y_12).toInt = 0 ∨ ((y_12).toInt = 1 ∧ v 130 (y_3).toNatClampNeg ≠ 0)) → (y_12 = lo1 (v 130 (y_3).toNatClampNeg)) → gS (gA G) G s v w sg H locs → lv_has ls 3 [(0, .ref (G.2.2 (106))), (1, .int (y_2)), (2, .int (y_3))] → W p l e R s m args below meth c H locs 0 0 Q (F0 m 27 ls [.int (y_12), .int (y_2)]) := by
          intro y_12 H locs ls f_13 f_14 h hl
          refine lv_iadd hx hb dX10_lostMany_27 ?_
          refine lv_topi (fun x_15 e_16 => ?_)
          have i_17 : x_15.toInt = (y_2).toInt + (y_12).toInt := ia_add e_16 rfl rfl (by omega) (by omega)
          refine lv_istore_n (lv' := [(1, .int (x_15)), (0, .ref (G.2.2 (106))), (2, .int (y_3))]) hx hb dX10_lostMany_28 rfl hl (by decide) rfl (fun ls hl => ?_)
          obtain ⟨x_18, e_19⟩ : ∃ y : Int32, y = y_3 + 1 := ⟨_, rfl⟩
          have i_20 : x_18.toInt = (y_3).toInt + 1 := ia_add e_19 rfl (by decide) (by omega) (by omega)
          refine lv_iinc (v := x_18) (lv' := [(2, .int (x_18)), (1, .int (x_15)), (0, .ref (G.2.2 (106)))]) hx hb dX10_lostMany_29 hl (k := 2) rfl (by rw [e_19]; rfl) (by decide) rfl (fun ls hl => ?_)
          refine lv_goto (tgt := 4) hx hb dX10_lostMany_32 (by decide) ?_
          exact ih4 x_15 x_18 _ _ _ (by omega) (by omega) (by omega) (f_13.elim (fun q => f_6.elim (fun q3 => Or.inl (by omega)) (fun q3 => Or.inr (q3.mono (by omega)))) (fun ⟨q, q2⟩ => Or.inr (exL_mk q2 rfl (by omega) (by omega)))) (sumN_step f_7 (by omega) (by omega) e_16 f_14) h (lv_sub hl [2, 1, 0] rfl)
        refine lv_if_eq (tgt := 26) hx hb dX10_lostMany_19 (by decide) (fun c_21 => ?_) (fun c_21 => ?_)
        · have j_22 : (x_10).toInt = 0 := (i_eq rfl (by decide)).mp c_21
          refine lv_iconst (v := 0) hx hb dX10_lostMany_26 (by decide) ?_
          exact J27_12 0 _ _ _ (by first | exact Or.inl (by decide) | exact Or.inr ⟨by decide, by subst_vars; assumption⟩) (by subst_vars; unfold lo1; split <;> first | rfl | omega) h (lv_sub hl [0, 1, 2] rfl)
        · have j_22 : ¬ ((x_10).toInt = 0) := fun q => c_21 ((i_eq rfl (by decide)).mpr q)
          refine lv_iconst (v := 1) hx hb dX10_lostMany_22 (by decide) ?_
          refine lv_goto (tgt := 27) hx hb dX10_lostMany_23 (by decide) ?_
          exact J27_12 1 _ _ _ (by first | exact Or.inl (by decide) | exact Or.inr ⟨by decide, by subst_vars; assumption⟩) (by subst_vars; unfold lo1; split <;> first | rfl | omega) h (lv_sub hl [0, 1, 2] rfl)
  refine lv_istore_n (lv' := [(2, .int (0)), (1, .int (0)), (0, .ref (G.2.2 (106)))]) hx hb dX10_lostMany_3 rfl hl (by decide) rfl (fun ls hl => ?_)
  exact J4_3 _ 0 0 _ _ _ (Nat.lt_succ_self _) (by omega) (by omega) (Or.inl (by decide)) rfl h (lv_sub hl [2, 1, 0] rfl)

set_option maxHeartbeats 4000000 in
set_option maxRecDepth 100000 in
theorem c_X10_force (l : Launch) (G : gG) (v : Nat → Nat → Int32) (w : Nat → Nat → Int64) (sg : Nat → Nat) (mi : mI v) : Met l yX10_force wsX10_force ({ frames := 0, cells := 0, slots := 0, locals := 0 }) (gPre G v w sg [.ref (G.2.2 (106))]) (gQi G (fun r v' w' sg' => (r = sumN (fcM v) (v 106 35).toInt.toNat) ∧ v = v' ∧ w = w' ∧ sg = sg')) 0 0 (gA G) := by
  refine gM_ofi (cc := cX10_force) (maxL := 3) (by decide) rfl (Nat.le_of_ble_eq_true rfl) ?_
  intro p e R s m args below meth c Q ls C hR ret h hl
  have hx := C.1.1
  have hb := C.1.2.1
  have hown := C.1.2.2.2.1
  have hts := C.1.2.2.2.2
  have hl : lv_has ls 3 [(0, .ref (G.2.2 (106)))] := hl
  have z_0 : (0 : Int32).toInt = 0 := by decide
  have z_1 : (1 : Int32).toInt = 1 := by decide
  have f273 : Cond.fieldLink RX10 273 "WindHallModel" "tubes" "I" ∈ wsX10_force := by decide +kernel
  have hi10 : ∀ x ∈ u_ws RX10 TX10 42, x ∈ wsX10_force := fun x q => List.mem_cons_of_mem _ (List.mem_append_right _ q)
  have f98 : Cond.fieldLink RX10 98 "WindHallModel" "isLost" "[Z" ∈ wsX10_force := by decide +kernel
  have f92 : Cond.fieldLink RX10 92 "WindHallModel" "areas" "[I" ∈ wsX10_force := by decide +kernel
  have f95 : Cond.fieldLink RX10 95 "WindHallModel" "pressures" "[I" ∈ wsX10_force := by decide +kernel
  have o_1 := mi
  obtain ⟨I7, I10, I18, I22, I27, I29, I32, Is, I35, Ia, Iar, Isz, Ian⟩ := o_1
  refine lv_iconst (v := 0) hx hb dX10_force_0 (by decide) ?_
  refine lv_istore_n (lv' := [(1, .int (0)), (0, .ref (G.2.2 (106)))]) hx hb dX10_force_1 rfl hl (by decide) rfl (fun ls hl => ?_)
  refine lv_iconst (v := 0) hx hb dX10_force_2 (by decide) ?_
  have J4_3 : ∀ (n : Nat) (y_2 : Int32) (y_3 : Int32) (H : Heap) (locs : List Loc) (ls : Array Slot), (((v 106 35) : Int32).toInt - (y_3).toInt).toNat < n → (0 ≤ (y_3).toInt ∧ (y_3).toInt ≤ ((v 106 35) : Int32).toInt) → (y_2 = sumN (fcM v) ((y_3).toInt).toNat) → gS (gA G) G s v w sg H locs → lv_has ls 3 [(0, .ref (G.2.2 (106))), (1, .int (y_2)), (2, .int (y_3))] → W p l e R s m args below meth c H locs 0 0 Q (F0 m 4 ls []) := by
    intro n
    induction n with
    | zero => intro y_2 y_3 H locs ls hm; exact absurd hm (Nat.not_lt_zero _)
    | succ n ih4 =>
      intro y_2 y_3 H locs ls hm f_4 f_5 h hl
      refine lv_iload_n hx hb dX10_force_4 rfl (lv_at hl 2 rfl) ?_
      refine lv_aload_n hx hb dX10_force_5 rfl (lv_at hl 0 rfl) ?_
      refine g_geti (ci := 10) (x := v 106 35) C h 106 (by decide) rfl rfl hi10 35 (by decide) f273 rfl rfl rfl dX10_force_6 ?_
      refine lv_icmp_ge (tgt := 47) hx hb dX10_force_9 (by decide) (fun c_6 => ?_) (fun c_6 => ?_)
      · have j_7 : (v 106 35).toInt ≤ (y_3).toInt := (i_le rfl rfl).mp c_6
        refine lv_iload_n hx hb dX10_force_47 rfl (lv_at hl 1 rfl) ?_
        exact ret y_2 v w sg _ _ _ _ dX10_force_48 h ⟨(by rw [show (v 106 35).toInt = (y_3).toInt by omega]; exact f_5), rfl, rfl, rfl⟩
      · have j_7 : ¬ ((v 106 35).toInt ≤ (y_3).toInt) := fun q => c_6 ((i_le rfl rfl).mpr q)
        refine lv_iload_n hx hb dX10_force_12 rfl (lv_at hl 1 rfl) ?_
        refine lv_aload_n hx hb dX10_force_13 rfl (lv_at hl 0 rfl) ?_
        refine g_get (ci := 10) (x := .ref (G.2.2 (130))) C h 106 (by decide) rfl rfl hi10 38 (by decide) f98 rfl rfl dX10_force_14 ?_
        refine lv_iload_n hx hb dX10_force_17 rfl (lv_at hl 2 rfl) ?_
        refine g_zald C h 130 (by decide) (by decide) (n := 10) (by decide) (vp_of rfl (by omega) (by omega)) dX10_force_18 ?_
        refine lv_topi (fun x_8 e_9 => ?_)
        have J39_10 : ∀ (y_10 : Int32) (H : Heap) (locs : List Loc) (ls : Array Slot), (y_10 = fcM v (y_3).toNatClampNeg) → gS (gA G) G s v w sg H locs → lv_has ls 3 [(0, .ref (G.2.2 (106))), (1, .int (y_2)), (2, .int (y_3))] → W p l e R s m args below meth c H locs 0 0 Q (F0 m 39 ls [.int (y_10), .int (y_2)]) := by
          intro y_10 H locs ls f_11 h hl
          refine lv_iadd hx hb dX10_force_39 ?_
          refine lv_topi (fun x_12 e_13 => ?_)
          refine lv_istore_n (lv' := [(1, .int (x_12)), (0, .ref (G.2.2 (106))), (2, .int (y_3))]) hx hb dX10_force_40 rfl hl (by decide) rfl (fun ls hl => ?_)
          obtain ⟨x_14, e_15⟩ : ∃ y : Int32, y = y_3 + 1 := ⟨_, rfl⟩
          have i_16 : x_14.toInt = (y_3).toInt + 1 := ia_add e_15 rfl (by decide) (by omega) (by omega)
          refine lv_iinc (v := x_14) (lv' := [(2, .int (x_14)), (1, .int (x_12)), (0, .ref (G.2.2 (106)))]) hx hb dX10_force_41 hl (k := 2) rfl (by rw [e_15]; rfl) (by decide) rfl (fun ls hl => ?_)
          refine lv_goto (tgt := 4) hx hb dX10_force_44 (by decide) ?_
          exact ih4 x_12 x_14 _ _ _ (by omega) (by omega) (sumN_step f_5 (by omega) (by omega) e_13 f_11) h (lv_sub hl [2, 1, 0] rfl)
        refine lv_if_eq (tgt := 26) hx hb dX10_force_19 (by decide) (fun c_17 => ?_) (fun c_17 => ?_)
        · have j_18 : (x_8).toInt = 0 := (i_eq rfl (by decide)).mp c_17
          refine lv_aload_n hx hb dX10_force_26 rfl (lv_at hl 0 rfl) ?_
          refine g_get (ci := 10) (x := .ref (G.2.2 (128))) C h 106 (by decide) rfl rfl hi10 36 (by decide) f92 rfl rfl dX10_force_27 ?_
          refine lv_iload_n hx hb dX10_force_30 rfl (lv_at hl 2 rfl) ?_
          refine g_iald C h 128 (by decide) (by decide) (n := 10) (by decide) (vp_of rfl (by omega) (by omega)) dX10_force_31 ?_
          refine lv_topi (fun x_19 e_20 => ?_)
          refine lv_aload_n hx hb dX10_force_32 rfl (lv_at hl 0 rfl) ?_
          refine g_get (ci := 10) (x := .ref (G.2.2 (129))) C h 106 (by decide) rfl rfl hi10 37 (by decide) f95 rfl rfl dX10_force_33 ?_
          refine lv_iload_n hx hb dX10_force_36 rfl (lv_at hl 2 rfl) ?_
          refine g_iald C h 129 (by decide) (by decide) (n := 10) (by decide) (vp_of rfl (by omega) (by omega)) dX10_force_37 ?_
          refine lv_topi (fun x_21 e_22 => ?_)
          refine lv_imul hx hb dX10_force_38 ?_
          refine lv_topi (fun x_23 e_24 => ?_)
          exact J39_10 x_23 _ _ _ (by subst_vars; unfold fcM; split <;> first | rfl | omega) h (lv_sub hl [0, 1, 2] rfl)
        · have j_18 : ¬ ((x_8).toInt = 0) := fun q => c_17 ((i_eq rfl (by decide)).mpr q)
          refine lv_iconst (v := 0) hx hb dX10_force_22 (by decide) ?_
          refine lv_goto (tgt := 39) hx hb dX10_force_23 (by decide) ?_
          exact J39_10 0 _ _ _ (by subst_vars; unfold fcM; split <;> first | rfl | omega) h (lv_sub hl [0, 1, 2] rfl)
  refine lv_istore_n (lv' := [(2, .int (0)), (1, .int (0)), (0, .ref (G.2.2 (106)))]) hx hb dX10_force_3 rfl hl (by decide) rfl (fun ls hl => ?_)
  exact J4_3 _ 0 0 _ _ _ (Nat.lt_succ_self _) (by omega) rfl h (lv_sub hl [2, 1, 0] rfl)

set_option maxHeartbeats 4000000 in
set_option maxRecDepth 100000 in
theorem c_X10_count (l : Launch) (G : gG) (v : Nat → Nat → Int32) (w : Nat → Nat → Int64) (sg : Nat → Nat) (p1 : Int32) {A1 : Int} (a1 : p1.toInt = A1) (mi : mI v) : Met l yX10_count wsX10_count ({ frames := 1, cells := 0, slots := 0, locals := 22 }) (gPre G v w sg [.ref (G.2.2 (106)), .int (p1)]) (gQi G (fun r v' w' sg' => (True) ∧ v = v' ∧ w = w' ∧ sg = sg')) 0 0 (gA G) := by
  refine gM_ofi (cc := cX10_count) (maxL := 4) (by decide) rfl (Nat.le_of_ble_eq_true rfl) ?_
  intro p e R s m args below meth c Q ls C hR ret h hl
  have hx := C.1.1
  have hb := C.1.2.1
  have hown := C.1.2.2.2.1
  have hts := C.1.2.2.2.2
  have hl : lv_has ls 4 [(0, .ref (G.2.2 (106))), (1, .int (p1))] := hl
  have q1 := i_rng p1; rw [a1] at q1
  have z_m1 : ((-1) : Int32).toInt = (-1) := by decide
  have z_0 : (0 : Int32).toInt = 0 := by decide
  have z_1 : (1 : Int32).toInt = 1 := by decide
  have z_2 : (2 : Int32).toInt = 2 := by decide
  have z_3 : (3 : Int32).toInt = 3 := by decide
  have z_4 : (4 : Int32).toInt = 4 := by decide
  have z_5 : (5 : Int32).toInt = 5 := by decide
  have f228 : Cond.fieldLink RX10 228 "WindHallModel" "places" "I" ∈ wsX10_count := by decide +kernel
  have hi10 : ∀ x ∈ u_ws RX10 TX10 42, x ∈ wsX10_count := fun x q => List.mem_cons_of_mem _ (List.mem_append_right _ q)
  have f273 : Cond.fieldLink RX10 273 "WindHallModel" "tubes" "I" ∈ wsX10_count := by decide +kernel
  have f178 : Cond.fieldLink RX10 178 "WindHallModel" "corrections" "I" ∈ wsX10_count := by decide +kernel
  have f170 : Cond.fieldLink RX10 170 "WindHallModel" "points" "I" ∈ wsX10_count := by decide +kernel
  have f66 : Cond.fieldLink RX10 66 "WindHallModel" "isDone" "[Z" ∈ wsX10_count := by decide +kernel
  have o_1 := mi
  obtain ⟨I7, I10, I18, I22, I27, I29, I32, Is, I35, Ia, Iar, Isz, Ian⟩ := o_1
  refine lv_iconst (v := 0) hx hb dX10_count_0 (by decide) ?_
  refine lv_istore_n (lv' := [(2, .int (0)), (0, .ref (G.2.2 (106))), (1, .int (p1))]) hx hb dX10_count_1 rfl hl (by decide) rfl (fun ls hl => ?_)
  refine lv_iconst (v := 0) hx hb dX10_count_2 (by decide) ?_
  have J4_3 : ∀ (n : Nat) (y_2 : Int32) (y_3 : Int32) (H : Heap) (locs : List Loc) (ls : Array Slot), (((v 106 22) : Int32).toInt - (y_3).toInt).toNat < n → (0 ≤ (y_3).toInt ∧ (y_3).toInt ≤ ((v 106 22) : Int32).toInt) → gS (gA G) G s v w sg H locs → lv_has ls 4 [(0, .ref (G.2.2 (106))), (1, .int (p1)), (2, .int (y_2)), (3, .int (y_3))] → W p l e R s m args below meth c H locs 0 0 Q (F0 m 4 ls []) := by
    intro n
    induction n with
    | zero => intro y_2 y_3 H locs ls hm; exact absurd hm (Nat.not_lt_zero _)
    | succ n ih4 =>
      intro y_2 y_3 H locs ls hm f_4 h hl
      refine lv_iload_n hx hb dX10_count_4 rfl (lv_at hl 3 rfl) ?_
      refine lv_aload_n hx hb dX10_count_5 rfl (lv_at hl 0 rfl) ?_
      refine g_geti (ci := 10) (x := v 106 22) C h 106 (by decide) rfl rfl hi10 22 (by decide) f228 rfl rfl rfl dX10_count_6 ?_
      refine lv_icmp_ge (tgt := 35) hx hb dX10_count_9 (by decide) (fun c_5 => ?_) (fun c_5 => ?_)
      · have j_6 : (v 106 22).toInt ≤ (y_3).toInt := (i_le rfl rfl).mp c_5
        refine lv_iload_n hx hb dX10_count_35 rfl (lv_at hl 1 rfl) ?_
        refine lv_if_ne (tgt := 46) hx hb dX10_count_36 (by decide) (fun c_7 => ?_) (fun c_7 => ?_)
        · have j_8 : ¬ (A1 = 0) := fun q => c_7 ((i_eq a1 (by decide)).mpr q)
          refine lv_iload_n hx hb dX10_count_46 rfl (lv_at hl 1 rfl) ?_
          refine lv_iconst (v := 1) hx hb dX10_count_47 (by decide) ?_
          refine lv_icmp_ne (tgt := 58) hx hb dX10_count_48 (by decide) (fun c_9 => ?_) (fun c_9 => ?_)
          · have j_10 : ¬ (A1 = 1) := fun q => c_9 ((i_eq a1 (by decide)).mpr q)
            refine lv_iload_n hx hb dX10_count_58 rfl (lv_at hl 1 rfl) ?_
            refine lv_iconst (v := 2) hx hb dX10_count_59 (by decide) ?_
            refine lv_icmp_ne (tgt := 70) hx hb dX10_count_60 (by decide) (fun c_11 => ?_) (fun c_11 => ?_)
            · have j_12 : ¬ (A1 = 2) := fun q => c_11 ((i_eq a1 (by decide)).mpr q)
              refine lv_iload_n hx hb dX10_count_70 rfl (lv_at hl 1 rfl) ?_
              refine lv_iconst (v := 3) hx hb dX10_count_71 (by decide) ?_
              refine lv_icmp_ne (tgt := 79) hx hb dX10_count_72 (by decide) (fun c_13 => ?_) (fun c_13 => ?_)
              · have j_14 : ¬ (A1 = 3) := fun q => c_13 ((i_eq a1 (by decide)).mpr q)
                refine lv_iload_n hx hb dX10_count_79 rfl (lv_at hl 1 rfl) ?_
                refine lv_iconst (v := 4) hx hb dX10_count_80 (by decide) ?_
                refine lv_icmp_ne (tgt := 91) hx hb dX10_count_81 (by decide) (fun c_15 => ?_) (fun c_15 => ?_)
                · have j_16 : ¬ (A1 = 4) := fun q => c_15 ((i_eq a1 (by decide)).mpr q)
                  refine lv_iload_n hx hb dX10_count_91 rfl (lv_at hl 1 rfl) ?_
                  refine lv_iconst (v := 5) hx hb dX10_count_92 (by decide) ?_
                  refine lv_icmp_ne (tgt := 103) hx hb dX10_count_93 (by decide) (fun c_17 => ?_) (fun c_17 => ?_)
                  · have j_18 : ¬ (A1 = 5) := fun q => c_17 ((i_eq a1 (by decide)).mpr q)
                    refine lv_iconst (v := (-1)) hx hb dX10_count_103 (by decide) ?_
                    exact ret (-1) v w sg _ _ _ _ dX10_count_104 h ⟨trivial, rfl, rfl, rfl⟩
                  · have j_18 : A1 = 5 := (i_eq a1 (by decide)).mp c_17
                    refine lv_aload_n hx hb dX10_count_96 rfl (lv_at hl 0 rfl) ?_
                    refine g_calli C (va_runV (As := []) (rest := []) C.1 (c_X10_lostMany l G v w sg  mi) (cwV 0 hts gX10_count_X10_lostMany rfl rfl rfl (by decide +kernel) ⟨by rw [hR]; exact Nat.le_of_ble_eq_true rfl, by rw [hR]; exact Nat.le_of_ble_eq_true rfl⟩) ⟨gPre_blind, g_recv C h 106 (by decide) (ci := 10) rfl rfl, gS_pre C h _⟩ rfl rfl hl.1 rfl (lv_room (Nat.le_of_ble_eq_true rfl)) dX10_count_97 ⟨Nat.zero_le _, Nat.zero_le _⟩) h (fun r_19 v_21 w_22 g_23 H locs p_20 h => ?_)
                    obtain ⟨p_20, rfl, rfl, rfl⟩ := p_20
                    refine lv_goto (tgt := 104) hx hb dX10_count_100 (by decide) ?_
                    exact ret r_19 v w sg _ _ _ _ dX10_count_104 h ⟨trivial, rfl, rfl, rfl⟩
                · have j_16 : A1 = 4 := (i_eq a1 (by decide)).mp c_15
                  refine lv_aload_n hx hb dX10_count_84 rfl (lv_at hl 0 rfl) ?_
                  refine g_geti (ci := 10) (x := v 106 35) C h 106 (by decide) rfl rfl hi10 35 (by decide) f273 rfl rfl rfl dX10_count_85 ?_
                  refine lv_goto (tgt := 104) hx hb dX10_count_88 (by decide) ?_
                  exact ret (v 106 35) v w sg _ _ _ _ dX10_count_104 h ⟨trivial, rfl, rfl, rfl⟩
              · have j_14 : A1 = 3 := (i_eq a1 (by decide)).mp c_13
                refine lv_iload_n hx hb dX10_count_75 rfl (lv_at hl 2 rfl) ?_
                refine lv_goto (tgt := 104) hx hb dX10_count_76 (by decide) ?_
                exact ret y_2 v w sg _ _ _ _ dX10_count_104 h ⟨trivial, rfl, rfl, rfl⟩
            · have j_12 : A1 = 2 := (i_eq a1 (by decide)).mp c_11
              refine lv_aload_n hx hb dX10_count_63 rfl (lv_at hl 0 rfl) ?_
              refine g_geti (ci := 10) (x := v 106 22) C h 106 (by decide) rfl rfl hi10 22 (by decide) f228 rfl rfl rfl dX10_count_64 ?_
              refine lv_goto (tgt := 104) hx hb dX10_count_67 (by decide) ?_
              exact ret (v 106 22) v w sg _ _ _ _ dX10_count_104 h ⟨trivial, rfl, rfl, rfl⟩
          · have j_10 : A1 = 1 := (i_eq a1 (by decide)).mp c_9
            refine lv_aload_n hx hb dX10_count_51 rfl (lv_at hl 0 rfl) ?_
            refine g_geti (ci := 10) (x := v 106 10) C h 106 (by decide) rfl rfl hi10 10 (by decide) f178 rfl rfl rfl dX10_count_52 ?_
            refine lv_goto (tgt := 104) hx hb dX10_count_55 (by decide) ?_
            exact ret (v 106 10) v w sg _ _ _ _ dX10_count_104 h ⟨trivial, rfl, rfl, rfl⟩
        · have j_8 : A1 = 0 := (i_eq a1 (by decide)).mp c_7
          refine lv_aload_n hx hb dX10_count_39 rfl (lv_at hl 0 rfl) ?_
          refine g_geti (ci := 10) (x := v 106 7) C h 106 (by decide) rfl rfl hi10 7 (by decide) f170 rfl rfl rfl dX10_count_40 ?_
          refine lv_goto (tgt := 104) hx hb dX10_count_43 (by decide) ?_
          exact ret (v 106 7) v w sg _ _ _ _ dX10_count_104 h ⟨trivial, rfl, rfl, rfl⟩
      · have j_6 : ¬ ((v 106 22).toInt ≤ (y_3).toInt) := fun q => c_5 ((i_le rfl rfl).mpr q)
        refine lv_iload_n hx hb dX10_count_12 rfl (lv_at hl 2 rfl) ?_
        refine lv_aload_n hx hb dX10_count_13 rfl (lv_at hl 0 rfl) ?_
        refine g_get (ci := 10) (x := .ref (G.2.2 (125))) C h 106 (by decide) rfl rfl hi10 25 (by decide) f66 rfl rfl dX10_count_14 ?_
        refine lv_iload_n hx hb dX10_count_17 rfl (lv_at hl 3 rfl) ?_
        refine g_zald C h 125 (by decide) (by decide) (n := 9) (by decide) (vp_of rfl (by omega) (by omega)) dX10_count_18 ?_
        refine lv_topi (fun x_24 e_25 => ?_)
        have J27_26 : ∀ (y_26 : Int32) (H : Heap) (locs : List Loc) (ls : Array Slot), gS (gA G) G s v w sg H locs → lv_has ls 4 [(0, .ref (G.2.2 (106))), (1, .int (p1)), (2, .int (y_2)), (3, .int (y_3))] → W p l e R s m args below meth c H locs 0 0 Q (F0 m 27 ls [.int (y_26), .int (y_2)]) := by
          intro y_26 H locs ls  h hl
          refine lv_iadd hx hb dX10_count_27 ?_
          refine lv_topi (fun x_27 e_28 => ?_)
          refine lv_istore_n (lv' := [(2, .int (x_27)), (0, .ref (G.2.2 (106))), (1, .int (p1)), (3, .int (y_3))]) hx hb dX10_count_28 rfl hl (by decide) rfl (fun ls hl => ?_)
          obtain ⟨x_29, e_30⟩ : ∃ y : Int32, y = y_3 + 1 := ⟨_, rfl⟩
          have i_31 : x_29.toInt = (y_3).toInt + 1 := ia_add e_30 rfl (by decide) (by omega) (by omega)
          refine lv_iinc (v := x_29) (lv' := [(3, .int (x_29)), (2, .int (x_27)), (0, .ref (G.2.2 (106))), (1, .int (p1))]) hx hb dX10_count_29 hl (k := 3) rfl (by rw [e_30]; rfl) (by decide) rfl (fun ls hl => ?_)
          refine lv_goto (tgt := 4) hx hb dX10_count_32 (by decide) ?_
          exact ih4 x_27 x_29 _ _ _ (by omega) (by omega) h (lv_sub hl [2, 3, 1, 0] rfl)
        refine lv_if_eq (tgt := 26) hx hb dX10_count_19 (by decide) (fun c_32 => ?_) (fun c_32 => ?_)
        · have j_33 : (x_24).toInt = 0 := (i_eq rfl (by decide)).mp c_32
          refine lv_iconst (v := 0) hx hb dX10_count_26 (by decide) ?_
          exact J27_26 0 _ _ _  h (lv_sub hl [0, 1, 2, 3] rfl)
        · have j_33 : ¬ ((x_24).toInt = 0) := fun q => c_32 ((i_eq rfl (by decide)).mpr q)
          refine lv_iconst (v := 1) hx hb dX10_count_22 (by decide) ?_
          refine lv_goto (tgt := 27) hx hb dX10_count_23 (by decide) ?_
          exact J27_26 1 _ _ _  h (lv_sub hl [0, 1, 2, 3] rfl)
  refine lv_istore_n (lv' := [(3, .int (0)), (2, .int (0)), (0, .ref (G.2.2 (106))), (1, .int (p1))]) hx hb dX10_count_3 rfl hl (by decide) rfl (fun ls hl => ?_)
  exact J4_3 _ 0 0 _ _ _ (Nat.lt_succ_self _) (by omega) h (lv_sub hl [2, 3, 1, 0] rfl)

set_option maxHeartbeats 4000000 in
set_option maxRecDepth 100000 in
theorem c_X10_scan (l : Launch) (G : gG) (v : Nat → Nat → Int32) (w : Nat → Nat → Int64) (sg : Nat → Nat) (p1 : Int32) {A1 : Int} (a1 : p1.toInt = A1) (p2 : Int32) {A2 : Int} (a2 : p2.toInt = A2) (p3 : Int32) {A3 : Int} (a3 : p3.toInt = A3) (mi : mI v) : Met l yX10_scan wsX10_scan ({ frames := 1, cells := 0, slots := 0, locals := 25 }) (gPre G v w sg [.ref (G.2.2 (106)), .int (p1), .int (p2), .int (p3)]) (gQi G (fun r v' w' sg' => (mI v' ∧ fM 128 131 35 36 v w v' w ∧ ((¬ rF32 A1 A2 ∧ r = -1 ∧ v' = v) ∨ (rF32 A1 A2 ∧ (v 131 A1.toNat).toInt ≠ A2 ∧ (v 131 A1.toNat).toInt = -4 ∧ r = -11 ∧ v' = v) ∨ (rF32 A1 A2 ∧ (v 131 A1.toNat).toInt ≠ A2 ∧ (v 131 A1.toNat).toInt ≠ -4 ∧ r = -13 ∧ v' = v) ∨ (rF32 A1 A2 ∧ (v 131 A1.toNat).toInt = A2 ∧ ¬ ((v 106 35).toInt ≤ 0 ∨ (0 ≤ A3 ∧ A3 + (v 106 35).toInt ≤ (v 132 A1.toNat).toInt)) ∧ r = -12 ∧ v' = v) ∨ (rF32 A1 A2 ∧ (v 131 A1.toNat).toInt = A2 ∧ ((v 106 35).toInt ≤ 0 ∨ (0 ≤ A3 ∧ A3 + (v 106 35).toInt ≤ (v 132 A1.toNat).toInt)) ∧ r = sumN (fun k => lo1 (v' 130 k)) (v 106 35).toInt.toNat ∧ v' = va_up (va_up v 130 (flN (fun k => lostOf (v 133 (60 * A1.toNat + (A3.toNat + k)))) (v 130) (v 106 35).toInt)) 129 (flN (fun k => prsOf (v 133 (60 * A1.toNat + (A3.toNat + k)))) (v 129) (v 106 35).toInt)))) ∧ w = w' ∧ sg = sg')) 0 0 (gA G) := by
  refine gM_ofi (cc := cX10_scan) (maxL := 6) (by decide) rfl (Nat.le_of_ble_eq_true rfl) ?_
  intro p e R s m args below meth c Q ls C hR ret h hl
  have hx := C.1.1
  have hb := C.1.2.1
  have hown := C.1.2.2.2.1
  have hts := C.1.2.2.2.2
  have hl : lv_has ls 6 [(0, .ref (G.2.2 (106))), (1, .int (p1)), (2, .int (p2)), (3, .int (p3))] := hl
  have q1 := i_rng p1; rw [a1] at q1
  have q2 := i_rng p2; rw [a2] at q2
  have q3 := i_rng p3; rw [a3] at q3
  have z_m13 : ((-13) : Int32).toInt = (-13) := by decide
  have z_m12 : ((-12) : Int32).toInt = (-12) := by decide
  have z_m11 : ((-11) : Int32).toInt = (-11) := by decide
  have z_m4 : ((-4) : Int32).toInt = (-4) := by decide
  have z_m1 : ((-1) : Int32).toInt = (-1) := by decide
  have z_0 : (0 : Int32).toInt = 0 := by decide
  have z_1 : (1 : Int32).toInt = 1 := by decide
  have z_60 : (60 : Int32).toInt = 60 := by decide
  have k271 : (Cond.constantLong RX10 271 (3)).before args s = true := hts _ (by decide +kernel)
  have k122 : (Cond.constantLong RX10 122 (2)).before args s = true := hts _ (by decide +kernel)
  have f101 : Cond.fieldLink RX10 101 "WindHallModel" "lanes" "[I" ∈ wsX10_scan := by decide +kernel
  have hi10 : ∀ x ∈ u_ws RX10 TX10 42, x ∈ wsX10_scan := fun x q => List.mem_cons_of_mem _ (List.mem_append_right _ q)
  have f273 : Cond.fieldLink RX10 273 "WindHallModel" "tubes" "I" ∈ wsX10_scan := by decide +kernel
  have f107 : Cond.fieldLink RX10 107 "WindHallModel" "cells" "[I" ∈ wsX10_scan := by decide +kernel
  have f98 : Cond.fieldLink RX10 98 "WindHallModel" "isLost" "[Z" ∈ wsX10_scan := by decide +kernel
  have k276 : (Cond.constantLong RX10 276 (-1000)).before args s = true := hts _ (by decide +kernel)
  have k194 : (Cond.constantLong RX10 194 (1000)).before args s = true := hts _ (by decide +kernel)
  have f95 : Cond.fieldLink RX10 95 "WindHallModel" "pressures" "[I" ∈ wsX10_scan := by decide +kernel
  have f104 : Cond.fieldLink RX10 104 "WindHallModel" "sizes" "[I" ∈ wsX10_scan := by decide +kernel
  have o_1 := mi
  obtain ⟨I7, I10, I18, I22, I27, I29, I32, Is, I35, Ia, Iar, Isz, Ian⟩ := o_1
  refine lv_iload_n hx hb dX10_scan_0 rfl (lv_at hl 1 rfl) ?_
  refine lv_i2l (v := (p1 : Int32).toInt64) hx hb dX10_scan_1 rfl ?_
  refine lv_lconst (v := 0) hx hb dX10_scan_2 (by decide) ?_
  refine lv_ldc2 hx hb hown k271 dX10_scan_3 ?_
  refine g_calli C (va_runS (As := [.long ((p1 : Int32).toInt64), .long (0), .long (3)]) (rest := []) C.1 (c_X10_in l G v w sg ((p1 : Int32).toInt64) (A0 := A1) (il_of a1) (0) (A2 := 0) (by decide) (3) (A4 := 3) (by decide)) (va_cwS 3 hts gX10_scan_X10_in rfl rfl rfl (by decide +kernel) ⟨by rw [hR]; exact Nat.le_of_ble_eq_true rfl, by rw [hR]; exact Nat.le_of_ble_eq_true rfl⟩) ⟨gPre_blind, gS_pre C h _⟩ rfl rfl hl.1 rfl (lv_room (Nat.le_of_ble_eq_true rfl)) dX10_scan_6 ⟨Nat.zero_le _, Nat.zero_le _⟩) h (fun r_2 v_4 w_5 g_6 H locs p_3 h => ?_)
  obtain ⟨p_3, rfl, rfl, rfl⟩ := p_3
  rcases p_3 with ⟨rfl, t_7⟩ | ⟨rfl, t_7⟩
  · skip
    refine lv_if_eq (tgt := 24) hx hb dX10_scan_9 (by decide) (fun c_8 => absurd c_8 (by decide)) (fun _ => ?_)
    refine lv_iload_n hx hb dX10_scan_12 rfl (lv_at hl 2 rfl) ?_
    refine lv_i2l (v := (p2 : Int32).toInt64) hx hb dX10_scan_13 rfl ?_
    refine lv_lconst (v := 0) hx hb dX10_scan_14 (by decide) ?_
    refine lv_ldc2 hx hb hown k122 dX10_scan_15 ?_
    refine g_calli C (va_runS (As := [.long ((p2 : Int32).toInt64), .long (0), .long (2)]) (rest := []) C.1 (c_X10_in l G v w sg ((p2 : Int32).toInt64) (A0 := A2) (il_of a2) (0) (A2 := 0) (by decide) (2) (A4 := 2) (by decide)) (va_cwS 3 hts gX10_scan_X10_in rfl rfl rfl (by decide +kernel) ⟨by rw [hR]; exact Nat.le_of_ble_eq_true rfl, by rw [hR]; exact Nat.le_of_ble_eq_true rfl⟩) ⟨gPre_blind, gS_pre C h _⟩ rfl rfl hl.1 rfl (lv_room (Nat.le_of_ble_eq_true rfl)) dX10_scan_18 ⟨Nat.zero_le _, Nat.zero_le _⟩) h (fun r_9 v_11 w_12 g_13 H locs p_10 h => ?_)
    obtain ⟨p_10, rfl, rfl, rfl⟩ := p_10
    rcases p_10 with ⟨rfl, t_14⟩ | ⟨rfl, t_14⟩
    · skip
      refine lv_if_ne (tgt := 26) hx hb dX10_scan_21 (by decide) (fun _ => ?_) (fun c_15 => absurd c_15 (by decide))
      refine lv_aload_n hx hb dX10_scan_26 rfl (lv_at hl 0 rfl) ?_
      refine g_get (ci := 10) (x := .ref (G.2.2 (131))) C h 106 (by decide) rfl rfl hi10 39 (by decide) f101 rfl rfl dX10_scan_27 ?_
      refine lv_iload_n hx hb dX10_scan_30 rfl (lv_at hl 1 rfl) ?_
      refine g_iald C h 131 (by decide) (by decide) (n := 4) (by decide) (vp_of a1 (by omega) (by omega)) dX10_scan_31 ?_
      refine lv_topi (fun x_16 e_17 => ?_)
      have hln1 : (x_16).toInt = (v 131 A1.toNat).toInt := by rw [e_17, cl_nat a1]
      refine lv_iload_n hx hb dX10_scan_32 rfl (lv_at hl 2 rfl) ?_
      refine lv_icmp_eq (tgt := 55) hx hb dX10_scan_33 (by decide) (fun c_18 => ?_) (fun c_18 => ?_)
      · have j_19 : (x_16).toInt = A2 := (i_eq rfl a2).mp c_18
        refine lv_aload_n hx hb dX10_scan_55 rfl (lv_at hl 0 rfl) ?_
        refine g_geti (ci := 10) (x := v 106 35) C h 106 (by decide) rfl rfl hi10 35 (by decide) f273 rfl rfl rfl dX10_scan_56 ?_
        have J88_19 : ∀ (H : Heap) (locs : List Loc) (ls : Array Slot), (((v 106 35) : Int32).toInt ≤ 0 ∨ (0 ≤ A3 ∧ A3 + ((v 106 35) : Int32).toInt ≤ 60)) → (((v 106 35).toInt ≤ 0 ∨ (0 ≤ A3 ∧ A3 + (v 106 35).toInt ≤ (v 132 A1.toNat).toInt))) → gS (gA G) G s v w sg H locs → lv_has ls 6 [(0, .ref (G.2.2 (106))), (1, .int (p1)), (2, .int (p2)), (3, .int (p3))] → W p l e R s m args below meth c H locs 0 0 Q (F0 m 88 ls []) := by
          intro  H locs ls f_20 f_21 h hl
          refine lv_iconst (v := 0) hx hb dX10_scan_88 (by decide) ?_
          have J91_23 : ∀ (n : Nat) (y_22 : Int32) (v_23 : Nat → Nat → Int32) (H : Heap) (locs : List Loc) (ls : Array Slot), ((v 106 35).toInt - (y_22).toInt).toNat < n → (mI v_23) → (fM 128 131 35 36 v w v_23 w) → (0 ≤ (y_22).toInt ∧ (y_22).toInt ≤ (v 106 35).toInt) → (v_23 = va_up (va_up v 130 (flN (fun k => lostOf (v 133 (60 * A1.toNat + (A3.toNat + k)))) (v 130) (y_22).toInt)) 129 (flN (fun k => prsOf (v 133 (60 * A1.toNat + (A3.toNat + k)))) (v 129) (y_22).toInt)) → gS (gA G) G s v_23 w sg H locs → lv_has ls 6 [(0, .ref (G.2.2 (106))), (1, .int (p1)), (2, .int (p2)), (3, .int (p3)), (4, .int (y_22))] → W p l e R s m args below meth c H locs 0 0 Q (F0 m 91 ls []) := by
            intro n
            induction n with
            | zero => intro y_22 v_23 H locs ls hm; exact absurd hm (Nat.not_lt_zero _)
            | succ n ih91 =>
              intro y_22 v_23 H locs ls hm u_24 u_25 f_26 f_27 h hl
              have o_28 := u_24
              obtain ⟨I7, I10, I18, I22, I27, I29, I32, Is, I35, Ia, Iar, Isz, Ian⟩ := o_28
              have e106 : (v_23) 106 = v 106 := by rw [f_27]; rfl
              have e35 : ((v_23) 106 35).toInt = (v 106 35).toInt := by rw [e106]
              refine lv_iload hx hb dX10_scan_91 (lv_at hl 4 rfl) ?_
              refine lv_aload_n hx hb dX10_scan_93 rfl (lv_at hl 0 rfl) ?_
              refine g_geti (ci := 10) (x := v_23 106 35) C h 106 (by decide) rfl rfl hi10 35 (by decide) f273 rfl rfl rfl dX10_scan_94 ?_
              refine lv_icmp_ge (tgt := 172) hx hb dX10_scan_97 (by decide) (fun c_29 => ?_) (fun c_29 => ?_)
              · have j_30 : (v_23 106 35).toInt ≤ (y_22).toInt := (i_le rfl rfl).mp c_29
                refine lv_aload_n hx hb dX10_scan_172 rfl (lv_at hl 0 rfl) ?_
                refine g_calli C (va_runV (As := []) (rest := []) C.1 (c_X10_lostMany l G v_23 w sg  u_24) (cwV 0 hts gX10_scan_X10_lostMany rfl rfl rfl (by decide +kernel) ⟨by rw [hR]; exact Nat.le_of_ble_eq_true rfl, by rw [hR]; exact Nat.le_of_ble_eq_true rfl⟩) ⟨gPre_blind, g_recv C h 106 (by decide) (ci := 10) rfl rfl, gS_pre C h _⟩ rfl rfl hl.1 rfl (lv_room (Nat.le_of_ble_eq_true rfl)) dX10_scan_173 ⟨Nat.zero_le _, Nat.zero_le _⟩) h (fun r_31 v_33 w_34 g_35 H locs p_32 h => ?_)
                obtain ⟨p_32, rfl, rfl, rfl⟩ := p_32
                have hlm := p_32.2.2
                rw [e106] at hlm
                exact ret r_31 v_23 w sg _ _ _ _ dX10_scan_176 h ⟨⟨u_24, u_25, Or.inr (Or.inr (Or.inr (Or.inr (⟨(by unfold rF32; omega), (by omega), (by omega), hlm, (f_27.trans (by rw [show (y_22).toInt = (v 106 35).toInt by omega]))⟩))))⟩, rfl, rfl⟩
              · have j_30 : ¬ ((v_23 106 35).toInt ≤ (y_22).toInt) := fun q => c_29 ((i_le rfl rfl).mpr q)
                have hf3 : 0 ≤ A3 ∧ A3 ≤ 60 := by omega
                refine lv_aload_n hx hb dX10_scan_100 rfl (lv_at hl 0 rfl) ?_
                refine g_get (ci := 10) (x := .ref (G.2.2 (133))) C h 106 (by decide) rfl rfl hi10 41 (by decide) f107 rfl rfl dX10_scan_101 ?_
                refine lv_bipush (v := 60) hx hb dX10_scan_104 (by decide) ?_
                refine lv_iload_n hx hb dX10_scan_106 rfl (lv_at hl 1 rfl) ?_
                refine lv_imul hx hb dX10_scan_107 ?_
                refine lv_topi (fun x_36 e_37 => ?_)
                have i_38 : x_36.toInt = 60 * A1 := ia_mul e_37 (by decide) a1 (by omega) (by omega)
                refine lv_iload_n hx hb dX10_scan_108 rfl (lv_at hl 3 rfl) ?_
                refine lv_iadd hx hb dX10_scan_109 ?_
                refine lv_topi (fun x_39 e_40 => ?_)
                have i_41 : x_39.toInt = (60 * A1) + A3 := ia_add e_40 i_38 a3 (by omega) (by omega)
                refine lv_iload hx hb dX10_scan_110 (lv_at hl 4 rfl) ?_
                refine lv_iadd hx hb dX10_scan_112 ?_
                refine lv_topi (fun x_42 e_43 => ?_)
                have i_44 : x_42.toInt = ((60 * A1) + A3) + (y_22).toInt := ia_add e_43 i_41 rfl (by omega) (by omega)
                refine g_iald C h 133 (by decide) (by decide) (n := 240) (by decide) (vp_of i_44 (by omega) (by omega)) dX10_scan_113 ?_
                refine lv_topi (fun x_45 e_46 => ?_)
                have hcl : x_45 = v 133 (60 * A1.toNat + (A3.toNat + (y_22 : Int32).toInt.toNat)) := by rw [e_46, cl_nat i_44, f_27, show ((((60 * A1) + A3) + (y_22).toInt)).toNat = 60 * A1.toNat + (A3.toNat + (y_22 : Int32).toInt.toNat) by omega]; rfl
                refine lv_istore (lv' := [(5, .int (x_45)), (0, .ref (G.2.2 (106))), (1, .int (p1)), (2, .int (p2)), (3, .int (p3)), (4, .int (y_22))]) hx hb dX10_scan_114 hl (by decide) rfl (fun ls hl => ?_)
                refine lv_aload_n hx hb dX10_scan_116 rfl (lv_at hl 1 rfl) ?_
                refine g_get (ci := 10) (x := .ref (G.2.2 (130))) C h 106 (by decide) rfl rfl hi10 38 (by decide) f98 rfl rfl dX10_scan_117 ?_
                refine lv_iload hx hb dX10_scan_120 (lv_at hl 5 rfl) ?_
                refine lv_iload hx hb dX10_scan_122 (lv_at hl 0 rfl) ?_
                have q_47 := i_rng x_45
                refine lv_i2l (v := (x_45 : Int32).toInt64) hx hb dX10_scan_124 rfl ?_
                refine lv_ldc2 hx hb hown k276 dX10_scan_125 ?_
                refine lv_ldc2 hx hb hown k194 dX10_scan_128 ?_
                refine g_calli C (va_runS (As := [.long ((x_45 : Int32).toInt64), .long ((-1000)), .long (1000)]) (rest := [.int (y_22), .ref (G.2.2 (130))]) C.1 (c_X10_in l G v_23 w sg ((x_45 : Int32).toInt64) (A0 := (x_45).toInt) (il_of rfl) ((-1000)) (A2 := (-1000)) (by decide) (1000) (A4 := 1000) (by decide)) (va_cwS 3 hts gX10_scan_X10_in rfl rfl rfl (by decide +kernel) ⟨by rw [hR]; exact Nat.le_of_ble_eq_true rfl, by rw [hR]; exact Nat.le_of_ble_eq_true rfl⟩) ⟨gPre_blind, gS_pre C h _⟩ rfl rfl hl.1 rfl (lv_room (Nat.le_of_ble_eq_true rfl)) dX10_scan_131 ⟨Nat.zero_le _, Nat.zero_le _⟩) h (fun r_48 v_50 w_51 g_52 H locs p_49 h => ?_)
                obtain ⟨p_49, rfl, rfl, rfl⟩ := p_49
                rcases p_49 with ⟨rfl, t_53⟩ | ⟨rfl, t_53⟩
                · skip
                  have J142_54 : ∀ (y_54 : Int32) (H : Heap) (locs : List Loc) (ls : Array Slot), (y_54 = lostOf x_45) → gS (gA G) G s v_23 w sg H locs → lv_has ls 6 [(0, .ref (G.2.2 (106))), (1, .int (p1)), (2, .int (p2)), (3, .int (p3)), (4, .int (y_22)), (5, .int (x_45))] → W p l e R s m args below meth c H locs 0 0 Q (F0 m 142 ls [.int (y_54), .int (y_22), .ref (G.2.2 (130))]) := by
                    intro y_54 H locs ls f_55 h hl
                    refine g_zast C h 130 (by decide) (by decide) (n := 10) (by decide) (vp_of rfl (by omega) (by omega)) dX10_scan_142 (fun H locs h => ?_)
                    obtain ⟨v_56, hv_56⟩ : ∃ z, z = gu v_23 130 ((y_22 : Int32).toNatClampNeg) (vp_nar .boolean y_54) := ⟨_, rfl⟩
                    have h : gS (gA G) G s v_56 w sg H locs := by rw [hv_56]; exact h
                    have u_57 : mI v_56 := by rw [hv_56]; exact u_24
                    have u_58 : fM 128 131 35 36 v w v_56 w := by rw [hv_56]; exact (fM_v u_25 (by decide))
                    refine lv_aload_n hx hb dX10_scan_143 rfl (lv_at hl 0 rfl) ?_
                    refine g_get (ci := 10) (x := .ref (G.2.2 (129))) C h 106 (by decide) rfl rfl hi10 37 (by decide) f95 rfl rfl dX10_scan_144 ?_
                    refine lv_iload hx hb dX10_scan_147 (lv_at hl 4 rfl) ?_
                    refine lv_aload_n hx hb dX10_scan_149 rfl (lv_at hl 0 rfl) ?_
                    refine g_get (ci := 10) (x := .ref (G.2.2 (130))) C h 106 (by decide) rfl rfl hi10 38 (by decide) f98 rfl rfl dX10_scan_150 ?_
                    refine lv_iload hx hb dX10_scan_153 (lv_at hl 4 rfl) ?_
                    refine g_zald C h 130 (by decide) (by decide) (n := 10) (by decide) (vp_of rfl (by omega) (by omega)) dX10_scan_155 ?_
                    refine lv_topi (fun x_59 e_60 => ?_)
                    have hq : x_59 = lostOf x_45 := (rd_self hv_56 e_60).trans ((nar01 (f_55 ▸ lost01 _)).trans f_55)
                    have J165_61 : ∀ (y_61 : Int32) (H : Heap) (locs : List Loc) (ls : Array Slot), (y_61 = prsOf x_45) → gS (gA G) G s v_56 w sg H locs → lv_has ls 6 [(0, .ref (G.2.2 (106))), (1, .int (p1)), (2, .int (p2)), (3, .int (p3)), (4, .int (y_22)), (5, .int (x_45))] → W p l e R s m args below meth c H locs 0 0 Q (F0 m 165 ls [.int (y_61), .int (y_22), .ref (G.2.2 (129))]) := by
                      intro y_61 H locs ls f_62 h hl
                      refine g_iast C h 129 (by decide) (by decide) (n := 10) (by decide) (vp_of rfl (by omega) (by omega)) dX10_scan_165 (fun H locs h => ?_)
                      obtain ⟨v_63, hv_63⟩ : ∃ z, z = gu v_56 129 ((y_22 : Int32).toNatClampNeg) y_61 := ⟨_, rfl⟩
                      have h : gS (gA G) G s v_63 w sg H locs := by rw [hv_63]; exact h
                      have u_64 : mI v_63 := by rw [hv_63]; exact u_57
                      have u_65 : fM 128 131 35 36 v w v_63 w := by rw [hv_63]; exact (fM_v u_58 (by decide))
                      obtain ⟨x_66, e_67⟩ : ∃ y : Int32, y = y_22 + 1 := ⟨_, rfl⟩
                      have i_68 : x_66.toInt = (y_22).toInt + 1 := ia_add e_67 rfl (by decide) (by omega) (by omega)
                      refine lv_iinc (v := x_66) (lv' := [(4, .int (x_66)), (0, .ref (G.2.2 (106))), (1, .int (p1)), (2, .int (p2)), (3, .int (p3)), (5, .int (x_45))]) hx hb dX10_scan_166 hl (k := 4) rfl (by rw [e_67]; rfl) (by decide) rfl (fun ls hl => ?_)
                      refine lv_goto (tgt := 91) hx hb dX10_scan_169 (by decide) ?_
                      exact ih91 x_66 v_63 _ _ _ (by omega) u_64 u_65 (by omega) (tk_st (k := 130) (l := 129) (i := y_22) (by decide) f_27 hv_56 hv_63 rfl (by omega) (by omega) ((nar01 (f_55 ▸ lost01 _)).trans (f_55.trans (congrArg lostOf hcl))) (f_62.trans (congrArg prsOf hcl))) h (lv_sub hl [1, 2, 3, 4, 0] rfl)
                    refine lv_if_eq (tgt := 163) hx hb dX10_scan_156 (by decide) (fun c_69 => ?_) (fun c_69 => ?_)
                    · have j_70 : (x_59).toInt = 0 := (i_eq rfl (by decide)).mp c_69
                      refine lv_iload hx hb dX10_scan_163 (lv_at hl 5 rfl) ?_
                      exact J165_61 x_45 _ _ _ (by first | exact prs_z hq (by omega) | exact prs_n hq (by omega)) h (lv_sub hl [0, 1, 2, 3, 4, 5] rfl)
                    · have j_70 : ¬ ((x_59).toInt = 0) := fun q => c_69 ((i_eq rfl (by decide)).mpr q)
                      refine lv_iconst (v := 0) hx hb dX10_scan_159 (by decide) ?_
                      refine lv_goto (tgt := 165) hx hb dX10_scan_160 (by decide) ?_
                      exact J165_61 0 _ _ _ (by first | exact prs_z hq (by omega) | exact prs_n hq (by omega)) h (lv_sub hl [0, 1, 2, 3, 4, 5] rfl)
                  refine lv_if_ne (tgt := 141) hx hb dX10_scan_134 (by decide) (fun _ => ?_) (fun c_71 => absurd c_71 (by decide))
                  refine lv_iconst (v := 0) hx hb dX10_scan_141 (by decide) ?_
                  exact J142_54 0 _ _ _ (by unfold lostOf; split <;> first | rfl | omega) h (lv_sub hl [1, 2, 3, 4, 5, 0] rfl)
                · skip
                  have J142_72 : ∀ (y_72 : Int32) (H : Heap) (locs : List Loc) (ls : Array Slot), (y_72 = lostOf x_45) → gS (gA G) G s v_23 w sg H locs → lv_has ls 6 [(0, .ref (G.2.2 (106))), (1, .int (p1)), (2, .int (p2)), (3, .int (p3)), (4, .int (y_22)), (5, .int (x_45))] → W p l e R s m args below meth c H locs 0 0 Q (F0 m 142 ls [.int (y_72), .int (y_22), .ref (G.2.2 (130))]) := by
                    intro y_72 H locs ls f_73 h hl
                    refine g_zast C h 130 (by decide) (by decide) (n := 10) (by decide) (vp_of rfl (by omega) (by omega)) dX10_scan_142 (fun H locs h => ?_)
                    obtain ⟨v_74, hv_74⟩ : ∃ z, z = gu v_23 130 ((y_22 : Int32).toNatClampNeg) (vp_nar .boolean y_72) := ⟨_, rfl⟩
                    have h : gS (gA G) G s v_74 w sg H locs := by rw [hv_74]; exact h
                    have u_75 : mI v_74 := by rw [hv_74]; exact u_24
                    have u_76 : fM 128 131 35 36 v w v_74 w := by rw [hv_74]; exact (fM_v u_25 (by decide))
                    refine lv_aload_n hx hb dX10_scan_143 rfl (lv_at hl 0 rfl) ?_
                    refine g_get (ci := 10) (x := .ref (G.2.2 (129))) C h 106 (by decide) rfl rfl hi10 37 (by decide) f95 rfl rfl dX10_scan_144 ?_
                    refine lv_iload hx hb dX10_scan_147 (lv_at hl 4 rfl) ?_
                    refine lv_aload_n hx hb dX10_scan_149 rfl (lv_at hl 0 rfl) ?_
                    refine g_get (ci := 10) (x := .ref (G.2.2 (130))) C h 106 (by decide) rfl rfl hi10 38 (by decide) f98 rfl rfl dX10_scan_150 ?_
                    refine lv_iload hx hb dX10_scan_153 (lv_at hl 4 rfl) ?_
                    refine g_zald C h 130 (by decide) (by decide) (n := 10) (by decide) (vp_of rfl (by omega) (by omega)) dX10_scan_155 ?_
                    refine lv_topi (fun x_77 e_78 => ?_)
                    have hq : x_77 = lostOf x_45 := (rd_self hv_74 e_78).trans ((nar01 (f_73 ▸ lost01 _)).trans f_73)
                    have J165_79 : ∀ (y_79 : Int32) (H : Heap) (locs : List Loc) (ls : Array Slot), (y_79 = prsOf x_45) → gS (gA G) G s v_74 w sg H locs → lv_has ls 6 [(0, .ref (G.2.2 (106))), (1, .int (p1)), (2, .int (p2)), (3, .int (p3)), (4, .int (y_22)), (5, .int (x_45))] → W p l e R s m args below meth c H locs 0 0 Q (F0 m 165 ls [.int (y_79), .int (y_22), .ref (G.2.2 (129))]) := by
                      intro y_79 H locs ls f_80 h hl
                      refine g_iast C h 129 (by decide) (by decide) (n := 10) (by decide) (vp_of rfl (by omega) (by omega)) dX10_scan_165 (fun H locs h => ?_)
                      obtain ⟨v_81, hv_81⟩ : ∃ z, z = gu v_74 129 ((y_22 : Int32).toNatClampNeg) y_79 := ⟨_, rfl⟩
                      have h : gS (gA G) G s v_81 w sg H locs := by rw [hv_81]; exact h
                      have u_82 : mI v_81 := by rw [hv_81]; exact u_75
                      have u_83 : fM 128 131 35 36 v w v_81 w := by rw [hv_81]; exact (fM_v u_76 (by decide))
                      obtain ⟨x_84, e_85⟩ : ∃ y : Int32, y = y_22 + 1 := ⟨_, rfl⟩
                      have i_86 : x_84.toInt = (y_22).toInt + 1 := ia_add e_85 rfl (by decide) (by omega) (by omega)
                      refine lv_iinc (v := x_84) (lv' := [(4, .int (x_84)), (0, .ref (G.2.2 (106))), (1, .int (p1)), (2, .int (p2)), (3, .int (p3)), (5, .int (x_45))]) hx hb dX10_scan_166 hl (k := 4) rfl (by rw [e_85]; rfl) (by decide) rfl (fun ls hl => ?_)
                      refine lv_goto (tgt := 91) hx hb dX10_scan_169 (by decide) ?_
                      exact ih91 x_84 v_81 _ _ _ (by omega) u_82 u_83 (by omega) (tk_st (k := 130) (l := 129) (i := y_22) (by decide) f_27 hv_74 hv_81 rfl (by omega) (by omega) ((nar01 (f_73 ▸ lost01 _)).trans (f_73.trans (congrArg lostOf hcl))) (f_80.trans (congrArg prsOf hcl))) h (lv_sub hl [1, 2, 3, 4, 0] rfl)
                    refine lv_if_eq (tgt := 163) hx hb dX10_scan_156 (by decide) (fun c_87 => ?_) (fun c_87 => ?_)
                    · have j_88 : (x_77).toInt = 0 := (i_eq rfl (by decide)).mp c_87
                      refine lv_iload hx hb dX10_scan_163 (lv_at hl 5 rfl) ?_
                      exact J165_79 x_45 _ _ _ (by first | exact prs_z hq (by omega) | exact prs_n hq (by omega)) h (lv_sub hl [0, 1, 2, 3, 4, 5] rfl)
                    · have j_88 : ¬ ((x_77).toInt = 0) := fun q => c_87 ((i_eq rfl (by decide)).mpr q)
                      refine lv_iconst (v := 0) hx hb dX10_scan_159 (by decide) ?_
                      refine lv_goto (tgt := 165) hx hb dX10_scan_160 (by decide) ?_
                      exact J165_79 0 _ _ _ (by first | exact prs_z hq (by omega) | exact prs_n hq (by omega)) h (lv_sub hl [0, 1, 2, 3, 4, 5] rfl)
                  refine lv_if_ne (tgt := 141) hx hb dX10_scan_134 (by decide) (fun c_89 => absurd (by decide) c_89) (fun _ => ?_)
                  refine lv_iconst (v := 1) hx hb dX10_scan_137 (by decide) ?_
                  refine lv_goto (tgt := 142) hx hb dX10_scan_138 (by decide) ?_
                  exact J142_72 1 _ _ _ (by unfold lostOf; split <;> first | rfl | omega) h (lv_sub hl [1, 2, 3, 4, 5, 0] rfl)
          refine lv_istore (lv' := [(4, .int (0)), (0, .ref (G.2.2 (106))), (1, .int (p1)), (2, .int (p2)), (3, .int (p3))]) hx hb dX10_scan_89 hl (by decide) rfl (fun ls hl => ?_)
          exact J91_23 _ 0 v _ _ _ (Nat.lt_succ_self _) mi fM_rf (by omega) (by rw [fl_0 (by decide), fl_0 (by decide), up_id, up_id]) h (lv_sub hl [1, 2, 3, 4, 0] rfl)
        refine lv_if_le (tgt := 88) hx hb dX10_scan_59 (by decide) (fun c_90 => ?_) (fun c_90 => ?_)
        · have j_91 : (v 106 35).toInt ≤ 0 := (i_le rfl (by decide)).mp c_90
          exact J88_19  _ _ _ (by omega) (by omega) h (lv_sub hl [0, 1, 2, 3] rfl)
        · have j_91 : ¬ ((v 106 35).toInt ≤ 0) := fun q => c_90 ((i_le rfl (by decide)).mpr q)
          refine lv_iload_n hx hb dX10_scan_62 rfl (lv_at hl 3 rfl) ?_
          refine lv_if_lt (tgt := 85) hx hb dX10_scan_63 (by decide) (fun c_92 => ?_) (fun c_92 => ?_)
          · have j_93 : A3 < 0 := (i_lt a3 (by decide)).mp c_92
            refine lv_bipush (v := (-12)) hx hb dX10_scan_85 (by decide) ?_
            exact ret (-12) v w sg _ _ _ _ dX10_scan_87 h ⟨⟨mi, fM_rf, Or.inr (Or.inr (Or.inr (Or.inl ⟨(by unfold rF32; omega), (by omega), (by omega), rfl, rfl⟩)))⟩, rfl, rfl⟩
          · have j_93 : ¬ (A3 < 0) := fun q => c_92 ((i_lt a3 (by decide)).mpr q)
            refine lv_iload_n hx hb dX10_scan_66 rfl (lv_at hl 3 rfl) ?_
            refine lv_i2l (v := (p3 : Int32).toInt64) hx hb dX10_scan_67 rfl ?_
            refine lv_aload_n hx hb dX10_scan_68 rfl (lv_at hl 0 rfl) ?_
            refine g_geti (ci := 10) (x := v 106 35) C h 106 (by decide) rfl rfl hi10 35 (by decide) f273 rfl rfl rfl dX10_scan_69 ?_
            refine lv_i2l (v := (v 106 35 : Int32).toInt64) hx hb dX10_scan_72 rfl ?_
            refine lv_ladd hx hb dX10_scan_73 ?_
            refine lv_topl (fun x_94 e_95 => ?_)
            have i_96 : x_94.toInt = A3 + (v 106 35).toInt := la_add e_95 (il_of a3) (il_of rfl) (by omega) (by omega)
            refine lv_aload_n hx hb dX10_scan_74 rfl (lv_at hl 0 rfl) ?_
            refine g_get (ci := 10) (x := .ref (G.2.2 (132))) C h 106 (by decide) rfl rfl hi10 40 (by decide) f104 rfl rfl dX10_scan_75 ?_
            refine lv_iload_n hx hb dX10_scan_78 rfl (lv_at hl 1 rfl) ?_
            refine g_iald C h 132 (by decide) (by decide) (n := 4) (by decide) (vp_of a1 (by omega) (by omega)) dX10_scan_79 ?_
            refine lv_topi (fun x_97 e_98 => ?_)
            have hz := Isz (p1).toNatClampNeg (by have := cl_of a1 (by omega); omega)
            rw [← e_98] at hz
            have hsz : (x_97).toInt = (v 132 A1.toNat).toInt := by rw [e_98, cl_nat a1]
            refine lv_i2l (v := (x_97 : Int32).toInt64) hx hb dX10_scan_80 rfl ?_
            refine W.lcmp hx hb dX10_scan_81 ?_
            refine lv_if_le (tgt := 88) hx hb dX10_scan_82 (by decide) (fun c_99 => ?_) (fun c_99 => ?_)
            · have j_100 : (A3 + (v 106 35).toInt) ≤ (x_97).toInt := (l_le0 i_96 (il_of rfl)).mp c_99
              exact J88_19  _ _ _ (by omega) (by omega) h (lv_sub hl [0, 1, 2, 3] rfl)
            · have j_100 : ¬ ((A3 + (v 106 35).toInt) ≤ (x_97).toInt) := fun q => c_99 ((l_le0 i_96 (il_of rfl)).mpr q)
              refine lv_bipush (v := (-12)) hx hb dX10_scan_85 (by decide) ?_
              exact ret (-12) v w sg _ _ _ _ dX10_scan_87 h ⟨⟨mi, fM_rf, Or.inr (Or.inr (Or.inr (Or.inl ⟨(by unfold rF32; omega), (by omega), (by omega), rfl, rfl⟩)))⟩, rfl, rfl⟩
      · have j_19 : ¬ ((x_16).toInt = A2) := fun q => c_18 ((i_eq rfl a2).mpr q)
        refine lv_aload_n hx hb dX10_scan_36 rfl (lv_at hl 0 rfl) ?_
        refine g_get (ci := 10) (x := .ref (G.2.2 (131))) C h 106 (by decide) rfl rfl hi10 39 (by decide) f101 rfl rfl dX10_scan_37 ?_
        refine lv_iload_n hx hb dX10_scan_40 rfl (lv_at hl 1 rfl) ?_
        refine g_iald C h 131 (by decide) (by decide) (n := 4) (by decide) (vp_of a1 (by omega) (by omega)) dX10_scan_41 ?_
        refine lv_topi (fun x_101 e_102 => ?_)
        have hln2 : (x_101).toInt = (v 131 A1.toNat).toInt := by rw [e_102, cl_nat a1]
        refine lv_bipush (v := (-4)) hx hb dX10_scan_42 (by decide) ?_
        refine lv_icmp_ne (tgt := 52) hx hb dX10_scan_44 (by decide) (fun c_103 => ?_) (fun c_103 => ?_)
        · have j_104 : ¬ ((x_101).toInt = (-4)) := fun q => c_103 ((i_eq rfl (by decide)).mpr q)
          refine lv_bipush (v := (-13)) hx hb dX10_scan_52 (by decide) ?_
          exact ret (-13) v w sg _ _ _ _ dX10_scan_54 h ⟨⟨mi, fM_rf, Or.inr (Or.inr (Or.inl ⟨(by unfold rF32; omega), (by omega), (by omega), rfl, rfl⟩))⟩, rfl, rfl⟩
        · have j_104 : (x_101).toInt = (-4) := (i_eq rfl (by decide)).mp c_103
          refine lv_bipush (v := (-11)) hx hb dX10_scan_47 (by decide) ?_
          refine lv_goto (tgt := 54) hx hb dX10_scan_49 (by decide) ?_
          exact ret (-11) v w sg _ _ _ _ dX10_scan_54 h ⟨⟨mi, fM_rf, Or.inr (Or.inl ⟨(by unfold rF32; omega), (by omega), (by omega), rfl, rfl⟩)⟩, rfl, rfl⟩
    · skip
      refine lv_if_ne (tgt := 26) hx hb dX10_scan_21 (by decide) (fun c_105 => absurd (by decide) c_105) (fun _ => ?_)
      refine lv_iconst (v := (-1)) hx hb dX10_scan_24 (by decide) ?_
      exact ret (-1) v w sg _ _ _ _ dX10_scan_25 h ⟨⟨mi, fM_rf, Or.inl ⟨(by unfold rF32; omega), rfl, rfl⟩⟩, rfl, rfl⟩
  · skip
    refine lv_if_eq (tgt := 24) hx hb dX10_scan_9 (by decide) (fun _ => ?_) (fun c_106 => absurd (by decide) c_106)
    refine lv_iconst (v := (-1)) hx hb dX10_scan_24 (by decide) ?_
    exact ret (-1) v w sg _ _ _ _ dX10_scan_25 h ⟨⟨mi, fM_rf, Or.inl ⟨(by unfold rF32; omega), rfl, rfl⟩⟩, rfl, rfl⟩

set_option maxHeartbeats 4000000 in
set_option maxRecDepth 100000 in
theorem c_X10_check (l : Launch) (G : gG) (v : Nat → Nat → Int32) (w : Nat → Nat → Int64) (sg : Nat → Nat) (p1 : Int32) {A1 : Int} (a1 : p1.toInt = A1) (p2 : Int32) {A2 : Int} (a2 : p2.toInt = A2) (bm : bM v) (mi : mI v) : Met l yX10_check wsX10_check ({ frames := 2, cells := 0, slots := 0, locals := 45 }) (gPre G v w sg [.ref (G.2.2 (106)), .int (p1), .int (p2)]) (gQi G (fun r v' w' sg' => ((¬ rF34 A1 A2 ∧ r = -1) ∨ (rF34 A1 A2 ∧ 0 < (sumN (fun k => lo1 (v 130 k)) (v 106 35).toInt.toNat).toInt ∧ r = -2) ∨ (rF34 A1 A2 ∧ (sumN (fun k => lo1 (v 130 k)) (v 106 35).toInt.toNat).toInt ≤ 0 ∧ ((-A2 ≤ A1 - (sumN (fcM v) (v 106 35).toInt.toNat).toInt ∧ A1 - (sumN (fcM v) (v 106 35).toInt.toNat).toInt ≤ A2 ∧ r = 0) ∨ (¬ (-A2 ≤ A1 - (sumN (fcM v) (v 106 35).toInt.toNat).toInt ∧ A1 - (sumN (fcM v) (v 106 35).toInt.toNat).toInt ≤ A2) ∧ ckR (fun k => cmQ (v 128 k).toInt (v 129 k).toInt (A1 - (sumN (fcM v) (v 106 35).toInt.toNat).toInt) A2) (v 106 35).toInt r.toInt)))) ∧ v = v' ∧ w = w' ∧ sg = sg')) 0 0 (gA G) := by
  refine gM_ofi (cc := cX10_check) (maxL := 10) (by decide) rfl (Nat.le_of_ble_eq_true rfl) ?_
  intro p e R s m args below meth c Q ls C hR ret h hl
  have hx := C.1.1
  have hb := C.1.2.1
  have hown := C.1.2.2.2.1
  have hts := C.1.2.2.2.2
  have hl : lv_has ls 10 [(0, .ref (G.2.2 (106))), (1, .int (p1)), (2, .int (p2))] := hl
  have q1 := i_rng p1; rw [a1] at q1
  have q2 := i_rng p2; rw [a2] at q2
  have z_m4 : ((-4) : Int32).toInt = (-4) := by decide
  have z_m2 : ((-2) : Int32).toInt = (-2) := by decide
  have z_m1 : ((-1) : Int32).toInt = (-1) := by decide
  have z_0 : (0 : Int32).toInt = 0 := by decide
  have z_1 : (1 : Int32).toInt = 1 := by decide
  have z_2 : (2 : Int32).toInt = 2 := by decide
  have z_10 : (10 : Int32).toInt = 10 := by decide
  have k262 : (Cond.constantLong RX10 262 (100000)).before args s = true := hts _ (by decide +kernel)
  have f273 : Cond.fieldLink RX10 273 "WindHallModel" "tubes" "I" ∈ wsX10_check := by decide +kernel
  have hi10 : ∀ x ∈ u_ws RX10 TX10 42, x ∈ wsX10_check := fun x q => List.mem_cons_of_mem _ (List.mem_append_right _ q)
  have f92 : Cond.fieldLink RX10 92 "WindHallModel" "areas" "[I" ∈ wsX10_check := by decide +kernel
  have f95 : Cond.fieldLink RX10 95 "WindHallModel" "pressures" "[I" ∈ wsX10_check := by decide +kernel
  have k194 : (Cond.constantLong RX10 194 (1000)).before args s = true := hts _ (by decide +kernel)
  have k276 : (Cond.constantLong RX10 276 (-1000)).before args s = true := hts _ (by decide +kernel)
  have o_1 := mi
  obtain ⟨I7, I10, I18, I22, I27, I29, I32, Is, I35, Ia, Iar, Isz, Ian⟩ := o_1
  refine lv_iload_n hx hb dX10_check_0 rfl (lv_at hl 1 rfl) ?_
  refine g_calli C (va_runS (As := [.int (p1)]) (rest := []) C.1 (c_X10_isReading l G v w sg p1 (A0 := A1) a1) (va_cwS 1 hts gX10_check_X10_isReading rfl rfl rfl (by decide +kernel) ⟨by rw [hR]; exact Nat.le_of_ble_eq_true rfl, by rw [hR]; exact Nat.le_of_ble_eq_true rfl⟩) ⟨gPre_blind, gS_pre C h _⟩ rfl rfl hl.1 rfl (lv_room (Nat.le_of_ble_eq_true rfl)) dX10_check_1 ⟨Nat.zero_le _, Nat.zero_le _⟩) h (fun r_2 v_4 w_5 g_6 H locs p_3 h => ?_)
  obtain ⟨p_3, rfl, rfl, rfl⟩ := p_3
  rcases p_3 with ⟨rfl, t_7⟩ | ⟨rfl, t_7⟩
  · skip
    refine lv_if_eq (tgt := 19) hx hb dX10_check_4 (by decide) (fun c_8 => absurd c_8 (by decide)) (fun _ => ?_)
    refine lv_iload_n hx hb dX10_check_7 rfl (lv_at hl 2 rfl) ?_
    refine lv_i2l (v := (p2 : Int32).toInt64) hx hb dX10_check_8 rfl ?_
    refine lv_lconst (v := 0) hx hb dX10_check_9 (by decide) ?_
    refine lv_ldc2 hx hb hown k262 dX10_check_10 ?_
    refine g_calli C (va_runS (As := [.long ((p2 : Int32).toInt64), .long (0), .long (100000)]) (rest := []) C.1 (c_X10_in l G v w sg ((p2 : Int32).toInt64) (A0 := A2) (il_of a2) (0) (A2 := 0) (by decide) (100000) (A4 := 100000) (by decide)) (va_cwS 3 hts gX10_check_X10_in rfl rfl rfl (by decide +kernel) ⟨by rw [hR]; exact Nat.le_of_ble_eq_true rfl, by rw [hR]; exact Nat.le_of_ble_eq_true rfl⟩) ⟨gPre_blind, gS_pre C h _⟩ rfl rfl hl.1 rfl (lv_room (Nat.le_of_ble_eq_true rfl)) dX10_check_13 ⟨Nat.zero_le _, Nat.zero_le _⟩) h (fun r_9 v_11 w_12 g_13 H locs p_10 h => ?_)
    obtain ⟨p_10, rfl, rfl, rfl⟩ := p_10
    rcases p_10 with ⟨rfl, t_14⟩ | ⟨rfl, t_14⟩
    · skip
      refine lv_if_ne (tgt := 21) hx hb dX10_check_16 (by decide) (fun _ => ?_) (fun c_15 => absurd c_15 (by decide))
      refine lv_aload_n hx hb dX10_check_21 rfl (lv_at hl 0 rfl) ?_
      refine g_calli C (va_runV (As := []) (rest := []) C.1 (c_X10_lostMany l G v w sg  mi) (cwV 0 hts gX10_check_X10_lostMany rfl rfl rfl (by decide +kernel) ⟨by rw [hR]; exact Nat.le_of_ble_eq_true rfl, by rw [hR]; exact Nat.le_of_ble_eq_true rfl⟩) ⟨gPre_blind, g_recv C h 106 (by decide) (ci := 10) rfl rfl, gS_pre C h _⟩ rfl rfl hl.1 rfl (lv_room (Nat.le_of_ble_eq_true rfl)) dX10_check_22 ⟨Nat.zero_le _, Nat.zero_le _⟩) h (fun r_16 v_18 w_19 g_20 H locs p_17 h => ?_)
      obtain ⟨p_17, rfl, rfl, rfl⟩ := p_17
      have hlc : (r_16).toInt = (sumN (fun k => lo1 (v 130 k)) (v 106 35).toInt.toNat).toInt := by rw [p_17.2.2]
      refine lv_if_le (tgt := 31) hx hb dX10_check_25 (by decide) (fun c_21 => ?_) (fun c_21 => ?_)
      · have j_22 : (r_16).toInt ≤ 0 := (i_le rfl (by decide)).mp c_21
        refine lv_aload_n hx hb dX10_check_31 rfl (lv_at hl 0 rfl) ?_
        refine g_calli C (va_runV (As := []) (rest := []) C.1 (c_X10_force l G v w sg  mi) (cwV 0 hts gX10_check_X10_force rfl rfl rfl (by decide +kernel) ⟨by rw [hR]; exact Nat.le_of_ble_eq_true rfl, by rw [hR]; exact Nat.le_of_ble_eq_true rfl⟩) ⟨gPre_blind, g_recv C h 106 (by decide) (ci := 10) rfl rfl, gS_pre C h _⟩ rfl rfl hl.1 rfl (lv_room (Nat.le_of_ble_eq_true rfl)) dX10_check_32 ⟨Nat.zero_le _, Nat.zero_le _⟩) h (fun r_23 v_25 w_26 g_27 H locs p_24 h => ?_)
        obtain ⟨p_24, rfl, rfl, rfl⟩ := p_24
        have hsi : (r_23).toInt = (sumN (fcM v) (v 106 35).toInt.toNat).toInt := by rw [p_24]
        have hsb := smM_b (v := v) (n := (v 106 35).toInt) (by omega) Iar bm
        unfold bd at hsb
        refine lv_istore_n (lv' := [(3, .int (r_23)), (0, .ref (G.2.2 (106))), (1, .int (p1)), (2, .int (p2))]) hx hb dX10_check_35 rfl hl (by decide) rfl (fun ls hl => ?_)
        refine lv_iload_n hx hb dX10_check_36 rfl (lv_at hl 0 rfl) ?_
        refine lv_i2l (v := (r_23 : Int32).toInt64) hx hb dX10_check_37 rfl ?_
        refine lv_iload_n hx hb dX10_check_38 rfl (lv_at hl 2 rfl) ?_
        refine lv_iload_n hx hb dX10_check_39 rfl (lv_at hl 3 rfl) ?_
        refine lv_isub hx hb dX10_check_40 ?_
        refine lv_topi (fun x_28 e_29 => ?_)
        have i_30 : x_28.toInt = A1 - A2 := ia_sub e_29 a1 a2 (by omega) (by omega)
        refine lv_i2l (v := (x_28 : Int32).toInt64) hx hb dX10_check_41 rfl ?_
        refine lv_iload_n hx hb dX10_check_42 rfl (lv_at hl 2 rfl) ?_
        refine lv_iload_n hx hb dX10_check_43 rfl (lv_at hl 3 rfl) ?_
        refine lv_iadd hx hb dX10_check_44 ?_
        refine lv_topi (fun x_31 e_32 => ?_)
        have i_33 : x_31.toInt = A1 + A2 := ia_add e_32 a1 a2 (by omega) (by omega)
        refine lv_i2l (v := (x_31 : Int32).toInt64) hx hb dX10_check_45 rfl ?_
        refine g_calli C (va_runS (As := [.long ((r_23 : Int32).toInt64), .long ((x_28 : Int32).toInt64), .long ((x_31 : Int32).toInt64)]) (rest := []) C.1 (c_X10_in l G v w sg ((r_23 : Int32).toInt64) (A0 := (r_23).toInt) (il_of rfl) ((x_28 : Int32).toInt64) (A2 := (A1 - A2)) (il_of i_30) ((x_31 : Int32).toInt64) (A4 := (A1 + A2)) (il_of i_33)) (va_cwS 3 hts gX10_check_X10_in rfl rfl rfl (by decide +kernel) ⟨by rw [hR]; exact Nat.le_of_ble_eq_true rfl, by rw [hR]; exact Nat.le_of_ble_eq_true rfl⟩) ⟨gPre_blind, gS_pre C h _⟩ rfl rfl hl.1 rfl (lv_room (Nat.le_of_ble_eq_true rfl)) dX10_check_46 ⟨Nat.zero_le _, Nat.zero_le _⟩) h (fun r_34 v_36 w_37 g_38 H locs p_35 h => ?_)
        obtain ⟨p_35, rfl, rfl, rfl⟩ := p_35
        rcases p_35 with ⟨rfl, t_39⟩ | ⟨rfl, t_39⟩
        · skip
          refine lv_if_eq (tgt := 54) hx hb dX10_check_49 (by decide) (fun c_40 => absurd c_40 (by decide)) (fun _ => ?_)
          refine lv_iconst (v := 0) hx hb dX10_check_52 (by decide) ?_
          exact ret 0 v w sg _ _ _ _ dX10_check_53 h ⟨Or.inr (Or.inr ⟨by unfold rF34; omega, by omega, Or.inl ⟨by omega, by omega, rfl⟩⟩), rfl, rfl, rfl⟩
        · skip
          refine lv_if_eq (tgt := 54) hx hb dX10_check_49 (by decide) (fun _ => ?_) (fun c_41 => absurd (by decide) c_41)
          refine lv_iconst (v := 0) hx hb dX10_check_54 (by decide) ?_
          refine lv_istore (lv' := [(4, .int (0)), (3, .int (r_23)), (0, .ref (G.2.2 (106))), (1, .int (p1)), (2, .int (p2))]) hx hb dX10_check_55 hl (by decide) rfl (fun ls hl => ?_)
          refine lv_bipush (v := (-4)) hx hb dX10_check_57 (by decide) ?_
          refine lv_istore (lv' := [(5, .int ((-4))), (4, .int (0)), (3, .int (r_23)), (0, .ref (G.2.2 (106))), (1, .int (p1)), (2, .int (p2))]) hx hb dX10_check_59 hl (by decide) rfl (fun ls hl => ?_)
          refine lv_iconst (v := 0) hx hb dX10_check_61 (by decide) ?_
          have J64_44 : ∀ (n : Nat) (y_42 : Int32) (y_43 : Int32) (y_44 : Int32) (H : Heap) (locs : List Loc) (ls : Array Slot), (((v 106 35) : Int32).toInt - (y_44).toInt).toNat < n → (0 ≤ (y_44).toInt ∧ (y_44).toInt ≤ ((v 106 35) : Int32).toInt) → (0 ≤ (y_42).toInt ∧ (y_42).toInt ≤ (y_44).toInt) → (cnP (fun k => cmQ (v 128 k).toInt (v 129 k).toInt (A1 - (r_23).toInt) A2) (y_44).toInt (y_42).toInt (y_43).toInt) → gS (gA G) G s v w sg H locs → lv_has ls 10 [(0, .ref (G.2.2 (106))), (1, .int (p1)), (2, .int (p2)), (3, .int (r_23)), (4, .int (y_42)), (5, .int (y_43)), (6, .int (y_44))] → W p l e R s m args below meth c H locs 0 0 Q (F0 m 64 ls []) := by
            intro n
            induction n with
            | zero => intro y_42 y_43 y_44 H locs ls hm; exact absurd hm (Nat.not_lt_zero _)
            | succ n ih64 =>
              intro y_42 y_43 y_44 H locs ls hm f_45 f_46 f_47 h hl
              refine lv_iload hx hb dX10_check_64 (lv_at hl 6 rfl) ?_
              refine lv_aload_n hx hb dX10_check_66 rfl (lv_at hl 0 rfl) ?_
              refine g_geti (ci := 10) (x := v 106 35) C h 106 (by decide) rfl rfl hi10 35 (by decide) f273 rfl rfl rfl dX10_check_67 ?_
              refine lv_icmp_ge (tgt := 176) hx hb dX10_check_70 (by decide) (fun c_48 => ?_) (fun c_48 => ?_)
              · have j_49 : (v 106 35).toInt ≤ (y_44).toInt := (i_le rfl rfl).mp c_48
                have hcn : cnP (fun k => cmQ (v 128 k).toInt (v 129 k).toInt (A1 - (r_23).toInt) A2) (v 106 35).toInt (y_42).toInt (y_43).toInt := (show (y_44).toInt = (v 106 35).toInt by omega) ▸ f_47
                refine lv_iload hx hb dX10_check_176 (lv_at hl 4 rfl) ?_
                refine lv_if_ne (tgt := 185) hx hb dX10_check_178 (by decide) (fun c_50 => ?_) (fun c_50 => ?_)
                · have j_51 : ¬ ((y_42).toInt = 0) := fun q => c_50 ((i_eq rfl (by decide)).mpr q)
                  refine lv_iload hx hb dX10_check_185 (lv_at hl 4 rfl) ?_
                  refine lv_iconst (v := 1) hx hb dX10_check_187 (by decide) ?_
                  refine lv_icmp_le (tgt := 195) hx hb dX10_check_188 (by decide) (fun c_52 => ?_) (fun c_52 => ?_)
                  · have j_53 : (y_42).toInt ≤ 1 := (i_le rfl (by decide)).mp c_52
                    have hl5 := hcn.e1 (by omega)
                    refine lv_bipush (v := 10) hx hb dX10_check_195 (by decide) ?_
                    refine lv_iload hx hb dX10_check_197 (lv_at hl 5 rfl) ?_
                    refine lv_iadd hx hb dX10_check_199 ?_
                    refine lv_topi (fun x_54 e_55 => ?_)
                    have i_56 : x_54.toInt = 10 + (y_43).toInt := ia_add e_55 (by decide) rfl (by omega) (by omega)
                    exact ret x_54 v w sg _ _ _ _ dX10_check_200 h ⟨Or.inr (Or.inr ⟨by unfold rF34; omega, by omega, Or.inr ⟨by omega, by rw [← hsi, i_56]; exact hl5.1⟩⟩), rfl, rfl, rfl⟩
                  · have j_53 : ¬ ((y_42).toInt ≤ 1) := fun q => c_52 ((i_le rfl (by decide)).mpr q)
                    refine lv_iconst (v := 2) hx hb dX10_check_191 (by decide) ?_
                    refine lv_goto (tgt := 200) hx hb dX10_check_192 (by decide) ?_
                    exact ret 2 v w sg _ _ _ _ dX10_check_200 h ⟨Or.inr (Or.inr ⟨by unfold rF34; omega, by omega, Or.inr ⟨by omega, by rw [← hsi, z_2]; exact hcn.e2 (by omega)⟩⟩), rfl, rfl, rfl⟩
                · have j_51 : (y_42).toInt = 0 := (i_eq rfl (by decide)).mp c_50
                  refine lv_iconst (v := 1) hx hb dX10_check_181 (by decide) ?_
                  refine lv_goto (tgt := 200) hx hb dX10_check_182 (by decide) ?_
                  exact ret 1 v w sg _ _ _ _ dX10_check_200 h ⟨Or.inr (Or.inr ⟨by unfold rF34; omega, by omega, Or.inr ⟨by omega, by rw [← hsi, z_1]; exact hcn.e0 (by omega)⟩⟩), rfl, rfl, rfl⟩
              · have j_49 : ¬ ((v 106 35).toInt ≤ (y_44).toInt) := fun q => c_48 ((i_le rfl rfl).mpr q)
                have hka := Iar (y_44 : Int32).toInt.toNat (by omega)
                have hpa := bm (y_44 : Int32).toInt.toNat (by omega)
                unfold bd at hpa
                have hMb := pr_bd hka hpa
                obtain ⟨M88, hM88⟩ : ∃ M : Int, M = (v 128 (y_44 : Int32).toInt.toNat).toInt * (v 129 (y_44 : Int32).toInt.toNat).toInt := ⟨_, rfl⟩
                rw [← hM88] at hMb
                refine lv_iload_n hx hb dX10_check_73 rfl (lv_at hl 3 rfl) ?_
                refine lv_aload_n hx hb dX10_check_74 rfl (lv_at hl 0 rfl) ?_
                refine g_get (ci := 10) (x := .ref (G.2.2 (128))) C h 106 (by decide) rfl rfl hi10 36 (by decide) f92 rfl rfl dX10_check_75 ?_
                refine lv_iload hx hb dX10_check_78 (lv_at hl 6 rfl) ?_
                refine g_iald C h 128 (by decide) (by decide) (n := 10) (by decide) (vp_of rfl (by omega) (by omega)) dX10_check_80 ?_
                refine lv_topi (fun x_57 e_58 => ?_)
                have hr80 : (x_57).toInt = (v 128 (y_44 : Int32).toInt.toNat).toInt := by rw [e_58]; rfl
                refine lv_aload_n hx hb dX10_check_81 rfl (lv_at hl 0 rfl) ?_
                refine g_get (ci := 10) (x := .ref (G.2.2 (129))) C h 106 (by decide) rfl rfl hi10 37 (by decide) f95 rfl rfl dX10_check_82 ?_
                refine lv_iload hx hb dX10_check_85 (lv_at hl 6 rfl) ?_
                refine g_iald C h 129 (by decide) (by decide) (n := 10) (by decide) (vp_of rfl (by omega) (by omega)) dX10_check_87 ?_
                refine lv_topi (fun x_59 e_60 => ?_)
                have hr87 : (x_59).toInt = (v 129 (y_44 : Int32).toInt.toNat).toInt := by rw [e_60]; rfl
                refine lv_imul hx hb dX10_check_88 ?_
                refine lv_topi (fun x_61 e_62 => ?_)
                have hMv : (x_61 : Int32).toInt = M88 := by rw [hM88]; exact ia_mul e_62 hr80 hr87 (by omega) (by omega)
                refine lv_isub hx hb dX10_check_89 ?_
                refine lv_topi (fun x_63 e_64 => ?_)
                have i_65 : x_63.toInt = (r_23).toInt - M88 := ia_sub e_64 rfl hMv (by omega) (by omega)
                refine lv_istore (lv' := [(7, .int (x_63)), (0, .ref (G.2.2 (106))), (1, .int (p1)), (2, .int (p2)), (3, .int (r_23)), (4, .int (y_42)), (5, .int (y_43)), (6, .int (y_44))]) hx hb dX10_check_90 hl (by decide) rfl (fun ls hl => ?_)
                refine lv_iload_n hx hb dX10_check_92 rfl (lv_at hl 2 rfl) ?_
                refine lv_iload_n hx hb dX10_check_93 rfl (lv_at hl 3 rfl) ?_
                refine lv_iadd hx hb dX10_check_94 ?_
                refine lv_topi (fun x_66 e_67 => ?_)
                have i_68 : x_66.toInt = A1 + A2 := ia_add e_67 a1 a2 (by omega) (by omega)
                refine lv_iload hx hb dX10_check_95 (lv_at hl 0 rfl) ?_
                refine lv_isub hx hb dX10_check_97 ?_
                refine lv_topi (fun x_69 e_70 => ?_)
                have i_71 : x_69.toInt = (A1 + A2) - ((r_23).toInt - M88) := ia_sub e_70 i_68 i_65 (by omega) (by omega)
                refine lv_i2l (v := (x_69 : Int32).toInt64) hx hb dX10_check_98 rfl ?_
                refine lv_aload_n hx hb dX10_check_99 rfl (lv_at hl 1 rfl) ?_
                refine g_get (ci := 10) (x := .ref (G.2.2 (128))) C h 106 (by decide) rfl rfl hi10 36 (by decide) f92 rfl rfl dX10_check_100 ?_
                refine lv_iload hx hb dX10_check_103 (lv_at hl 7 rfl) ?_
                refine g_iald C h 128 (by decide) (by decide) (n := 10) (by decide) (vp_of rfl (by omega) (by omega)) dX10_check_105 ?_
                refine lv_topi (fun x_72 e_73 => ?_)
                have hr105 : (x_72).toInt = (v 128 (y_44 : Int32).toInt.toNat).toInt := by rw [e_73]; rfl
                refine lv_i2l (v := (x_72 : Int32).toInt64) hx hb dX10_check_106 rfl ?_
                refine g_calll C (va_runS (As := [.long ((x_69 : Int32).toInt64), .long ((x_72 : Int32).toInt64)]) (rest := []) C.1 (c_X10_down l G v w sg ((x_69 : Int32).toInt64) (A0 := ((A1 + A2) - ((r_23).toInt - M88))) (il_of i_71) ((x_72 : Int32).toInt64) (A2 := (x_72).toInt) (il_of rfl) (by omega)) (va_cwS 2 hts gX10_check_X10_down rfl rfl rfl (by decide +kernel) ⟨by rw [hR]; exact Nat.le_of_ble_eq_true rfl, by rw [hR]; exact Nat.le_of_ble_eq_true rfl⟩) ⟨gPre_blind, gS_pre C h _⟩ rfl rfl hl.1 rfl (lv_room (Nat.le_of_ble_eq_true rfl)) dX10_check_107 ⟨Nat.zero_le _, Nat.zero_le _⟩) h (fun r_74 v_76 w_77 g_78 H locs p_75 h => ?_)
                obtain ⟨p_75, rfl, rfl, rfl⟩ := p_75
                have hq107 : (r_74).toInt = ((v 128 (y_44 : Int32).toInt.toNat).toInt * (v 129 (y_44 : Int32).toInt.toNat).toInt + (A1 - (r_23).toInt) + A2) / (v 128 (y_44 : Int32).toInt.toNat).toInt := by rw [p_75.1, hr105]; congr 1; omega
                refine lv_lstore (lv' := [(8, .long (r_74)), (7, .int (x_63)), (0, .ref (G.2.2 (106))), (1, .int (p1)), (2, .int (p2)), (3, .int (r_23)), (4, .int (y_42)), (5, .int (y_43)), (6, .int (y_44))]) hx hb dX10_check_110 hl (by decide) rfl (fun ls hl => ?_)
                refine lv_lload hx hb dX10_check_112 (lv_at hl 0 rfl) ?_
                refine lv_ldc2 hx hb hown k194 dX10_check_114 ?_
                refine W.lcmp hx hb dX10_check_117 ?_
                have J129_79 : ∀ (y_79 : Int64) (H : Heap) (locs : List Loc) (ls : Array Slot), ((y_79).toInt = if 1000 < ((v 128 (y_44 : Int32).toInt.toNat).toInt * (v 129 (y_44 : Int32).toInt.toNat).toInt + (A1 - (r_23).toInt) + A2) / (v 128 (y_44 : Int32).toInt.toNat).toInt then 1000 else ((v 128 (y_44 : Int32).toInt.toNat).toInt * (v 129 (y_44 : Int32).toInt.toNat).toInt + (A1 - (r_23).toInt) + A2) / (v 128 (y_44 : Int32).toInt.toNat).toInt) → gS (gA G) G s v w sg H locs → lv_has ls 10 [(0, .ref (G.2.2 (106))), (1, .int (p1)), (2, .int (p2)), (3, .int (r_23)), (4, .int (y_42)), (5, .int (y_43)), (6, .int (y_44)), (7, .int (x_63)), (8, .long (r_74))] → W p l e R s m args below meth c H locs 0 0 Q (F0 m 129 ls [.long (y_79)]) := by
                  intro y_79 H locs ls f_80 h hl
                  refine lv_lstore (lv' := [(8, .long (y_79)), (0, .ref (G.2.2 (106))), (1, .int (p1)), (2, .int (p2)), (3, .int (r_23)), (4, .int (y_42)), (5, .int (y_43)), (6, .int (y_44)), (7, .int (x_63))]) hx hb dX10_check_129 hl (by decide) rfl (fun ls hl => ?_)
                  have hcm := cm_iff (a := (v 128 (y_44 : Int32).toInt.toNat).toInt) (p := (v 129 (y_44 : Int32).toInt.toNat).toInt) (m := A1 - (r_23).toInt) (e := A2) (by omega) f_80
                  rw [← hM88] at hcm
                  refine lv_lload hx hb dX10_check_131 (lv_at hl 0 rfl) ?_
                  refine lv_ldc2 hx hb hown k276 dX10_check_133 ?_
                  refine W.lcmp hx hb dX10_check_136 ?_
                  have J170_82 : ∀ (y_81 : Int32) (y_82 : Int32) (H : Heap) (locs : List Loc) (ls : Array Slot), (0 ≤ (y_81).toInt ∧ (y_81).toInt ≤ (y_44 : Int32).toInt + 1) → (cnP (fun k => cmQ (v 128 k).toInt (v 129 k).toInt (A1 - (r_23).toInt) A2) ((y_44 : Int32).toInt + 1) (y_81).toInt (y_82).toInt) → gS (gA G) G s v w sg H locs → lv_has ls 10 [(0, .ref (G.2.2 (106))), (1, .int (p1)), (2, .int (p2)), (3, .int (r_23)), (4, .int (y_81)), (5, .int (y_82)), (6, .int (y_44)), (7, .int (x_63)), (8, .long (y_79))] → W p l e R s m args below meth c H locs 0 0 Q (F0 m 170 ls []) := by
                    intro y_81 y_82 H locs ls f_83 f_84 h hl
                    obtain ⟨x_85, e_86⟩ : ∃ y : Int32, y = y_44 + 1 := ⟨_, rfl⟩
                    have i_87 : x_85.toInt = (y_44).toInt + 1 := ia_add e_86 rfl (by decide) (by omega) (by omega)
                    refine lv_iinc (v := x_85) (lv' := [(6, .int (x_85)), (0, .ref (G.2.2 (106))), (1, .int (p1)), (2, .int (p2)), (3, .int (r_23)), (4, .int (y_81)), (5, .int (y_82)), (7, .int (x_63)), (8, .long (y_79))]) hx hb dX10_check_170 hl (k := 6) rfl (by rw [e_86]; rfl) (by decide) rfl (fun ls hl => ?_)
                    refine lv_goto (tgt := 64) hx hb dX10_check_173 (by decide) ?_
                    exact ih64 y_81 y_82 x_85 _ _ _ (by omega) (by omega) (by omega) (by rw [show (x_85 : Int32).toInt = (y_44 : Int32).toInt + 1 by omega]; exact f_84) h (lv_sub hl [1, 2, 3, 4, 5, 6, 0] rfl)
                  refine lv_if_lt (tgt := 170) hx hb dX10_check_137 (by decide) (fun c_88 => ?_) (fun c_88 => ?_)
                  · have j_89 : (y_79).toInt < (-1000) := (l_lt0 rfl (by decide)).mp c_88
                    exact J170_82 y_42 y_43 _ _ _ (by omega) (by first | exact f_47.skip (by omega) rfl (fun q => by have := hcm.mp q; omega) | exact f_47.take (by omega) rfl (hcm.mpr (by omega)) (by omega) rfl) h (lv_sub hl [1, 2, 3, 4, 5, 6, 7, 8, 0] rfl)
                  · have j_89 : ¬ ((y_79).toInt < (-1000)) := fun q => c_88 ((l_lt0 rfl (by decide)).mpr q)
                    have hMc := pr_bd hka (p := (y_79).toInt) (by omega)
                    obtain ⟨M150, hM150⟩ : ∃ M : Int, M = (y_79).toInt * (v 128 (y_44 : Int32).toInt.toNat).toInt := ⟨_, rfl⟩
                    rw [Int.mul_comm, ← hM150] at hMc
                    rw [← hM150] at hcm
                    refine lv_lload hx hb dX10_check_140 (lv_at hl 0 rfl) ?_
                    refine lv_aload_n hx hb dX10_check_142 rfl (lv_at hl 1 rfl) ?_
                    refine g_get (ci := 10) (x := .ref (G.2.2 (128))) C h 106 (by decide) rfl rfl hi10 36 (by decide) f92 rfl rfl dX10_check_143 ?_
                    refine lv_iload hx hb dX10_check_146 (lv_at hl 7 rfl) ?_
                    refine g_iald C h 128 (by decide) (by decide) (n := 10) (by decide) (vp_of rfl (by omega) (by omega)) dX10_check_148 ?_
                    refine lv_topi (fun x_90 e_91 => ?_)
                    have hr148 : (x_90).toInt = (v 128 (y_44 : Int32).toInt.toNat).toInt := by rw [e_91]; rfl
                    refine lv_i2l (v := (x_90 : Int32).toInt64) hx hb dX10_check_149 rfl ?_
                    refine lv_lmul hx hb dX10_check_150 ?_
                    refine lv_topl (fun x_92 e_93 => ?_)
                    have hMv2 : (x_92 : Int64).toInt = M150 := by rw [hM150]; exact la_mul e_93 rfl (il_of hr148) (by omega) (by omega)
                    refine lv_iload hx hb dX10_check_151 (lv_at hl 8 rfl) ?_
                    refine lv_i2l (v := (x_63 : Int32).toInt64) hx hb dX10_check_153 rfl ?_
                    refine lv_ladd hx hb dX10_check_154 ?_
                    refine lv_topl (fun x_94 e_95 => ?_)
                    have i_96 : x_94.toInt = M150 + ((r_23).toInt - M88) := la_add e_95 hMv2 (il_of i_65) (by omega) (by omega)
                    refine lv_iload_n hx hb dX10_check_155 rfl (lv_at hl 2 rfl) ?_
                    refine lv_iload_n hx hb dX10_check_156 rfl (lv_at hl 3 rfl) ?_
                    refine lv_isub hx hb dX10_check_157 ?_
                    refine lv_topi (fun x_97 e_98 => ?_)
                    have i_99 : x_97.toInt = A1 - A2 := ia_sub e_98 a1 a2 (by omega) (by omega)
                    refine lv_i2l (v := (x_97 : Int32).toInt64) hx hb dX10_check_158 rfl ?_
                    refine W.lcmp hx hb dX10_check_159 ?_
                    refine lv_if_lt (tgt := 170) hx hb dX10_check_160 (by decide) (fun c_100 => ?_) (fun c_100 => ?_)
                    · have j_101 : (M150 + ((r_23).toInt - M88)) < (A1 - A2) := (l_lt0 i_96 (il_of i_99)).mp c_100
                      exact J170_82 y_42 y_43 _ _ _ (by omega) (by first | exact f_47.skip (by omega) rfl (fun q => by have := hcm.mp q; omega) | exact f_47.take (by omega) rfl (hcm.mpr (by omega)) (by omega) rfl) h (lv_sub hl [1, 2, 3, 4, 5, 6, 7, 8, 0] rfl)
                    · have j_101 : ¬ ((M150 + ((r_23).toInt - M88)) < (A1 - A2)) := fun q => c_100 ((l_lt0 i_96 (il_of i_99)).mpr q)
                      obtain ⟨x_102, e_103⟩ : ∃ y : Int32, y = y_42 + 1 := ⟨_, rfl⟩
                      have i_104 : x_102.toInt = (y_42).toInt + 1 := ia_add e_103 rfl (by decide) (by omega) (by omega)
                      refine lv_iinc (v := x_102) (lv' := [(4, .int (x_102)), (8, .long (y_79)), (0, .ref (G.2.2 (106))), (1, .int (p1)), (2, .int (p2)), (3, .int (r_23)), (5, .int (y_43)), (6, .int (y_44)), (7, .int (x_63))]) hx hb dX10_check_163 hl (k := 5) rfl (by rw [e_103]; rfl) (by decide) rfl (fun ls hl => ?_)
                      refine lv_iload hx hb dX10_check_166 (lv_at hl 7 rfl) ?_
                      refine lv_istore (lv' := [(5, .int (y_44)), (4, .int (x_102)), (8, .long (y_79)), (0, .ref (G.2.2 (106))), (1, .int (p1)), (2, .int (p2)), (3, .int (r_23)), (6, .int (y_44)), (7, .int (x_63))]) hx hb dX10_check_168 hl (by decide) rfl (fun ls hl => ?_)
                      exact J170_82 x_102 y_44 _ _ _ (by omega) (by first | exact f_47.skip (by omega) rfl (fun q => by have := hcm.mp q; omega) | exact f_47.take (by omega) rfl (hcm.mpr (by omega)) (by omega) rfl) h (lv_sub hl [3, 4, 5, 6, 1, 0, 7, 8, 2] rfl)
                refine lv_if_le (tgt := 127) hx hb dX10_check_118 (by decide) (fun c_105 => ?_) (fun c_105 => ?_)
                · have j_106 : (r_74).toInt ≤ 1000 := (l_le0 rfl (by decide)).mp c_105
                  refine lv_lload hx hb dX10_check_127 (lv_at hl 0 rfl) ?_
                  exact J129_79 r_74 _ _ _ (by rw [← hq107]; split <;> first | decide | omega) h (lv_sub hl [2, 3, 4, 5, 6, 7, 8, 1, 0] rfl)
                · have j_106 : ¬ ((r_74).toInt ≤ 1000) := fun q => c_105 ((l_le0 rfl (by decide)).mpr q)
                  refine lv_ldc2 hx hb hown k194 dX10_check_121 ?_
                  refine lv_goto (tgt := 129) hx hb dX10_check_124 (by decide) ?_
                  exact J129_79 1000 _ _ _ (by rw [← hq107]; split <;> first | decide | omega) h (lv_sub hl [2, 3, 4, 5, 6, 7, 8, 1, 0] rfl)
          refine lv_istore (lv' := [(6, .int (0)), (5, .int ((-4))), (4, .int (0)), (3, .int (r_23)), (0, .ref (G.2.2 (106))), (1, .int (p1)), (2, .int (p2))]) hx hb dX10_check_62 hl (by decide) rfl (fun ls hl => ?_)
          exact J64_44 _ 0 (-4) 0 _ _ _ (Nat.lt_succ_self _) (by omega) (by omega) (cnP_0 rfl) h (lv_sub hl [4, 5, 6, 3, 2, 1, 0] rfl)
      · have j_22 : ¬ ((r_16).toInt ≤ 0) := fun q => c_21 ((i_le rfl (by decide)).mpr q)
        refine lv_bipush (v := (-2)) hx hb dX10_check_28 (by decide) ?_
        exact ret (-2) v w sg _ _ _ _ dX10_check_30 h ⟨Or.inr (Or.inl ⟨by unfold rF34; omega, by omega, rfl⟩), rfl, rfl, rfl⟩
    · skip
      refine lv_if_ne (tgt := 21) hx hb dX10_check_16 (by decide) (fun c_107 => absurd (by decide) c_107) (fun _ => ?_)
      refine lv_iconst (v := (-1)) hx hb dX10_check_19 (by decide) ?_
      exact ret (-1) v w sg _ _ _ _ dX10_check_20 h ⟨Or.inl ⟨by unfold rF34; omega, rfl⟩, rfl, rfl, rfl⟩
  · skip
    refine lv_if_eq (tgt := 19) hx hb dX10_check_4 (by decide) (fun _ => ?_) (fun c_108 => absurd (by decide) c_108)
    refine lv_iconst (v := (-1)) hx hb dX10_check_19 (by decide) ?_
    exact ret (-1) v w sg _ _ _ _ dX10_check_20 h ⟨Or.inl ⟨by unfold rF34; omega, rfl⟩, rfl, rfl, rfl⟩

set_option maxHeartbeats 4000000 in
set_option maxRecDepth 100000 in
theorem c_X10_fill (l : Launch) (G : gG) (v : Nat → Nat → Int32) (w : Nat → Nat → Int64) (sg : Nat → Nat) (p1 : Int32) {A1 : Int} (a1 : p1.toInt = A1) (bm : bM v) (mi : mI v) : Met l yX10_fill wsX10_fill ({ frames := 2, cells := 0, slots := 0, locals := 45 }) (gPre G v w sg [.ref (G.2.2 (106)), .int (p1)]) (gQi G (fun r v' w' sg' => ((¬ (-2000000 ≤ A1 ∧ A1 ≤ 2000000) ∧ r = -1) ∨ ((-2000000 ≤ A1 ∧ A1 ≤ 2000000) ∧ (sumN (fun k => lo1 (v 130 k)) (v 106 35).toInt.toNat).toInt ≠ 1 ∧ r = -2) ∨ ((-2000000 ≤ A1 ∧ A1 ≤ 2000000) ∧ (sumN (fun k => lo1 (v 130 k)) (v 106 35).toInt.toNat).toInt = 1 ∧ ((∃ k : Nat, fsL (v 130) (v 106 35).toInt k ∧ r.toInt = plR (plV (v 128 k).toInt (A1 - (sumN (fcM v) (v 106 35).toInt.toNat).toInt))) ∨ (nlL (v 130) (v 106 35).toInt ∧ r = -4)))) ∧ v = v' ∧ w = w' ∧ sg = sg')) 0 0 (gA G) := by
  refine gM_ofi (cc := cX10_fill) (maxL := 7) (by decide) rfl (Nat.le_of_ble_eq_true rfl) ?_
  intro p e R s m args below meth c Q ls C hR ret h hl
  have hx := C.1.1
  have hb := C.1.2.1
  have hown := C.1.2.2.2.1
  have hts := C.1.2.2.2.2
  have hl : lv_has ls 7 [(0, .ref (G.2.2 (106))), (1, .int (p1))] := hl
  have q1 := i_rng p1; rw [a1] at q1
  have z_m4 : ((-4) : Int32).toInt = (-4) := by decide
  have z_m2 : ((-2) : Int32).toInt = (-2) := by decide
  have z_m1 : ((-1) : Int32).toInt = (-1) := by decide
  have z_0 : (0 : Int32).toInt = 0 := by decide
  have z_1 : (1 : Int32).toInt = 1 := by decide
  have f98 : Cond.fieldLink RX10 98 "WindHallModel" "isLost" "[Z" ∈ wsX10_fill := by decide +kernel
  have hi10 : ∀ x ∈ u_ws RX10 TX10 42, x ∈ wsX10_fill := fun x q => List.mem_cons_of_mem _ (List.mem_append_right _ q)
  have f92 : Cond.fieldLink RX10 92 "WindHallModel" "areas" "[I" ∈ wsX10_fill := by decide +kernel
  have k122 : (Cond.constantLong RX10 122 (2)).before args s = true := hts _ (by decide +kernel)
  have k276 : (Cond.constantLong RX10 276 (-1000)).before args s = true := hts _ (by decide +kernel)
  have k194 : (Cond.constantLong RX10 194 (1000)).before args s = true := hts _ (by decide +kernel)
  have o_1 := mi
  obtain ⟨I7, I10, I18, I22, I27, I29, I32, Is, I35, Ia, Iar, Isz, Ian⟩ := o_1
  refine lv_iload_n hx hb dX10_fill_0 rfl (lv_at hl 1 rfl) ?_
  refine g_calli C (va_runS (As := [.int (p1)]) (rest := []) C.1 (c_X10_isReading l G v w sg p1 (A0 := A1) a1) (va_cwS 1 hts gX10_fill_X10_isReading rfl rfl rfl (by decide +kernel) ⟨by rw [hR]; exact Nat.le_of_ble_eq_true rfl, by rw [hR]; exact Nat.le_of_ble_eq_true rfl⟩) ⟨gPre_blind, gS_pre C h _⟩ rfl rfl hl.1 rfl (lv_room (Nat.le_of_ble_eq_true rfl)) dX10_fill_1 ⟨Nat.zero_le _, Nat.zero_le _⟩) h (fun r_2 v_4 w_5 g_6 H locs p_3 h => ?_)
  obtain ⟨p_3, rfl, rfl, rfl⟩ := p_3
  rcases p_3 with ⟨rfl, t_7⟩ | ⟨rfl, t_7⟩
  · skip
    refine lv_if_ne (tgt := 9) hx hb dX10_fill_4 (by decide) (fun _ => ?_) (fun c_8 => absurd c_8 (by decide))
    refine lv_aload_n hx hb dX10_fill_9 rfl (lv_at hl 0 rfl) ?_
    refine g_calli C (va_runV (As := []) (rest := []) C.1 (c_X10_lostMany l G v w sg  mi) (cwV 0 hts gX10_fill_X10_lostMany rfl rfl rfl (by decide +kernel) ⟨by rw [hR]; exact Nat.le_of_ble_eq_true rfl, by rw [hR]; exact Nat.le_of_ble_eq_true rfl⟩) ⟨gPre_blind, g_recv C h 106 (by decide) (ci := 10) rfl rfl, gS_pre C h _⟩ rfl rfl hl.1 rfl (lv_room (Nat.le_of_ble_eq_true rfl)) dX10_fill_10 ⟨Nat.zero_le _, Nat.zero_le _⟩) h (fun r_9 v_11 w_12 g_13 H locs p_10 h => ?_)
    obtain ⟨p_10, rfl, rfl, rfl⟩ := p_10
    have hlm := p_10
    have hlc : (r_9).toInt = (sumN (fun k => lo1 (v 130 k)) (v 106 35).toInt.toNat).toInt := by rw [p_10.2.2]
    refine lv_iconst (v := 1) hx hb dX10_fill_13 (by decide) ?_
    refine lv_icmp_eq (tgt := 20) hx hb dX10_fill_14 (by decide) (fun c_14 => ?_) (fun c_14 => ?_)
    · have j_15 : (r_9).toInt = 1 := (i_eq rfl (by decide)).mp c_14
      obtain ⟨k0, hk0, hk1⟩ : ∃ k : Nat, (k : Int) < (v 106 35).toInt ∧ v 130 k ≠ 0 := hlm.2.1.elim (fun q => absurd q (by omega)) (fun q => q)
      refine lv_iconst (v := 0) hx hb dX10_fill_20 (by decide) ?_
      have J22_16 : ∀ (n : Nat) (y_16 : Int32) (H : Heap) (locs : List Loc) (ls : Array Slot), ((k0 : Int) - (y_16).toInt).toNat < n → (0 ≤ (y_16).toInt ∧ (y_16).toInt ≤ (k0 : Int)) → (nlL (v 130) (y_16).toInt) → gS (gA G) G s v w sg H locs → lv_has ls 7 [(0, .ref (G.2.2 (106))), (1, .int (p1)), (2, .int (y_16))] → W p l e R s m args below meth c H locs 0 0 Q (F0 m 22 ls []) := by
        intro n
        induction n with
        | zero => intro y_16 H locs ls hm; exact absurd hm (Nat.not_lt_zero _)
        | succ n ih22 =>
          intro y_16 H locs ls hm f_17 f_18 h hl
          refine lv_aload_n hx hb dX10_fill_22 rfl (lv_at hl 0 rfl) ?_
          refine g_get (ci := 10) (x := .ref (G.2.2 (130))) C h 106 (by decide) rfl rfl hi10 38 (by decide) f98 rfl rfl dX10_fill_23 ?_
          refine lv_iload_n hx hb dX10_fill_26 rfl (lv_at hl 2 rfl) ?_
          refine g_zald C h 130 (by decide) (by decide) (n := 10) (by decide) (vp_of rfl (by omega) (by omega)) dX10_fill_27 ?_
          refine lv_topi (fun x_19 e_20 => ?_)
          have hrd : v 130 (y_16).toNatClampNeg = x_19 := e_20.symm
          have hr27 : (x_19).toInt = (v 130 (y_16 : Int32).toInt.toNat).toInt := by rw [e_20]; rfl
          refine lv_if_ne (tgt := 37) hx hb dX10_fill_28 (by decide) (fun c_21 => ?_) (fun c_21 => ?_)
          · have j_22 : ¬ ((x_19).toInt = 0) := fun q => c_21 ((i_eq rfl (by decide)).mpr q)
            have hfs : fsL (v 130) (v 106 35).toInt (y_16 : Int32).toInt.toNat := f_18.fs (by omega) (by omega) (show (v 130 (y_16 : Int32).toInt.toNat).toInt ≠ 0 by omega)
            refine lv_iload_n hx hb dX10_fill_37 rfl (lv_at hl 1 rfl) ?_
            refine lv_aload_n hx hb dX10_fill_38 rfl (lv_at hl 0 rfl) ?_
            refine g_calli C (va_runV (As := []) (rest := [.int (p1)]) C.1 (c_X10_force l G v w sg  mi) (cwV 0 hts gX10_fill_X10_force rfl rfl rfl (by decide +kernel) ⟨by rw [hR]; exact Nat.le_of_ble_eq_true rfl, by rw [hR]; exact Nat.le_of_ble_eq_true rfl⟩) ⟨gPre_blind, g_recv C h 106 (by decide) (ci := 10) rfl rfl, gS_pre C h _⟩ rfl rfl hl.1 rfl (lv_room (Nat.le_of_ble_eq_true rfl)) dX10_fill_39 ⟨Nat.zero_le _, Nat.zero_le _⟩) h (fun r_23 v_25 w_26 g_27 H locs p_24 h => ?_)
            obtain ⟨p_24, rfl, rfl, rfl⟩ := p_24
            have hsi : (r_23).toInt = (sumN (fcM v) (v 106 35).toInt.toNat).toInt := by rw [p_24]
            have hsb := smM_b (v := v) (n := (v 106 35).toInt) (by omega) Iar bm
            unfold bd at hsb
            refine lv_isub hx hb dX10_fill_42 ?_
            refine lv_topi (fun x_28 e_29 => ?_)
            have i_30 : x_28.toInt = A1 - (r_23).toInt := ia_sub e_29 a1 rfl (by omega) (by omega)
            refine lv_i2l (v := (x_28 : Int32).toInt64) hx hb dX10_fill_43 rfl ?_
            refine lv_lstore_n (lv' := [(3, .long ((x_28 : Int32).toInt64)), (0, .ref (G.2.2 (106))), (1, .int (p1)), (2, .int (y_16))]) hx hb dX10_fill_44 rfl hl (by decide) rfl (fun ls hl => ?_)
            refine lv_aload_n hx hb dX10_fill_45 rfl (lv_at hl 1 rfl) ?_
            refine g_get (ci := 10) (x := .ref (G.2.2 (128))) C h 106 (by decide) rfl rfl hi10 36 (by decide) f92 rfl rfl dX10_fill_46 ?_
            refine lv_iload_n hx hb dX10_fill_49 rfl (lv_at hl 3 rfl) ?_
            refine g_iald C h 128 (by decide) (by decide) (n := 10) (by decide) (vp_of rfl (by omega) (by omega)) dX10_fill_50 ?_
            refine lv_topi (fun x_31 e_32 => ?_)
            have ha_x_31 := Iar (y_16).toNatClampNeg (by have := cl_of (i := y_16) rfl (by omega); omega)
            rw [← e_32] at ha_x_31
            have hr50 : (x_31).toInt = (v 128 (y_16 : Int32).toInt.toNat).toInt := by rw [e_32]; rfl
            refine lv_i2l (v := (x_31 : Int32).toInt64) hx hb dX10_fill_51 rfl ?_
            refine lv_ldc2 hx hb hown k122 dX10_fill_52 ?_
            refine lv_lload_n hx hb dX10_fill_55 rfl (lv_at hl 0 rfl) ?_
            refine lv_lmul hx hb dX10_fill_56 ?_
            refine lv_topl (fun x_33 e_34 => ?_)
            have i_35 : x_33.toInt = 2 * (A1 - (r_23).toInt) := la_mul e_34 (by decide) (il_of i_30) (by omega) (by omega)
            refine lv_lsub hx hb dX10_fill_57 ?_
            refine lv_topl (fun x_36 e_37 => ?_)
            have i_38 : x_36.toInt = (x_31).toInt - (2 * (A1 - (r_23).toInt)) := la_sub e_37 (il_of rfl) i_35 (by omega) (by omega)
            refine lv_ldc2 hx hb hown k122 dX10_fill_58 ?_
            refine lv_aload_n hx hb dX10_fill_61 rfl (lv_at hl 1 rfl) ?_
            refine g_get (ci := 10) (x := .ref (G.2.2 (128))) C h 106 (by decide) rfl rfl hi10 36 (by decide) f92 rfl rfl dX10_fill_62 ?_
            refine lv_iload_n hx hb dX10_fill_65 rfl (lv_at hl 3 rfl) ?_
            refine g_iald C h 128 (by decide) (by decide) (n := 10) (by decide) (vp_of rfl (by omega) (by omega)) dX10_fill_66 ?_
            refine lv_topi (fun x_39 e_40 => ?_)
            have ha_x_39 := Iar (y_16).toNatClampNeg (by have := cl_of (i := y_16) rfl (by omega); omega)
            rw [← e_40] at ha_x_39
            have hr66 : (x_39).toInt = (v 128 (y_16 : Int32).toInt.toNat).toInt := by rw [e_40]; rfl
            refine lv_i2l (v := (x_39 : Int32).toInt64) hx hb dX10_fill_67 rfl ?_
            refine lv_lmul hx hb dX10_fill_68 ?_
            refine lv_topl (fun x_41 e_42 => ?_)
            have i_43 : x_41.toInt = 2 * (x_39).toInt := la_mul e_42 (by decide) (il_of rfl) (by omega) (by omega)
            refine g_calll C (va_runS (As := [.long (x_36), .long (x_41)]) (rest := []) C.1 (c_X10_down l G v w sg x_36 (A0 := ((x_31).toInt - (2 * (A1 - (r_23).toInt)))) i_38 x_41 (A2 := (2 * (x_39).toInt)) i_43 (by omega)) (va_cwS 2 hts gX10_fill_X10_down rfl rfl rfl (by decide +kernel) ⟨by rw [hR]; exact Nat.le_of_ble_eq_true rfl, by rw [hR]; exact Nat.le_of_ble_eq_true rfl⟩) ⟨gPre_blind, gS_pre C h _⟩ rfl rfl hl.1 rfl (lv_room (Nat.le_of_ble_eq_true rfl)) dX10_fill_69 ⟨Nat.zero_le _, Nat.zero_le _⟩) h (fun r_44 v_46 w_47 g_48 H locs p_45 h => ?_)
            obtain ⟨p_45, rfl, rfl, rfl⟩ := p_45
            have hq69 : (r_44).toInt = -plV (v 128 (y_16 : Int32).toInt.toNat).toInt (A1 - (sumN (fcM v) (v 106 35).toInt.toNat).toInt) := by rw [p_45.1, hr50, hr66, hsi]; unfold plV; omega
            have hb69 := p_45.2.b (lo := -7000000) (hi := 7000000) (by omega) (by omega) (by omega) (by omega)
            refine lv_lneg hx hb dX10_fill_72 ?_
            refine lv_topl (fun x_49 e_50 => ?_)
            have i_51 : x_49.toInt = -(r_44).toInt := la_neg e_50 rfl (by omega)
            refine lv_lstore (lv' := [(5, .long (x_49)), (3, .long ((x_28 : Int32).toInt64)), (0, .ref (G.2.2 (106))), (1, .int (p1)), (2, .int (y_16))]) hx hb dX10_fill_73 hl (by decide) rfl (fun ls hl => ?_)
            refine lv_lload hx hb dX10_fill_75 (lv_at hl 0 rfl) ?_
            refine lv_ldc2 hx hb hown k276 dX10_fill_77 ?_
            refine lv_ldc2 hx hb hown k194 dX10_fill_80 ?_
            refine g_calli C (va_runS (As := [.long (x_49), .long ((-1000)), .long (1000)]) (rest := []) C.1 (c_X10_in l G v w sg x_49 (A0 := (-(r_44).toInt)) i_51 ((-1000)) (A2 := (-1000)) (by decide) (1000) (A4 := 1000) (by decide)) (va_cwS 3 hts gX10_fill_X10_in rfl rfl rfl (by decide +kernel) ⟨by rw [hR]; exact Nat.le_of_ble_eq_true rfl, by rw [hR]; exact Nat.le_of_ble_eq_true rfl⟩) ⟨gPre_blind, gS_pre C h _⟩ rfl rfl hl.1 rfl (lv_room (Nat.le_of_ble_eq_true rfl)) dX10_fill_83 ⟨Nat.zero_le _, Nat.zero_le _⟩) h (fun r_52 v_54 w_55 g_56 H locs p_53 h => ?_)
            obtain ⟨p_53, rfl, rfl, rfl⟩ := p_53
            rcases p_53 with ⟨rfl, t_57⟩ | ⟨rfl, t_57⟩
            · skip
              refine lv_if_eq (tgt := 95) hx hb dX10_fill_86 (by decide) (fun c_58 => absurd c_58 (by decide)) (fun _ => ?_)
              refine lv_lload hx hb dX10_fill_89 (lv_at hl 0 rfl) ?_
              refine lv_l2i hx hb dX10_fill_91 rfl ?_
              refine lv_topi (fun x_59 e_60 => ?_)
              have hli := l2i_I e_60 i_51 (by omega) (by omega)
              refine lv_goto (tgt := 97) hx hb dX10_fill_92 (by decide) ?_
              exact ret x_59 v w sg _ _ _ _ dX10_fill_97 h ⟨Or.inr (Or.inr ⟨by omega, by omega, Or.inl ⟨_, hfs, by rw [plR_i (by omega)]; omega⟩⟩), rfl, rfl, rfl⟩
            · skip
              refine lv_if_eq (tgt := 95) hx hb dX10_fill_86 (by decide) (fun _ => ?_) (fun c_61 => absurd (by decide) c_61)
              refine lv_bipush (v := (-4)) hx hb dX10_fill_95 (by decide) ?_
              exact ret (-4) v w sg _ _ _ _ dX10_fill_97 h ⟨Or.inr (Or.inr ⟨by omega, by omega, Or.inl ⟨_, hfs, by rw [plR_o (by omega)]; decide⟩⟩), rfl, rfl, rfl⟩
          · have j_22 : (x_19).toInt = 0 := (i_eq rfl (by decide)).mp c_21
            have hs := fill_step rfl (by omega) (by omega) hk1 (hrd.trans (by assumption))
            obtain ⟨x_62, e_63⟩ : ∃ y : Int32, y = y_16 + 1 := ⟨_, rfl⟩
            have i_64 : x_62.toInt = (y_16).toInt + 1 := ia_add e_63 rfl (by decide) (by omega) (by omega)
            refine lv_iinc (v := x_62) (lv' := [(2, .int (x_62)), (0, .ref (G.2.2 (106))), (1, .int (p1))]) hx hb dX10_fill_31 hl (k := 2) rfl (by rw [e_63]; rfl) (by decide) rfl (fun ls hl => ?_)
            refine lv_goto (tgt := 22) hx hb dX10_fill_34 (by decide) ?_
            exact ih22 x_62 _ _ _ (by omega) (by omega) (f_18.st (by omega) (by omega) (by omega)) h (lv_sub hl [1, 2, 0] rfl)
      refine lv_istore_n (lv' := [(2, .int (0)), (0, .ref (G.2.2 (106))), (1, .int (p1))]) hx hb dX10_fill_21 rfl hl (by decide) rfl (fun ls hl => ?_)
      exact J22_16 _ 0 _ _ _ (Nat.lt_succ_self _) (by omega) nlL_0 h (lv_sub hl [1, 2, 0] rfl)
    · have j_15 : ¬ ((r_9).toInt = 1) := fun q => c_14 ((i_eq rfl (by decide)).mpr q)
      refine lv_bipush (v := (-2)) hx hb dX10_fill_17 (by decide) ?_
      exact ret (-2) v w sg _ _ _ _ dX10_fill_19 h ⟨Or.inr (Or.inl ⟨by omega, by omega, rfl⟩), rfl, rfl, rfl⟩
  · skip
    refine lv_if_ne (tgt := 9) hx hb dX10_fill_4 (by decide) (fun c_65 => absurd (by decide) c_65) (fun _ => ?_)
    refine lv_iconst (v := (-1)) hx hb dX10_fill_7 (by decide) ?_
    exact ret (-1) v w sg _ _ _ _ dX10_fill_8 h ⟨Or.inl ⟨by omega, rfl⟩, rfl, rfl, rfl⟩
