set_option maxHeartbeats 4000000 in
set_option maxRecDepth 100000 in
theorem c_X9_tube (l : Launch) (G : gG) (v : Nat → Nat → Int32) (w : Nat → Nat → Int64) (sg : Nat → Nat) (p1 : Int32) {A1 : Int} (a1 : p1.toInt = A1) (ci : cI v) : Met l yX9_tube wsX9_tube ({ frames := 1, cells := 0, slots := 0, locals := 21 }) (gPre G v w sg [.ref (G.2.2 (0)), .int (p1)]) (gQi G (fun r v' w' sg' => (cI v' ∧ fC 93 97 v w v' w ∧ ((¬ (1 ≤ A1 ∧ A1 ≤ 100) ∧ r = -1 ∧ v' = v) ∨ ((1 ≤ A1 ∧ A1 ≤ 100) ∧ 10 ≤ (v 93 0).toInt ∧ r = -3 ∧ v' = v) ∨ ((1 ≤ A1 ∧ A1 ≤ 100) ∧ (v 93 0).toInt < 10 ∧ r = v 93 0 + 1 - 1 ∧ v' = (gu (gu (gu (gu v 96 (v 93 0).toInt.toNat p1) 94 (v 93 0).toInt.toNat (vp_nar .boolean 1)) 95 (v 93 0).toInt.toNat 0) 93 0 (v 93 0 + 1))))) ∧ w = w' ∧ sg = sg')) 0 0 (gA G) := by
  refine gM_ofi (cc := cX9_tube) (maxL := 2) (by decide) rfl (Nat.le_of_ble_eq_true rfl) ?_
  intro p e R s m args below meth c Q ls C hR ret h hl
  have hx := C.1.1
  have hb := C.1.2.1
  have hown := C.1.2.2.2.1
  have hts := C.1.2.2.2.2
  have hl : lv_has ls 2 [(0, .ref (G.2.2 (0))), (1, .int (p1))] := hl
  have q1 := i_rng p1; rw [a1] at q1
  have z_m3 : ((-3) : Int32).toInt = (-3) := by decide
  have z_m1 : ((-1) : Int32).toInt = (-1) := by decide
  have z_0 : (0 : Int32).toInt = 0 := by decide
  have z_1 : (1 : Int32).toInt = 1 := by decide
  have z_10 : (10 : Int32).toInt = 10 := by decide
  have z_100 : (100 : Int32).toInt = 100 := by decide
  have f47 : Cond.fieldLink RX9 47 "WindHall" "tubes" "LWindHall$Tubes;" ∈ wsX9_tube := by decide +kernel
  have hi9 : ∀ x ∈ u_ws RX9 TX9 7, x ∈ wsX9_tube := fun x q => List.mem_cons_of_mem _ (List.mem_append_left _ (List.mem_append_right _ q))
  have f222 : Cond.fieldLink RX9 222 "WindHall$Tubes" "count" "I" ∈ wsX9_tube := by decide +kernel
  have hi8 : ∀ x ∈ u_ws RX8 TX8 4, x ∈ wsX9_tube := fun x q => List.mem_cons_of_mem _ (List.mem_append_right _ q)
  have o_1 := ci
  obtain ⟨K1, K2, K3, K4, K5, K6, K7, Ks, K9, Ka, Kr, Kz⟩ := o_1
  refine lv_iload_n hx hb dX9_tube_0 rfl (lv_at hl 1 rfl) ?_
  refine lv_iconst (v := 1) hx hb dX9_tube_1 (by decide) ?_
  refine lv_icmp_lt (tgt := 11) hx hb dX9_tube_2 (by decide) (fun c_2 => ?_) (fun c_2 => ?_)
  · have j_3 : A1 < 1 := (i_lt a1 (by decide)).mp c_2
    refine lv_iconst (v := (-1)) hx hb dX9_tube_11 (by decide) ?_
    exact ret (-1) v w sg _ _ _ _ dX9_tube_12 h ⟨⟨ci, fC_rf, Or.inl ⟨(by omega), rfl, rfl⟩⟩, rfl, rfl⟩
  · have j_3 : ¬ (A1 < 1) := fun q => c_2 ((i_lt a1 (by decide)).mpr q)
    refine lv_iload_n hx hb dX9_tube_5 rfl (lv_at hl 1 rfl) ?_
    refine lv_bipush (v := 100) hx hb dX9_tube_6 (by decide) ?_
    refine lv_icmp_le (tgt := 13) hx hb dX9_tube_8 (by decide) (fun c_4 => ?_) (fun c_4 => ?_)
    · have j_5 : A1 ≤ 100 := (i_le a1 (by decide)).mp c_4
      refine lv_aload_n hx hb dX9_tube_13 rfl (lv_at hl 0 rfl) ?_
      refine g_get (ci := 9) (x := .ref (G.2.2 (93))) C h 0 (by decide) rfl rfl hi9 5 (by decide) f47 rfl rfl dX9_tube_14 ?_
      refine g_geti (ci := 8) (x := v 93 0) C h 93 (by decide) rfl rfl hi8 0 (by decide) f222 rfl rfl rfl dX9_tube_17 ?_
      refine lv_bipush (v := 10) hx hb dX9_tube_20 (by decide) ?_
      refine lv_icmp_lt (tgt := 30) hx hb dX9_tube_22 (by decide) (fun c_6 => ?_) (fun c_6 => ?_)
      · have j_7 : (v 93 0).toInt < 10 := (i_lt rfl (by decide)).mp c_6
        refine lv_aload_n hx hb dX9_tube_30 rfl (lv_at hl 0 rfl) ?_
        refine g_get (ci := 9) (x := .ref (G.2.2 (93))) C h 0 (by decide) rfl rfl hi9 5 (by decide) f47 rfl rfl dX9_tube_31 ?_
        refine lv_iload_n hx hb dX9_tube_34 rfl (lv_at hl 1 rfl) ?_
        refine g_calli C (va_runV (As := [.int (p1)]) (rest := []) C.1 (c_X8_append l G v w sg p1 (A1 := A1) a1 (by omega) (by omega) ci) (cwV 1 hts gX9_tube_X8_append rfl rfl rfl (by decide +kernel) ⟨by rw [hR]; exact Nat.le_of_ble_eq_true rfl, by rw [hR]; exact Nat.le_of_ble_eq_true rfl⟩) ⟨gPre_blind, g_recv C h 93 (by decide) (ci := 8) rfl rfl, gS_pre C h _⟩ rfl rfl hl.1 rfl (lv_room (Nat.le_of_ble_eq_true rfl)) dX9_tube_35 ⟨Nat.zero_le _, Nat.zero_le _⟩) h (fun r_8 v_10 w_11 g_12 H locs p_9 h => ?_)
        obtain ⟨p_9, rfl, rfl⟩ := p_9
        have u_13 : cI v_10 := p_9.1
        have u_14 : fC 93 97 v w v_10 w := fC_tr fC_rf (fC_le p_9.2.1 (by decide))
        have o_15 := u_13
        obtain ⟨K1, K2, K3, K4, K5, K6, K7, Ks, K9, Ka, Kr, Kz⟩ := o_15
        exact ret r_8 v_10 w sg _ _ _ _ dX9_tube_38 h ⟨⟨u_13, u_14, Or.inr (Or.inr (⟨(by omega), (by omega), p_9.2.2.1, p_9.2.2.2⟩))⟩, rfl, rfl⟩
      · have j_7 : ¬ ((v 93 0).toInt < 10) := fun q => c_6 ((i_lt rfl (by decide)).mpr q)
        refine lv_bipush (v := (-3)) hx hb dX9_tube_25 (by decide) ?_
        refine lv_goto (tgt := 38) hx hb dX9_tube_27 (by decide) ?_
        exact ret (-3) v w sg _ _ _ _ dX9_tube_38 h ⟨⟨ci, fC_rf, Or.inr (Or.inl ⟨(by omega), (by omega), rfl, rfl⟩)⟩, rfl, rfl⟩
    · have j_5 : ¬ (A1 ≤ 100) := fun q => c_4 ((i_le a1 (by decide)).mpr q)
      refine lv_iconst (v := (-1)) hx hb dX9_tube_11 (by decide) ?_
      exact ret (-1) v w sg _ _ _ _ dX9_tube_12 h ⟨⟨ci, fC_rf, Or.inl ⟨(by omega), rfl, rfl⟩⟩, rfl, rfl⟩

set_option maxHeartbeats 4000000 in
set_option maxRecDepth 100000 in
theorem c_X9_press (l : Launch) (G : gG) (v : Nat → Nat → Int32) (w : Nat → Nat → Int64) (sg : Nat → Nat) (p1 : Int32) {A1 : Int} (a1 : p1.toInt = A1) (p2 : Int32) {A2 : Int} (a2 : p2.toInt = A2) (p3 : Int32) {A3 : Int} (a3 : p3.toInt = A3) (ci : cI v) : Met l yX9_press wsX9_press ({ frames := 2, cells := 0, slots := 0, locals := 41 }) (gPre G v w sg [.ref (G.2.2 (0)), .int (p1), .int (p2), .int (p3)]) (gQi G (fun r v' w' sg' => (cI v' ∧ fC 93 97 v w v' w ∧ ((¬ rF29 A1 A2 A3 (v 93 0).toInt ∧ r = -1 ∧ v' = v) ∨ (rF29 A1 A2 A3 (v 93 0).toInt ∧ r = 1 ∧ v' = (gu (gu v 94 A1.toNat (vp_nar .boolean p2)) 95 A1.toNat (prS A2 p3))))) ∧ w = w' ∧ sg = sg')) 0 0 (gA G) := by
  refine gM_ofi (cc := cX9_press) (maxL := 4) (by decide) rfl (Nat.le_of_ble_eq_true rfl) ?_
  intro p e R s m args below meth c Q ls C hR ret h hl
  have hx := C.1.1
  have hb := C.1.2.1
  have hown := C.1.2.2.2.1
  have hts := C.1.2.2.2.2
  have hl : lv_has ls 4 [(0, .ref (G.2.2 (0))), (1, .int (p1)), (2, .int (p2)), (3, .int (p3))] := hl
  have q1 := i_rng p1; rw [a1] at q1
  have q2 := i_rng p2; rw [a2] at q2
  have q3 := i_rng p3; rw [a3] at q3
  have z_m1 : ((-1) : Int32).toInt = (-1) := by decide
  have z_0 : (0 : Int32).toInt = 0 := by decide
  have z_1 : (1 : Int32).toInt = 1 := by decide
  have f47 : Cond.fieldLink RX9 47 "WindHall" "tubes" "LWindHall$Tubes;" ∈ wsX9_press := by decide +kernel
  have hi9 : ∀ x ∈ u_ws RX9 TX9 7, x ∈ wsX9_press := fun x q => List.mem_cons_of_mem _ (List.mem_append_left _ (List.mem_append_right _ q))
  have f222 : Cond.fieldLink RX9 222 "WindHall$Tubes" "count" "I" ∈ wsX9_press := by decide +kernel
  have hi8 : ∀ x ∈ u_ws RX8 TX8 4, x ∈ wsX9_press := fun x q => List.mem_cons_of_mem _ (List.mem_append_right _ q)
  have f228 : Cond.fieldLink RX9 228 "WindHall$Tubes" "isLost" "[Z" ∈ wsX9_press := by decide +kernel
  have f231 : Cond.fieldLink RX9 231 "WindHall$Tubes" "pressure" "[I" ∈ wsX9_press := by decide +kernel
  have o_1 := ci
  obtain ⟨K1, K2, K3, K4, K5, K6, K7, Ks, K9, Ka, Kr, Kz⟩ := o_1
  refine lv_iload_n hx hb dX9_press_0 rfl (lv_at hl 1 rfl) ?_
  refine lv_aload_n hx hb dX9_press_1 rfl (lv_at hl 0 rfl) ?_
  refine g_get (ci := 9) (x := .ref (G.2.2 (93))) C h 0 (by decide) rfl rfl hi9 5 (by decide) f47 rfl rfl dX9_press_2 ?_
  refine g_geti (ci := 8) (x := v 93 0) C h 93 (by decide) rfl rfl hi8 0 (by decide) f222 rfl rfl rfl dX9_press_5 ?_
  refine g_calli C (va_runS (As := [.int (p1), .int (v 93 0)]) (rest := []) C.1 (c_X9_isIndex l G v w sg p1 (A0 := A1) a1 (v 93 0) (A1 := (v 93 0).toInt) rfl) (va_cwS 2 hts gX9_press_X9_isIndex rfl rfl rfl (by decide +kernel) ⟨by rw [hR]; exact Nat.le_of_ble_eq_true rfl, by rw [hR]; exact Nat.le_of_ble_eq_true rfl⟩) ⟨gPre_blind, gS_pre C h _⟩ rfl rfl hl.1 rfl (lv_room (Nat.le_of_ble_eq_true rfl)) dX9_press_8 ⟨Nat.zero_le _, Nat.zero_le _⟩) h (fun r_2 v_4 w_5 g_6 H locs p_3 h => ?_)
  obtain ⟨p_3, rfl, rfl, rfl⟩ := p_3
  rcases p_3 with ⟨rfl, t_7⟩ | ⟨rfl, t_7⟩
  · skip
    refine lv_if_eq (tgt := 25) hx hb dX9_press_11 (by decide) (fun c_8 => absurd c_8 (by decide)) (fun _ => ?_)
    refine lv_iload_n hx hb dX9_press_14 rfl (lv_at hl 2 rfl) ?_
    have J27_8 : ∀ (H : Heap) (locs : List Loc) (ls : Array Slot), (A2 ≠ 0 ∨ (-1000 ≤ A3 ∧ A3 ≤ 1000)) → gS (gA G) G s v w sg H locs → lv_has ls 4 [(0, .ref (G.2.2 (0))), (1, .int (p1)), (2, .int (p2)), (3, .int (p3))] → W p l e R s m args below meth c H locs 0 0 Q (F0 m 27 ls []) := by
      intro  H locs ls f_9 h hl
      refine lv_aload_n hx hb dX9_press_27 rfl (lv_at hl 0 rfl) ?_
      refine g_get (ci := 9) (x := .ref (G.2.2 (93))) C h 0 (by decide) rfl rfl hi9 5 (by decide) f47 rfl rfl dX9_press_28 ?_
      refine g_get (ci := 8) (x := .ref (G.2.2 (94))) C h 93 (by decide) rfl rfl hi8 1 (by decide) f228 rfl rfl dX9_press_31 ?_
      refine lv_iload_n hx hb dX9_press_34 rfl (lv_at hl 1 rfl) ?_
      refine lv_iload_n hx hb dX9_press_35 rfl (lv_at hl 2 rfl) ?_
      refine g_zast C h 94 (by decide) (by decide) (n := 10) (by decide) (vp_of a1 (by omega) (by omega)) dX9_press_36 (fun H locs h => ?_)
      obtain ⟨v_10, hv_10⟩ : ∃ z, z = gu v 94 ((p1 : Int32).toNatClampNeg) (vp_nar .boolean p2) := ⟨_, rfl⟩
      have h : gS (gA G) G s v_10 w sg H locs := by rw [hv_10]; exact h
      have u_11 : cI v_10 := by rw [hv_10]; exact (cI_o ci (by decide))
      have u_12 : fC 93 97 v w v_10 w := by rw [hv_10]; exact (fC_v fC_rf (by decide))
      refine lv_aload_n hx hb dX9_press_37 rfl (lv_at hl 0 rfl) ?_
      refine g_get (ci := 9) (x := .ref (G.2.2 (93))) C h 0 (by decide) rfl rfl hi9 5 (by decide) f47 rfl rfl dX9_press_38 ?_
      refine g_get (ci := 8) (x := .ref (G.2.2 (95))) C h 93 (by decide) rfl rfl hi8 2 (by decide) f231 rfl rfl dX9_press_41 ?_
      refine lv_iload_n hx hb dX9_press_44 rfl (lv_at hl 1 rfl) ?_
      refine lv_iload_n hx hb dX9_press_45 rfl (lv_at hl 2 rfl) ?_
      have J54_13 : ∀ (y_13 : Int32) (H : Heap) (locs : List Loc) (ls : Array Slot), (y_13 = prS A2 p3) → gS (gA G) G s v_10 w sg H locs → lv_has ls 4 [(0, .ref (G.2.2 (0))), (1, .int (p1)), (2, .int (p2)), (3, .int (p3))] → W p l e R s m args below meth c H locs 0 0 Q (F0 m 54 ls [.int (y_13), .int (p1), .ref (G.2.2 (95))]) := by
        intro y_13 H locs ls f_14 h hl
        refine g_iast C h 95 (by decide) (by decide) (n := 10) (by decide) (vp_of a1 (by omega) (by omega)) dX9_press_54 (fun H locs h => ?_)
        obtain ⟨v_15, hv_15⟩ : ∃ z, z = gu v_10 95 ((p1 : Int32).toNatClampNeg) y_13 := ⟨_, rfl⟩
        have h : gS (gA G) G s v_15 w sg H locs := by rw [hv_15]; exact h
        have u_16 : cI v_15 := by rw [hv_15]; exact (cI_o u_11 (by decide))
        have u_17 : fC 93 97 v w v_15 w := by rw [hv_15]; exact (fC_v u_12 (by decide))
        refine lv_iconst (v := 1) hx hb dX9_press_55 (by decide) ?_
        exact ret 1 v_15 w sg _ _ _ _ dX9_press_56 h ⟨⟨u_16, u_17, Or.inr (⟨(by unfold rF29; omega), rfl, (by rw [hv_15, hv_10] <;> exact (gu_cg (gu_cg rfl rfl ((cl_nat a1).trans (by omega)) rfl) rfl ((cl_nat a1).trans (by omega)) (by subst_vars; rfl)))⟩)⟩, rfl, rfl⟩
      refine lv_if_eq (tgt := 53) hx hb dX9_press_46 (by decide) (fun c_18 => ?_) (fun c_18 => ?_)
      · have j_19 : A2 = 0 := (i_eq a2 (by decide)).mp c_18
        refine lv_iload_n hx hb dX9_press_53 rfl (lv_at hl 3 rfl) ?_
        exact J54_13 p3 _ _ _ (by unfold prS; split <;> first | rfl | omega) h (lv_sub hl [0, 1, 2, 3] rfl)
      · have j_19 : ¬ (A2 = 0) := fun q => c_18 ((i_eq a2 (by decide)).mpr q)
        refine lv_iconst (v := 0) hx hb dX9_press_49 (by decide) ?_
        refine lv_goto (tgt := 54) hx hb dX9_press_50 (by decide) ?_
        exact J54_13 0 _ _ _ (by unfold prS; split <;> first | rfl | omega) h (lv_sub hl [0, 1, 2, 3] rfl)
    refine lv_if_ne (tgt := 27) hx hb dX9_press_15 (by decide) (fun c_20 => ?_) (fun c_20 => ?_)
    · have j_21 : ¬ (A2 = 0) := fun q => c_20 ((i_eq a2 (by decide)).mpr q)
      exact J27_8  _ _ _ (by omega) h (lv_sub hl [0, 1, 2, 3] rfl)
    · have j_21 : A2 = 0 := (i_eq a2 (by decide)).mp c_20
      refine lv_iload_n hx hb dX9_press_18 rfl (lv_at hl 3 rfl) ?_
      refine g_calli C (va_runS (As := [.int (p3)]) (rest := []) C.1 (c_X8_isPressure l G v w sg p3 (A0 := A3) a3 ci) (va_cwS 1 hts gX9_press_X8_isPressure rfl rfl rfl (by decide +kernel) ⟨by rw [hR]; exact Nat.le_of_ble_eq_true rfl, by rw [hR]; exact Nat.le_of_ble_eq_true rfl⟩) ⟨gPre_blind, gS_pre C h _⟩ rfl rfl hl.1 rfl (lv_room (Nat.le_of_ble_eq_true rfl)) dX9_press_19 ⟨Nat.zero_le _, Nat.zero_le _⟩) h (fun r_22 v_24 w_25 g_26 H locs p_23 h => ?_)
      obtain ⟨p_23, rfl, rfl, rfl⟩ := p_23
      rcases p_23 with ⟨rfl, t_27⟩ | ⟨rfl, t_27⟩
      · skip
        refine lv_if_ne (tgt := 27) hx hb dX9_press_22 (by decide) (fun _ => ?_) (fun c_28 => absurd c_28 (by decide))
        exact J27_8  _ _ _ (by omega) h (lv_sub hl [0, 1, 2, 3] rfl)
      · skip
        refine lv_if_ne (tgt := 27) hx hb dX9_press_22 (by decide) (fun c_29 => absurd (by decide) c_29) (fun _ => ?_)
        refine lv_iconst (v := (-1)) hx hb dX9_press_25 (by decide) ?_
        exact ret (-1) v w sg _ _ _ _ dX9_press_26 h ⟨⟨ci, fC_rf, Or.inl ⟨(by unfold rF29; omega), rfl, rfl⟩⟩, rfl, rfl⟩
  · skip
    refine lv_if_eq (tgt := 25) hx hb dX9_press_11 (by decide) (fun _ => ?_) (fun c_30 => absurd (by decide) c_30)
    refine lv_iconst (v := (-1)) hx hb dX9_press_25 (by decide) ?_
    exact ret (-1) v w sg _ _ _ _ dX9_press_26 h ⟨⟨ci, fC_rf, Or.inl ⟨(by unfold rF29; omega), rfl, rfl⟩⟩, rfl, rfl⟩

set_option maxHeartbeats 4000000 in
set_option maxRecDepth 100000 in
theorem c_X9_sheet (l : Launch) (G : gG) (v : Nat → Nat → Int32) (w : Nat → Nat → Int64) (sg : Nat → Nat) (p1 : Int32) {A1 : Int} (a1 : p1.toInt = A1) (p2 : Int32) {A2 : Int} (a2 : p2.toInt = A2) (p3 : Int32) {A3 : Int} (a3 : p3.toInt = A3) (ci : cI v) : Met l yX9_sheet wsX9_sheet ({ frames := 1, cells := 0, slots := 0, locals := 23 }) (gPre G v w sg [.ref (G.2.2 (0)), .int (p1), .int (p2), .int (p3)]) (gQi G (fun r v' w' sg' => (cI v' ∧ fC 97 106 v w v' w ∧ ((¬ rF30 A1 A2 A3 ∧ r = -1 ∧ v' = v) ∨ (rF30 A1 A2 A3 ∧ A3 < 0 ∧ r = -10 - 4 ∧ v' = v) ∨ (rF30 A1 A2 A3 ∧ 0 ≤ A3 ∧ r = 1 ∧ v' = va_up (gu (gu v (98 + 2 * A1.toNat) 0 p2) (98 + 2 * A1.toNat) 1 p3) ((98 + 2 * A1.toNat) + 1) (flR (fun _ => 0) (v ((98 + 2 * A1.toNat) + 1)) 0 60)))) ∧ w = w' ∧ sg = sg')) 0 0 (gA G) := by
  refine gM_ofi (cc := cX9_sheet) (maxL := 4) (by decide) rfl (Nat.le_of_ble_eq_true rfl) ?_
  intro p e R s m args below meth c Q ls C hR ret h hl
  have hx := C.1.1
  have hb := C.1.2.1
  have hown := C.1.2.2.2.1
  have hts := C.1.2.2.2.2
  have hl : lv_has ls 4 [(0, .ref (G.2.2 (0))), (1, .int (p1)), (2, .int (p2)), (3, .int (p3))] := hl
  have q1 := i_rng p1; rw [a1] at q1
  have q2 := i_rng p2; rw [a2] at q2
  have q3 := i_rng p3; rw [a3] at q3
  have z_m1 : ((-1) : Int32).toInt = (-1) := by decide
  have z_0 : (0 : Int32).toInt = 0 := by decide
  have z_1 : (1 : Int32).toInt = 1 := by decide
  have z_3 : (3 : Int32).toInt = 3 := by decide
  have z_4 : (4 : Int32).toInt = 4 := by decide
  have z_60 : (60 : Int32).toInt = 60 := by decide
  have f53 : Cond.fieldLink RX9 53 "WindHall" "sheets" "[LWindHall$Sheet;" ∈ wsX9_sheet := by decide +kernel
  have hi9 : ∀ x ∈ u_ws RX9 TX9 7, x ∈ wsX9_sheet := fun x q => List.mem_cons_of_mem _ (List.mem_append_left _ (List.mem_append_right _ q))
  have o_1 := ci
  obtain ⟨K1, K2, K3, K4, K5, K6, K7, Ks, K9, Ka, Kr, Kz⟩ := o_1
  refine lv_iload_n hx hb dX9_sheet_0 rfl (lv_at hl 1 rfl) ?_
  refine lv_iconst (v := 4) hx hb dX9_sheet_1 (by decide) ?_
  refine g_calli C (va_runS (As := [.int (p1), .int (4)]) (rest := []) C.1 (c_X9_isIndex l G v w sg p1 (A0 := A1) a1 (4) (A1 := 4) (by decide)) (va_cwS 2 hts gX9_sheet_X9_isIndex rfl rfl rfl (by decide +kernel) ⟨by rw [hR]; exact Nat.le_of_ble_eq_true rfl, by rw [hR]; exact Nat.le_of_ble_eq_true rfl⟩) ⟨gPre_blind, gS_pre C h _⟩ rfl rfl hl.1 rfl (lv_room (Nat.le_of_ble_eq_true rfl)) dX9_sheet_2 ⟨Nat.zero_le _, Nat.zero_le _⟩) h (fun r_2 v_4 w_5 g_6 H locs p_3 h => ?_)
  obtain ⟨p_3, rfl, rfl, rfl⟩ := p_3
  rcases p_3 with ⟨rfl, t_7⟩ | ⟨rfl, t_7⟩
  · skip
    refine lv_if_eq (tgt := 22) hx hb dX9_sheet_5 (by decide) (fun c_8 => absurd c_8 (by decide)) (fun _ => ?_)
    refine lv_iload_n hx hb dX9_sheet_8 rfl (lv_at hl 2 rfl) ?_
    refine lv_iconst (v := 3) hx hb dX9_sheet_9 (by decide) ?_
    refine g_calli C (va_runS (As := [.int (p2), .int (3)]) (rest := []) C.1 (c_X9_isIndex l G v w sg p2 (A0 := A2) a2 (3) (A1 := 3) (by decide)) (va_cwS 2 hts gX9_sheet_X9_isIndex rfl rfl rfl (by decide +kernel) ⟨by rw [hR]; exact Nat.le_of_ble_eq_true rfl, by rw [hR]; exact Nat.le_of_ble_eq_true rfl⟩) ⟨gPre_blind, gS_pre C h _⟩ rfl rfl hl.1 rfl (lv_room (Nat.le_of_ble_eq_true rfl)) dX9_sheet_10 ⟨Nat.zero_le _, Nat.zero_le _⟩) h (fun r_9 v_11 w_12 g_13 H locs p_10 h => ?_)
    obtain ⟨p_10, rfl, rfl, rfl⟩ := p_10
    rcases p_10 with ⟨rfl, t_14⟩ | ⟨rfl, t_14⟩
    · skip
      refine lv_if_eq (tgt := 22) hx hb dX9_sheet_13 (by decide) (fun c_15 => absurd c_15 (by decide)) (fun _ => ?_)
      refine lv_iload_n hx hb dX9_sheet_16 rfl (lv_at hl 3 rfl) ?_
      refine lv_bipush (v := 60) hx hb dX9_sheet_17 (by decide) ?_
      refine lv_icmp_le (tgt := 24) hx hb dX9_sheet_19 (by decide) (fun c_16 => ?_) (fun c_16 => ?_)
      · have j_17 : A3 ≤ 60 := (i_le a3 (by decide)).mp c_16
        refine lv_iload_n hx hb dX9_sheet_24 rfl (lv_at hl 3 rfl) ?_
        refine lv_if_ge (tgt := 33) hx hb dX9_sheet_25 (by decide) (fun c_18 => ?_) (fun c_18 => ?_)
        · have j_19 : 0 ≤ A3 := (i_le (by decide) a3).mp c_18
          refine lv_aload_n hx hb dX9_sheet_33 rfl (lv_at hl 0 rfl) ?_
          refine g_get (ci := 9) (x := .ref (G.2.2 (97))) C h 0 (by decide) rfl rfl hi9 6 (by decide) f53 rfl rfl dX9_sheet_34 ?_
          refine lv_iload_n hx hb dX9_sheet_37 rfl (lv_at hl 1 rfl) ?_
          refine g_aald (ty := .object "WindHall$Sheet") C h 97 (by decide) 3 (by decide) (n := 4) (by decide) rfl rfl (vp_of a1 (by omega) (by omega)) dX9_sheet_38 ?_
          obtain ⟨q_20, q_20_e, q_20_i, q_20_l⟩ := g_row97 sg (i := p1) a1 (by omega) (by omega)
          rw [q_20_e]
          refine lv_iload_n hx hb dX9_sheet_39 rfl (lv_at hl 2 rfl) ?_
          refine lv_iload_n hx hb dX9_sheet_40 rfl (lv_at hl 3 rfl) ?_
          refine g_callv C (va_runV (As := [.int (p2), .int (p3)]) (rest := []) C.1 (c_X7_makeNew l G v w sg q_20 p2 (A1 := A2) a2 p3 (A2 := A3) a3 (by omega) (by omega) ci) (cwV 2 hts gX9_sheet_X7_makeNew rfl rfl rfl (by decide +kernel) ⟨by rw [hR]; exact Nat.le_of_ble_eq_true rfl, by rw [hR]; exact Nat.le_of_ble_eq_true rfl⟩) ⟨gPre_blind, g_recv C h q_20 (by omega) (ci := 7) (g_she q_20_l) rfl, gS_pre C h _⟩ rfl rfl hl.1 rfl (lv_room (Nat.le_of_ble_eq_true rfl)) dX9_sheet_41 ⟨Nat.zero_le _, Nat.zero_le _⟩) h (fun v_23 w_24 g_25 H locs p_22 h => ?_)
          obtain ⟨p_22, rfl, rfl⟩ := p_22
          have u_26 : cI v_23 := p_22.1
          have u_27 : fC 97 106 v w v_23 w := fC_tr fC_rf (fC_le p_22.2.1 (by decide))
          have o_28 := u_26
          obtain ⟨K1, K2, K3, K4, K5, K6, K7, Ks, K9, Ka, Kr, Kz⟩ := o_28
          have hmk := p_22.2.2
          rw [show q_20 = 98 + 2 * A1.toNat by omega] at hmk
          refine lv_iconst (v := 1) hx hb dX9_sheet_44 (by decide) ?_
          exact ret 1 v_23 w sg _ _ _ _ dX9_sheet_45 h ⟨⟨u_26, u_27, Or.inr (Or.inr (⟨(by unfold rF30; omega), (by omega), rfl, hmk⟩))⟩, rfl, rfl⟩
        · have j_19 : ¬ (0 ≤ A3) := fun q => c_18 ((i_le (by decide) a3).mpr q)
          refine lv_iconst (v := 4) hx hb dX9_sheet_28 (by decide) ?_
          refine g_calli C (va_runS (As := [.int (4)]) (rest := []) C.1 (c_X9_answerOfFault l G v w sg (4) (A0 := 4) (by decide)) (va_cwS 1 hts gX9_sheet_X9_answerOfFault rfl rfl rfl (by decide +kernel) ⟨by rw [hR]; exact Nat.le_of_ble_eq_true rfl, by rw [hR]; exact Nat.le_of_ble_eq_true rfl⟩) ⟨gPre_blind, gS_pre C h _⟩ rfl rfl hl.1 rfl (lv_room (Nat.le_of_ble_eq_true rfl)) dX9_sheet_29 ⟨Nat.zero_le _, Nat.zero_le _⟩) h (fun r_29 v_31 w_32 g_33 H locs p_30 h => ?_)
          obtain ⟨p_30, rfl, rfl, rfl⟩ := p_30
          exact ret r_29 v w sg _ _ _ _ dX9_sheet_32 h ⟨⟨ci, fC_rf, Or.inr (Or.inl ⟨(by unfold rF30; omega), (by omega), p_30, rfl⟩)⟩, rfl, rfl⟩
      · have j_17 : ¬ (A3 ≤ 60) := fun q => c_16 ((i_le a3 (by decide)).mpr q)
        refine lv_iconst (v := (-1)) hx hb dX9_sheet_22 (by decide) ?_
        exact ret (-1) v w sg _ _ _ _ dX9_sheet_23 h ⟨⟨ci, fC_rf, Or.inl ⟨(by unfold rF30; omega), rfl, rfl⟩⟩, rfl, rfl⟩
    · skip
      refine lv_if_eq (tgt := 22) hx hb dX9_sheet_13 (by decide) (fun _ => ?_) (fun c_34 => absurd (by decide) c_34)
      refine lv_iconst (v := (-1)) hx hb dX9_sheet_22 (by decide) ?_
      exact ret (-1) v w sg _ _ _ _ dX9_sheet_23 h ⟨⟨ci, fC_rf, Or.inl ⟨(by unfold rF30; omega), rfl, rfl⟩⟩, rfl, rfl⟩
  · skip
    refine lv_if_eq (tgt := 22) hx hb dX9_sheet_5 (by decide) (fun _ => ?_) (fun c_35 => absurd (by decide) c_35)
    refine lv_iconst (v := (-1)) hx hb dX9_sheet_22 (by decide) ?_
    exact ret (-1) v w sg _ _ _ _ dX9_sheet_23 h ⟨⟨ci, fC_rf, Or.inl ⟨(by unfold rF30; omega), rfl, rfl⟩⟩, rfl, rfl⟩

set_option maxHeartbeats 4000000 in
set_option maxRecDepth 100000 in
theorem c_X9_lay (l : Launch) (G : gG) (v : Nat → Nat → Int32) (w : Nat → Nat → Int64) (sg : Nat → Nat) (p1 : Int32) {A1 : Int} (a1 : p1.toInt = A1) (p2 : Int32) {A2 : Int} (a2 : p2.toInt = A2) (p3 : Int32) {A3 : Int} (a3 : p3.toInt = A3) (ci : cI v) : Met l yX9_lay wsX9_lay ({ frames := 1, cells := 0, slots := 0, locals := 23 }) (gPre G v w sg [.ref (G.2.2 (0)), .int (p1), .int (p2), .int (p3)]) (gQi G (fun r v' w' sg' => (cI v' ∧ fC 97 106 v w v' w ∧ ((¬ (0 ≤ A1 ∧ A1 ≤ 3) ∧ r = -1 ∧ v' = v) ∨ ((0 ≤ A1 ∧ A1 ≤ 3) ∧ (flC (v (98 + 2 * A1.toNat) 0).toInt (v (98 + 2 * A1.toNat) 1).toInt A2 1).toInt ≠ 0 ∧ r = -10 - flC (v (98 + 2 * A1.toNat) 0).toInt (v (98 + 2 * A1.toNat) 1).toInt A2 1 ∧ v' = v) ∨ ((0 ≤ A1 ∧ A1 ≤ 3) ∧ (flC (v (98 + 2 * A1.toNat) 0).toInt (v (98 + 2 * A1.toNat) 1).toInt A2 1).toInt = 0 ∧ r = 1 ∧ v' = gu v ((98 + 2 * A1.toNat) + 1) A2.toNat (cvt (v (98 + 2 * A1.toNat) 0).toInt p3)))) ∧ w = w' ∧ sg = sg')) 0 0 (gA G) := by
  refine gM_ofi (cc := cX9_lay) (maxL := 5) (by decide) rfl (Nat.le_of_ble_eq_true rfl) ?_
  intro p e R s m args below meth c Q ls C hR ret h hl
  have hx := C.1.1
  have hb := C.1.2.1
  have hown := C.1.2.2.2.1
  have hts := C.1.2.2.2.2
  have hl : lv_has ls 5 [(0, .ref (G.2.2 (0))), (1, .int (p1)), (2, .int (p2)), (3, .int (p3))] := hl
  have q1 := i_rng p1; rw [a1] at q1
  have q2 := i_rng p2; rw [a2] at q2
  have q3 := i_rng p3; rw [a3] at q3
  have z_m1 : ((-1) : Int32).toInt = (-1) := by decide
  have z_0 : (0 : Int32).toInt = 0 := by decide
  have z_1 : (1 : Int32).toInt = 1 := by decide
  have z_4 : (4 : Int32).toInt = 4 := by decide
  have f53 : Cond.fieldLink RX9 53 "WindHall" "sheets" "[LWindHall$Sheet;" ∈ wsX9_lay := by decide +kernel
  have hi9 : ∀ x ∈ u_ws RX9 TX9 7, x ∈ wsX9_lay := fun x q => List.mem_cons_of_mem _ (List.mem_append_left _ (List.mem_append_right _ q))
  have o_1 := ci
  obtain ⟨K1, K2, K3, K4, K5, K6, K7, Ks, K9, Ka, Kr, Kz⟩ := o_1
  refine lv_iload_n hx hb dX9_lay_0 rfl (lv_at hl 1 rfl) ?_
  refine lv_iconst (v := 4) hx hb dX9_lay_1 (by decide) ?_
  refine g_calli C (va_runS (As := [.int (p1), .int (4)]) (rest := []) C.1 (c_X9_isIndex l G v w sg p1 (A0 := A1) a1 (4) (A1 := 4) (by decide)) (va_cwS 2 hts gX9_lay_X9_isIndex rfl rfl rfl (by decide +kernel) ⟨by rw [hR]; exact Nat.le_of_ble_eq_true rfl, by rw [hR]; exact Nat.le_of_ble_eq_true rfl⟩) ⟨gPre_blind, gS_pre C h _⟩ rfl rfl hl.1 rfl (lv_room (Nat.le_of_ble_eq_true rfl)) dX9_lay_2 ⟨Nat.zero_le _, Nat.zero_le _⟩) h (fun r_2 v_4 w_5 g_6 H locs p_3 h => ?_)
  obtain ⟨p_3, rfl, rfl, rfl⟩ := p_3
  rcases p_3 with ⟨rfl, t_7⟩ | ⟨rfl, t_7⟩
  · skip
    refine lv_if_ne (tgt := 10) hx hb dX9_lay_5 (by decide) (fun _ => ?_) (fun c_8 => absurd c_8 (by decide))
    refine lv_aload_n hx hb dX9_lay_10 rfl (lv_at hl 0 rfl) ?_
    refine g_get (ci := 9) (x := .ref (G.2.2 (97))) C h 0 (by decide) rfl rfl hi9 6 (by decide) f53 rfl rfl dX9_lay_11 ?_
    refine lv_iload_n hx hb dX9_lay_14 rfl (lv_at hl 1 rfl) ?_
    refine g_aald (ty := .object "WindHall$Sheet") C h 97 (by decide) 3 (by decide) (n := 4) (by decide) rfl rfl (vp_of a1 (by omega) (by omega)) dX9_lay_15 ?_
    obtain ⟨q_9, q_9_e, q_9_i, q_9_l⟩ := g_row97 sg (i := p1) a1 (by omega) (by omega)
    rw [q_9_e]
    refine lv_iload_n hx hb dX9_lay_16 rfl (lv_at hl 2 rfl) ?_
    refine lv_iconst (v := 1) hx hb dX9_lay_17 (by decide) ?_
    refine g_calli C (va_runV (As := [.int (p2), .int (1)]) (rest := []) C.1 (c_X7_faultOfCells l G v w sg q_9 p2 (A1 := A2) a2 (1) (A2 := 1) (by decide) (by omega) (by omega) ci) (cwV 2 hts gX9_lay_X7_faultOfCells rfl rfl rfl (by decide +kernel) ⟨by rw [hR]; exact Nat.le_of_ble_eq_true rfl, by rw [hR]; exact Nat.le_of_ble_eq_true rfl⟩) ⟨gPre_blind, g_recv C h q_9 (by omega) (ci := 7) (g_she q_9_l) rfl, gS_pre C h _⟩ rfl rfl hl.1 rfl (lv_room (Nat.le_of_ble_eq_true rfl)) dX9_lay_18 ⟨Nat.zero_le _, Nat.zero_le _⟩) h (fun r_10 v_12 w_13 g_14 H locs p_11 h => ?_)
    obtain ⟨p_11, rfl, rfl, rfl⟩ := p_11
    have hfc : r_10 = flC (v (98 + 2 * A1.toNat) 0).toInt (v (98 + 2 * A1.toNat) 1).toInt A2 1 := by rw [p_11, show q_9 = 98 + 2 * A1.toNat by omega]
    have hlz := flC_in hfc
    refine lv_istore (lv' := [(4, .int (r_10)), (0, .ref (G.2.2 (0))), (1, .int (p1)), (2, .int (p2)), (3, .int (p3))]) hx hb dX9_lay_21 hl (by decide) rfl (fun ls hl => ?_)
    refine lv_iload hx hb dX9_lay_23 (lv_at hl 0 rfl) ?_
    refine lv_if_eq (tgt := 34) hx hb dX9_lay_25 (by decide) (fun c_15 => ?_) (fun c_15 => ?_)
    · have j_16 : (r_10).toInt = 0 := (i_eq rfl (by decide)).mp c_15
      refine lv_aload_n hx hb dX9_lay_34 rfl (lv_at hl 1 rfl) ?_
      refine g_get (ci := 9) (x := .ref (G.2.2 (97))) C h 0 (by decide) rfl rfl hi9 6 (by decide) f53 rfl rfl dX9_lay_35 ?_
      refine lv_iload_n hx hb dX9_lay_38 rfl (lv_at hl 2 rfl) ?_
      refine g_aald (ty := .object "WindHall$Sheet") C h 97 (by decide) 3 (by decide) (n := 4) (by decide) rfl rfl (vp_of a1 (by omega) (by omega)) dX9_lay_39 ?_
      obtain ⟨q_17, q_17_e, q_17_i, q_17_l⟩ := g_row97 sg (i := p1) a1 (by omega) (by omega)
      rw [q_17_e]
      refine lv_iload_n hx hb dX9_lay_40 rfl (lv_at hl 3 rfl) ?_
      refine lv_iload_n hx hb dX9_lay_41 rfl (lv_at hl 4 rfl) ?_
      refine g_callv C (va_runV (As := [.int (p2), .int (p3)]) (rest := []) C.1 (c_X7_set l G v w sg q_17 p2 (A1 := A2) a2 p3 (A2 := A3) a3 (by omega) (by have := hlz (by omega); have hz := sz_of (o := (98 + 2 * A1.toNat)) ci (by omega); omega) ci) (cwV 2 hts gX9_lay_X7_set rfl rfl rfl (by decide +kernel) ⟨by rw [hR]; exact Nat.le_of_ble_eq_true rfl, by rw [hR]; exact Nat.le_of_ble_eq_true rfl⟩) ⟨gPre_blind, g_recv C h q_17 (by omega) (ci := 7) (g_she q_17_l) rfl, gS_pre C h _⟩ rfl rfl hl.1 rfl (lv_room (Nat.le_of_ble_eq_true rfl)) dX9_lay_42 ⟨Nat.zero_le _, Nat.zero_le _⟩) h (fun v_20 w_21 g_22 H locs p_19 h => ?_)
      obtain ⟨p_19, rfl, rfl⟩ := p_19
      have u_23 : cI v_20 := p_19.1
      have u_24 : fC 97 106 v w v_20 w := fC_tr fC_rf (fC_le p_19.2.1 (by decide))
      have o_25 := u_23
      obtain ⟨K1, K2, K3, K4, K5, K6, K7, Ks, K9, Ka, Kr, Kz⟩ := o_25
      have hst := p_19.2.2
      rw [show q_17 = 98 + 2 * A1.toNat by omega] at hst
      refine lv_iconst (v := 1) hx hb dX9_lay_45 (by decide) ?_
      exact ret 1 v_20 w sg _ _ _ _ dX9_lay_46 h ⟨⟨u_23, u_24, Or.inr (Or.inr (⟨by omega, by rw [← hfc]; omega, rfl, hst⟩))⟩, rfl, rfl⟩
    · have j_16 : ¬ ((r_10).toInt = 0) := fun q => c_15 ((i_eq rfl (by decide)).mpr q)
      refine lv_iload hx hb dX9_lay_28 (lv_at hl 0 rfl) ?_
      refine g_calli C (va_runS (As := [.int (r_10)]) (rest := []) C.1 (c_X9_answerOfFault l G v w sg r_10 (A0 := (r_10).toInt) rfl) (va_cwS 1 hts gX9_lay_X9_answerOfFault rfl rfl rfl (by decide +kernel) ⟨by rw [hR]; exact Nat.le_of_ble_eq_true rfl, by rw [hR]; exact Nat.le_of_ble_eq_true rfl⟩) ⟨gPre_blind, gS_pre C h _⟩ rfl rfl hl.1 rfl (lv_room (Nat.le_of_ble_eq_true rfl)) dX9_lay_30 ⟨Nat.zero_le _, Nat.zero_le _⟩) h (fun r_26 v_28 w_29 g_30 H locs p_27 h => ?_)
      obtain ⟨p_27, rfl, rfl, rfl⟩ := p_27
      exact ret r_26 v w sg _ _ _ _ dX9_lay_33 h ⟨⟨ci, fC_rf, Or.inr (Or.inl ⟨by omega, by rw [← hfc]; omega, (by rw [p_27, hfc]), rfl⟩)⟩, rfl, rfl⟩
  · skip
    refine lv_if_ne (tgt := 10) hx hb dX9_lay_5 (by decide) (fun c_31 => absurd (by decide) c_31) (fun _ => ?_)
    refine lv_iconst (v := (-1)) hx hb dX9_lay_8 (by decide) ?_
    exact ret (-1) v w sg _ _ _ _ dX9_lay_9 h ⟨⟨ci, fC_rf, Or.inl ⟨(by omega), rfl, rfl⟩⟩, rfl, rfl⟩

set_option maxHeartbeats 4000000 in
set_option maxRecDepth 100000 in
theorem c_X9_scan (l : Launch) (G : gG) (v : Nat → Nat → Int32) (w : Nat → Nat → Int64) (sg : Nat → Nat) (p1 : Int32) {A1 : Int} (a1 : p1.toInt = A1) (p2 : Int32) {A2 : Int} (a2 : p2.toInt = A2) (p3 : Int32) {A3 : Int} (a3 : p3.toInt = A3) (ci : cI v) : Met l yX9_scan wsX9_scan ({ frames := 3, cells := 0, slots := 0, locals := 65 }) (gPre G v w sg [.ref (G.2.2 (0)), .int (p1), .int (p2), .int (p3)]) (gQi G (fun r v' w' sg' => (cI v' ∧ fC 93 97 v w v' w ∧ ((¬ rF32 A1 A2 ∧ r = -1 ∧ v' = v) ∨ (rF32 A1 A2 ∧ (flL (v (98 + 2 * A1.toNat) 0).toInt A2).toInt ≠ 0 ∧ r = -10 - flL (v (98 + 2 * A1.toNat) 0).toInt A2 ∧ v' = v) ∨ (rF32 A1 A2 ∧ (flL (v (98 + 2 * A1.toNat) 0).toInt A2).toInt = 0 ∧ (flC (v (98 + 2 * A1.toNat) 0).toInt (v (98 + 2 * A1.toNat) 1).toInt A3 (v 93 0).toInt).toInt ≠ 0 ∧ r = -10 - flC (v (98 + 2 * A1.toNat) 0).toInt (v (98 + 2 * A1.toNat) 1).toInt A3 (v 93 0).toInt ∧ v' = v) ∨ (rF32 A1 A2 ∧ (flL (v (98 + 2 * A1.toNat) 0).toInt A2).toInt = 0 ∧ (flC (v (98 + 2 * A1.toNat) 0).toInt (v (98 + 2 * A1.toNat) 1).toInt A3 (v 93 0).toInt).toInt = 0 ∧ r = sumN (fun k => lo1 (v' 94 k)) (v 93 0).toInt.toNat ∧ v' = va_up (va_up v 94 (flN (fun k => lostOf (v ((98 + 2 * A1.toNat) + 1) (A3.toNat + k))) (v 94) (v 93 0).toInt)) 95 (flN (fun k => prsOf (v ((98 + 2 * A1.toNat) + 1) (A3.toNat + k))) (v 95) (v 93 0).toInt)))) ∧ w = w' ∧ sg = sg')) 0 0 (gA G) := by
  refine gM_ofi (cc := cX9_scan) (maxL := 5) (by decide) rfl (Nat.le_of_ble_eq_true rfl) ?_
  intro p e R s m args below meth c Q ls C hR ret h hl
  have hx := C.1.1
  have hb := C.1.2.1
  have hown := C.1.2.2.2.1
  have hts := C.1.2.2.2.2
  have hl : lv_has ls 5 [(0, .ref (G.2.2 (0))), (1, .int (p1)), (2, .int (p2)), (3, .int (p3))] := hl
  have q1 := i_rng p1; rw [a1] at q1
  have q2 := i_rng p2; rw [a2] at q2
  have q3 := i_rng p3; rw [a3] at q3
  have z_m1 : ((-1) : Int32).toInt = (-1) := by decide
  have z_0 : (0 : Int32).toInt = 0 := by decide
  have z_1 : (1 : Int32).toInt = 1 := by decide
  have z_3 : (3 : Int32).toInt = 3 := by decide
  have z_4 : (4 : Int32).toInt = 4 := by decide
  have f53 : Cond.fieldLink RX9 53 "WindHall" "sheets" "[LWindHall$Sheet;" ∈ wsX9_scan := by decide +kernel
  have hi9 : ∀ x ∈ u_ws RX9 TX9 7, x ∈ wsX9_scan := fun x q => List.mem_cons_of_mem _ (List.mem_append_left _ (List.mem_append_left _ (List.mem_append_right _ q)))
  have f47 : Cond.fieldLink RX9 47 "WindHall" "tubes" "LWindHall$Tubes;" ∈ wsX9_scan := by decide +kernel
  have f222 : Cond.fieldLink RX9 222 "WindHall$Tubes" "count" "I" ∈ wsX9_scan := by decide +kernel
  have hi8 : ∀ x ∈ u_ws RX8 TX8 4, x ∈ wsX9_scan := fun x q => List.mem_cons_of_mem _ (List.mem_append_left _ (List.mem_append_right _ q))
  have o_1 := ci
  obtain ⟨K1, K2, K3, K4, K5, K6, K7, Ks, K9, Ka, Kr, Kz⟩ := o_1
  refine lv_iload_n hx hb dX9_scan_0 rfl (lv_at hl 1 rfl) ?_
  refine lv_iconst (v := 4) hx hb dX9_scan_1 (by decide) ?_
  refine g_calli C (va_runS (As := [.int (p1), .int (4)]) (rest := []) C.1 (c_X9_isIndex l G v w sg p1 (A0 := A1) a1 (4) (A1 := 4) (by decide)) (va_cwS 2 hts gX9_scan_X9_isIndex rfl rfl rfl (by decide +kernel) ⟨by rw [hR]; exact Nat.le_of_ble_eq_true rfl, by rw [hR]; exact Nat.le_of_ble_eq_true rfl⟩) ⟨gPre_blind, gS_pre C h _⟩ rfl rfl hl.1 rfl (lv_room (Nat.le_of_ble_eq_true rfl)) dX9_scan_2 ⟨Nat.zero_le _, Nat.zero_le _⟩) h (fun r_2 v_4 w_5 g_6 H locs p_3 h => ?_)
  obtain ⟨p_3, rfl, rfl, rfl⟩ := p_3
  rcases p_3 with ⟨rfl, t_7⟩ | ⟨rfl, t_7⟩
  · skip
    refine lv_if_eq (tgt := 16) hx hb dX9_scan_5 (by decide) (fun c_8 => absurd c_8 (by decide)) (fun _ => ?_)
    refine lv_iload_n hx hb dX9_scan_8 rfl (lv_at hl 2 rfl) ?_
    refine lv_iconst (v := 3) hx hb dX9_scan_9 (by decide) ?_
    refine g_calli C (va_runS (As := [.int (p2), .int (3)]) (rest := []) C.1 (c_X9_isIndex l G v w sg p2 (A0 := A2) a2 (3) (A1 := 3) (by decide)) (va_cwS 2 hts gX9_scan_X9_isIndex rfl rfl rfl (by decide +kernel) ⟨by rw [hR]; exact Nat.le_of_ble_eq_true rfl, by rw [hR]; exact Nat.le_of_ble_eq_true rfl⟩) ⟨gPre_blind, gS_pre C h _⟩ rfl rfl hl.1 rfl (lv_room (Nat.le_of_ble_eq_true rfl)) dX9_scan_10 ⟨Nat.zero_le _, Nat.zero_le _⟩) h (fun r_9 v_11 w_12 g_13 H locs p_10 h => ?_)
    obtain ⟨p_10, rfl, rfl, rfl⟩ := p_10
    rcases p_10 with ⟨rfl, t_14⟩ | ⟨rfl, t_14⟩
    · skip
      refine lv_if_ne (tgt := 18) hx hb dX9_scan_13 (by decide) (fun _ => ?_) (fun c_15 => absurd c_15 (by decide))
      refine lv_aload_n hx hb dX9_scan_18 rfl (lv_at hl 0 rfl) ?_
      refine g_get (ci := 9) (x := .ref (G.2.2 (97))) C h 0 (by decide) rfl rfl hi9 6 (by decide) f53 rfl rfl dX9_scan_19 ?_
      refine lv_iload_n hx hb dX9_scan_22 rfl (lv_at hl 1 rfl) ?_
      refine g_aald (ty := .object "WindHall$Sheet") C h 97 (by decide) 3 (by decide) (n := 4) (by decide) rfl rfl (vp_of a1 (by omega) (by omega)) dX9_scan_23 ?_
      obtain ⟨q_16, q_16_e, q_16_i, q_16_l⟩ := g_row97 sg (i := p1) a1 (by omega) (by omega)
      rw [q_16_e]
      refine lv_iload_n hx hb dX9_scan_24 rfl (lv_at hl 2 rfl) ?_
      refine g_calli C (va_runV (As := [.int (p2)]) (rest := []) C.1 (c_X7_faultOfLane l G v w sg q_16 p2 (A1 := A2) a2 (by omega) ci) (cwV 1 hts gX9_scan_X7_faultOfLane rfl rfl rfl (by decide +kernel) ⟨by rw [hR]; exact Nat.le_of_ble_eq_true rfl, by rw [hR]; exact Nat.le_of_ble_eq_true rfl⟩) ⟨gPre_blind, g_recv C h q_16 (by omega) (ci := 7) (g_she q_16_l) rfl, gS_pre C h _⟩ rfl rfl hl.1 rfl (lv_room (Nat.le_of_ble_eq_true rfl)) dX9_scan_25 ⟨Nat.zero_le _, Nat.zero_le _⟩) h (fun r_17 v_19 w_20 g_21 H locs p_18 h => ?_)
      obtain ⟨p_18, rfl, rfl, rfl⟩ := p_18
      have hfl : r_17 = flL (v (98 + 2 * A1.toNat) 0).toInt A2 := by rw [p_18, show q_16 = 98 + 2 * A1.toNat by omega]
      refine lv_istore (lv' := [(4, .int (r_17)), (0, .ref (G.2.2 (0))), (1, .int (p1)), (2, .int (p2)), (3, .int (p3))]) hx hb dX9_scan_28 hl (by decide) rfl (fun ls hl => ?_)
      refine lv_iload hx hb dX9_scan_30 (lv_at hl 0 rfl) ?_
      have J54_22 : ∀ (y_22 : Int32) (H : Heap) (locs : List Loc) (ls : Array Slot), ((y_22 = flL (v (98 + 2 * A1.toNat) 0).toInt A2 ∧ (y_22).toInt ≠ 0) ∨ ((flL (v (98 + 2 * A1.toNat) 0).toInt A2).toInt = 0 ∧ y_22 = flC (v (98 + 2 * A1.toNat) 0).toInt (v (98 + 2 * A1.toNat) 1).toInt A3 (v 93 0).toInt)) → gS (gA G) G s v w sg H locs → lv_has ls 5 [(0, .ref (G.2.2 (0))), (1, .int (p1)), (2, .int (p2)), (3, .int (p3)), (4, .int (y_22))] → W p l e R s m args below meth c H locs 0 0 Q (F0 m 54 ls []) := by
        intro y_22 H locs ls f_23 h hl
        refine lv_iload hx hb dX9_scan_54 (lv_at hl 4 rfl) ?_
        refine lv_if_eq (tgt := 65) hx hb dX9_scan_56 (by decide) (fun c_24 => ?_) (fun c_24 => ?_)
        · have j_25 : (y_22).toInt = 0 := (i_eq rfl (by decide)).mp c_24
          have hok : (flL (v (98 + 2 * A1.toNat) 0).toInt A2).toInt = 0 ∧ (flC (v (98 + 2 * A1.toNat) 0).toInt (v (98 + 2 * A1.toNat) 1).toInt A3 (v 93 0).toInt).toInt = 0 := f_23.elim (fun q => absurd (by omega) q.2) (fun q => ⟨q.1, by rw [← q.2]; omega⟩)
          have hlz := flC_in2 hok.2
          have hz9 := sz_of (o := (98 + 2 * A1.toNat)) ci (by omega)
          refine lv_aload_n hx hb dX9_scan_65 rfl (lv_at hl 0 rfl) ?_
          refine g_get (ci := 9) (x := .ref (G.2.2 (93))) C h 0 (by decide) rfl rfl hi9 5 (by decide) f47 rfl rfl dX9_scan_66 ?_
          refine lv_aload_n hx hb dX9_scan_69 rfl (lv_at hl 0 rfl) ?_
          refine g_get (ci := 9) (x := .ref (G.2.2 (97))) C h 0 (by decide) rfl rfl hi9 6 (by decide) f53 rfl rfl dX9_scan_70 ?_
          refine lv_iload_n hx hb dX9_scan_73 rfl (lv_at hl 1 rfl) ?_
          refine g_aald (ty := .object "WindHall$Sheet") C h 97 (by decide) 3 (by decide) (n := 4) (by decide) rfl rfl (vp_of a1 (by omega) (by omega)) dX9_scan_74 ?_
          obtain ⟨q_26, q_26_e, q_26_i, q_26_l⟩ := g_row97 sg (i := p1) a1 (by omega) (by omega)
          rw [q_26_e]
          refine lv_iload_n hx hb dX9_scan_75 rfl (lv_at hl 3 rfl) ?_
          refine g_callv C (va_runV (As := [.ref (G.2.2 (q_26)), .int (p3)]) (rest := []) C.1 (c_X8_takeFrom l G v w sg q_26 p3 (A2 := A3) a3 (by omega) (by omega) ci) (cwV 2 hts gX9_scan_X8_takeFrom rfl rfl rfl (by decide +kernel) ⟨by rw [hR]; exact Nat.le_of_ble_eq_true rfl, by rw [hR]; exact Nat.le_of_ble_eq_true rfl⟩) ⟨gPre_blind, g_recv C h 93 (by decide) (ci := 8) rfl rfl, gS_pre C h _⟩ rfl rfl hl.1 rfl (lv_room (Nat.le_of_ble_eq_true rfl)) dX9_scan_76 ⟨Nat.zero_le _, Nat.zero_le _⟩) h (fun v_29 w_30 g_31 H locs p_28 h => ?_)
          obtain ⟨p_28, rfl, rfl⟩ := p_28
          have u_32 : cI v_29 := p_28.1
          have u_33 : fC 93 97 v w v_29 w := fC_tr fC_rf (fC_le p_28.2.1 (by decide))
          have o_34 := u_32
          obtain ⟨K1, K2, K3, K4, K5, K6, K7, Ks, K9, Ka, Kr, Kz⟩ := o_34
          have htk := p_28.2.2
          rw [show q_26 = 98 + 2 * A1.toNat by omega] at htk
          have e93 : v_29 93 = v 93 := by rw [htk]; rfl
          refine lv_aload_n hx hb dX9_scan_79 rfl (lv_at hl 0 rfl) ?_
          refine g_get (ci := 9) (x := .ref (G.2.2 (93))) C h 0 (by decide) rfl rfl hi9 5 (by decide) f47 rfl rfl dX9_scan_80 ?_
          refine g_calli C (va_runV (As := []) (rest := []) C.1 (c_X8_howManyLost l G v_29 w sg  u_32) (cwV 0 hts gX9_scan_X8_howManyLost rfl rfl rfl (by decide +kernel) ⟨by rw [hR]; exact Nat.le_of_ble_eq_true rfl, by rw [hR]; exact Nat.le_of_ble_eq_true rfl⟩) ⟨gPre_blind, g_recv C h 93 (by decide) (ci := 8) rfl rfl, gS_pre C h _⟩ rfl rfl hl.1 rfl (lv_room (Nat.le_of_ble_eq_true rfl)) dX9_scan_83 ⟨Nat.zero_le _, Nat.zero_le _⟩) h (fun r_35 v_37 w_38 g_39 H locs p_36 h => ?_)
          obtain ⟨p_36, rfl, rfl, rfl⟩ := p_36
          have hlm := p_36
          rw [e93] at hlm
          exact ret r_35 v_29 w sg _ _ _ _ dX9_scan_86 h ⟨⟨u_32, u_33, Or.inr (Or.inr (Or.inr (⟨by unfold rF32; omega, hok.1, hok.2, hlm, htk⟩)))⟩, rfl, rfl⟩
        · have j_25 : ¬ ((y_22).toInt = 0) := fun q => c_24 ((i_eq rfl (by decide)).mpr q)
          refine lv_iload hx hb dX9_scan_59 (lv_at hl 4 rfl) ?_
          refine g_calli C (va_runS (As := [.int (y_22)]) (rest := []) C.1 (c_X9_answerOfFault l G v w sg y_22 (A0 := (y_22).toInt) rfl) (va_cwS 1 hts gX9_scan_X9_answerOfFault rfl rfl rfl (by decide +kernel) ⟨by rw [hR]; exact Nat.le_of_ble_eq_true rfl, by rw [hR]; exact Nat.le_of_ble_eq_true rfl⟩) ⟨gPre_blind, gS_pre C h _⟩ rfl rfl hl.1 rfl (lv_room (Nat.le_of_ble_eq_true rfl)) dX9_scan_61 ⟨Nat.zero_le _, Nat.zero_le _⟩) h (fun r_40 v_42 w_43 g_44 H locs p_41 h => ?_)
          obtain ⟨p_41, rfl, rfl, rfl⟩ := p_41
          exact ret r_40 v w sg _ _ _ _ dX9_scan_64 h ⟨⟨ci, fC_rf, f_23.elim (fun q => Or.inr (Or.inl ⟨by unfold rF32; omega, by rw [← q.1]; omega, by rw [p_41, q.1], rfl⟩)) (fun q => Or.inr (Or.inr (Or.inl ⟨by unfold rF32; omega, q.1, by rw [← q.2]; omega, by rw [p_41, q.2], rfl⟩)))⟩, rfl, rfl⟩
      refine lv_if_ne (tgt := 54) hx hb dX9_scan_32 (by decide) (fun c_45 => ?_) (fun c_45 => ?_)
      · have j_46 : ¬ ((r_17).toInt = 0) := fun q => c_45 ((i_eq rfl (by decide)).mpr q)
        exact J54_22 r_17 _ _ _ (by first | exact Or.inl ⟨hfl, by omega⟩ | exact Or.inr ⟨by rw [← hfl]; omega, hfc⟩) h (lv_sub hl [1, 2, 3, 4, 0] rfl)
      · have j_46 : (r_17).toInt = 0 := (i_eq rfl (by decide)).mp c_45
        refine lv_aload_n hx hb dX9_scan_35 rfl (lv_at hl 1 rfl) ?_
        refine g_get (ci := 9) (x := .ref (G.2.2 (97))) C h 0 (by decide) rfl rfl hi9 6 (by decide) f53 rfl rfl dX9_scan_36 ?_
        refine lv_iload_n hx hb dX9_scan_39 rfl (lv_at hl 2 rfl) ?_
        refine g_aald (ty := .object "WindHall$Sheet") C h 97 (by decide) 3 (by decide) (n := 4) (by decide) rfl rfl (vp_of a1 (by omega) (by omega)) dX9_scan_40 ?_
        obtain ⟨q_47, q_47_e, q_47_i, q_47_l⟩ := g_row97 sg (i := p1) a1 (by omega) (by omega)
        rw [q_47_e]
        refine lv_iload_n hx hb dX9_scan_41 rfl (lv_at hl 4 rfl) ?_
        refine lv_aload_n hx hb dX9_scan_42 rfl (lv_at hl 1 rfl) ?_
        refine g_get (ci := 9) (x := .ref (G.2.2 (93))) C h 0 (by decide) rfl rfl hi9 5 (by decide) f47 rfl rfl dX9_scan_43 ?_
        refine g_geti (ci := 8) (x := v 93 0) C h 93 (by decide) rfl rfl hi8 0 (by decide) f222 rfl rfl rfl dX9_scan_46 ?_
        refine g_calli C (va_runV (As := [.int (p3), .int (v 93 0)]) (rest := []) C.1 (c_X7_faultOfCells l G v w sg q_47 p3 (A1 := A3) a3 (v 93 0) (A2 := (v 93 0).toInt) rfl (by omega) (by omega) ci) (cwV 2 hts gX9_scan_X7_faultOfCells rfl rfl rfl (by decide +kernel) ⟨by rw [hR]; exact Nat.le_of_ble_eq_true rfl, by rw [hR]; exact Nat.le_of_ble_eq_true rfl⟩) ⟨gPre_blind, g_recv C h q_47 (by omega) (ci := 7) (g_she q_47_l) rfl, gS_pre C h _⟩ rfl rfl hl.1 rfl (lv_room (Nat.le_of_ble_eq_true rfl)) dX9_scan_49 ⟨Nat.zero_le _, Nat.zero_le _⟩) h (fun r_48 v_50 w_51 g_52 H locs p_49 h => ?_)
        obtain ⟨p_49, rfl, rfl, rfl⟩ := p_49
        have hfc : r_48 = flC (v (98 + 2 * A1.toNat) 0).toInt (v (98 + 2 * A1.toNat) 1).toInt A3 (v 93 0).toInt := by rw [p_49, show q_47 = 98 + 2 * A1.toNat by omega]
        refine lv_istore (lv' := [(4, .int (r_48)), (0, .ref (G.2.2 (0))), (1, .int (p1)), (2, .int (p2)), (3, .int (p3))]) hx hb dX9_scan_52 hl (by decide) rfl (fun ls hl => ?_)
        exact J54_22 r_48 _ _ _ (by first | exact Or.inl ⟨hfl, by omega⟩ | exact Or.inr ⟨by rw [← hfl]; omega, hfc⟩) h (lv_sub hl [1, 2, 3, 4, 0] rfl)
    · skip
      refine lv_if_ne (tgt := 18) hx hb dX9_scan_13 (by decide) (fun c_53 => absurd (by decide) c_53) (fun _ => ?_)
      refine lv_iconst (v := (-1)) hx hb dX9_scan_16 (by decide) ?_
      exact ret (-1) v w sg _ _ _ _ dX9_scan_17 h ⟨⟨ci, fC_rf, Or.inl ⟨(by unfold rF32; omega), rfl, rfl⟩⟩, rfl, rfl⟩
  · skip
    refine lv_if_eq (tgt := 16) hx hb dX9_scan_5 (by decide) (fun _ => ?_) (fun c_54 => absurd (by decide) c_54)
    refine lv_iconst (v := (-1)) hx hb dX9_scan_16 (by decide) ?_
    exact ret (-1) v w sg _ _ _ _ dX9_scan_17 h ⟨⟨ci, fC_rf, Or.inl ⟨(by unfold rF32; omega), rfl, rfl⟩⟩, rfl, rfl⟩

set_option maxHeartbeats 4000000 in
set_option maxRecDepth 100000 in
theorem c_X9_force (l : Launch) (G : gG) (v : Nat → Nat → Int32) (w : Nat → Nat → Int64) (sg : Nat → Nat) (ci : cI v) : Met l yX9_force wsX9_force ({ frames := 1, cells := 0, slots := 0, locals := 22 }) (gPre G v w sg [.ref (G.2.2 (0))]) (gQi G (fun r v' w' sg' => (r = sumN (fun k => v 96 k * v 95 k) (v 93 0).toInt.toNat) ∧ v = v' ∧ w = w' ∧ sg = sg')) 0 0 (gA G) := by
  refine gM_ofi (cc := cX9_force) (maxL := 1) (by decide) rfl (Nat.le_of_ble_eq_true rfl) ?_
  intro p e R s m args below meth c Q ls C hR ret h hl
  have hx := C.1.1
  have hb := C.1.2.1
  have hown := C.1.2.2.2.1
  have hts := C.1.2.2.2.2
  have hl : lv_has ls 1 [(0, .ref (G.2.2 (0)))] := hl
  have z_0 : (0 : Int32).toInt = 0 := by decide
  have z_1 : (1 : Int32).toInt = 1 := by decide
  have f47 : Cond.fieldLink RX9 47 "WindHall" "tubes" "LWindHall$Tubes;" ∈ wsX9_force := by decide +kernel
  have hi9 : ∀ x ∈ u_ws RX9 TX9 7, x ∈ wsX9_force := fun x q => List.mem_cons_of_mem _ (List.mem_append_left _ (List.mem_append_right _ q))
  have o_1 := ci
  obtain ⟨K1, K2, K3, K4, K5, K6, K7, Ks, K9, Ka, Kr, Kz⟩ := o_1
  refine lv_aload_n hx hb dX9_force_0 rfl (lv_at hl 0 rfl) ?_
  refine g_get (ci := 9) (x := .ref (G.2.2 (93))) C h 0 (by decide) rfl rfl hi9 5 (by decide) f47 rfl rfl dX9_force_1 ?_
  refine g_calli C (va_runV (As := []) (rest := []) C.1 (c_X8_sum l G v w sg  ci) (cwV 0 hts gX9_force_X8_sum rfl rfl rfl (by decide +kernel) ⟨by rw [hR]; exact Nat.le_of_ble_eq_true rfl, by rw [hR]; exact Nat.le_of_ble_eq_true rfl⟩) ⟨gPre_blind, g_recv C h 93 (by decide) (ci := 8) rfl rfl, gS_pre C h _⟩ rfl rfl hl.1 rfl (lv_room (Nat.le_of_ble_eq_true rfl)) dX9_force_4 ⟨Nat.zero_le _, Nat.zero_le _⟩) h (fun r_2 v_4 w_5 g_6 H locs p_3 h => ?_)
  obtain ⟨p_3, rfl, rfl, rfl⟩ := p_3
  exact ret r_2 v w sg _ _ _ _ dX9_force_7 h ⟨p_3, rfl, rfl, rfl⟩

set_option maxHeartbeats 4000000 in
set_option maxRecDepth 100000 in
theorem c_X9_check (l : Launch) (G : gG) (v : Nat → Nat → Int32) (w : Nat → Nat → Int64) (sg : Nat → Nat) (p1 : Int32) {A1 : Int} (a1 : p1.toInt = A1) (p2 : Int32) {A2 : Int} (a2 : p2.toInt = A2) (bp : bPr v) (ci : cI v) : Met l yX9_check wsX9_check ({ frames := 3, cells := 0, slots := 0, locals := 73 }) (gPre G v w sg [.ref (G.2.2 (0)), .int (p1), .int (p2)]) (gQi G (fun r v' w' sg' => ((¬ rF34 A1 A2 ∧ r = -1) ∨ (rF34 A1 A2 ∧ 0 < (sumN (fun k => lo1 (v 94 k)) (v 93 0).toInt.toNat).toInt ∧ r = -2) ∨ (rF34 A1 A2 ∧ (sumN (fun k => lo1 (v 94 k)) (v 93 0).toInt.toNat).toInt ≤ 0 ∧ ((-A2 ≤ A1 - (sumN (fun k => v 96 k * v 95 k) (v 93 0).toInt.toNat).toInt ∧ A1 - (sumN (fun k => v 96 k * v 95 k) (v 93 0).toInt.toNat).toInt ≤ A2 ∧ r = 0) ∨ (¬ (-A2 ≤ A1 - (sumN (fun k => v 96 k * v 95 k) (v 93 0).toInt.toNat).toInt ∧ A1 - (sumN (fun k => v 96 k * v 95 k) (v 93 0).toInt.toNat).toInt ≤ A2) ∧ ckR (fun k => cmQ (v 96 k).toInt (v 95 k).toInt (A1 - (sumN (fun k => v 96 k * v 95 k) (v 93 0).toInt.toNat).toInt) A2) (v 93 0).toInt r.toInt)))) ∧ v = v' ∧ w = w' ∧ sg = sg')) 0 0 (gA G) := by
  refine gM_ofi (cc := cX9_check) (maxL := 3) (by decide) rfl (Nat.le_of_ble_eq_true rfl) ?_
  intro p e R s m args below meth c Q ls C hR ret h hl
  have hx := C.1.1
  have hb := C.1.2.1
  have hown := C.1.2.2.2.1
  have hts := C.1.2.2.2.2
  have hl : lv_has ls 3 [(0, .ref (G.2.2 (0))), (1, .int (p1)), (2, .int (p2))] := hl
  have q1 := i_rng p1; rw [a1] at q1
  have q2 := i_rng p2; rw [a2] at q2
  have z_m2 : ((-2) : Int32).toInt = (-2) := by decide
  have z_m1 : ((-1) : Int32).toInt = (-1) := by decide
  have z_0 : (0 : Int32).toInt = 0 := by decide
  have z_1 : (1 : Int32).toInt = 1 := by decide
  have z_100000 : (100000 : Int32).toInt = 100000 := by decide
  have z_2000000 : (2000000 : Int32).toInt = 2000000 := by decide
  have k188 : (Cond.constant RX9 188 (100000)).before args s = true := hts _ (by decide +kernel)
  have k189 : (Cond.constant RX9 189 (2000000)).before args s = true := hts _ (by decide +kernel)
  have f47 : Cond.fieldLink RX9 47 "WindHall" "tubes" "LWindHall$Tubes;" ∈ wsX9_check := by decide +kernel
  have hi9 : ∀ x ∈ u_ws RX9 TX9 7, x ∈ wsX9_check := fun x q => List.mem_cons_of_mem _ (List.mem_append_left _ (List.mem_append_right _ q))
  have o_1 := ci
  obtain ⟨K1, K2, K3, K4, K5, K6, K7, Ks, K9, Ka, Kr, Kz⟩ := o_1
  refine lv_iload_n hx hb dX9_check_0 rfl (lv_at hl 2 rfl) ?_
  refine lv_if_lt (tgt := 19) hx hb dX9_check_1 (by decide) (fun c_2 => ?_) (fun c_2 => ?_)
  · have j_3 : A2 < 0 := (i_lt a2 (by decide)).mp c_2
    refine lv_iconst (v := (-1)) hx hb dX9_check_19 (by decide) ?_
    exact ret (-1) v w sg _ _ _ _ dX9_check_20 h ⟨Or.inl ⟨by unfold rF34; omega, rfl⟩, rfl, rfl, rfl⟩
  · have j_3 : ¬ (A2 < 0) := fun q => c_2 ((i_lt a2 (by decide)).mpr q)
    refine lv_iload_n hx hb dX9_check_4 rfl (lv_at hl 2 rfl) ?_
    refine lv_ldc hx hb hown k188 dX9_check_5 ?_
    refine lv_icmp_gt (tgt := 19) hx hb dX9_check_7 (by decide) (fun c_4 => ?_) (fun c_4 => ?_)
    · have j_5 : 100000 < A2 := (i_lt (by decide) a2).mp c_4
      refine lv_iconst (v := (-1)) hx hb dX9_check_19 (by decide) ?_
      exact ret (-1) v w sg _ _ _ _ dX9_check_20 h ⟨Or.inl ⟨by unfold rF34; omega, rfl⟩, rfl, rfl, rfl⟩
    · have j_5 : ¬ (100000 < A2) := fun q => c_4 ((i_lt (by decide) a2).mpr q)
      refine lv_iload_n hx hb dX9_check_10 rfl (lv_at hl 1 rfl) ?_
      refine lv_ldc hx hb hown k189 dX9_check_11 ?_
      refine g_calli C (va_runS (As := [.int (p1), .int (2000000)]) (rest := []) C.1 (c_X9_isWithin l G v w sg p1 (A0 := A1) a1 (2000000) (A1 := 2000000) (by decide) (by omega)) (va_cwS 2 hts gX9_check_X9_isWithin rfl rfl rfl (by decide +kernel) ⟨by rw [hR]; exact Nat.le_of_ble_eq_true rfl, by rw [hR]; exact Nat.le_of_ble_eq_true rfl⟩) ⟨gPre_blind, gS_pre C h _⟩ rfl rfl hl.1 rfl (lv_room (Nat.le_of_ble_eq_true rfl)) dX9_check_13 ⟨Nat.zero_le _, Nat.zero_le _⟩) h (fun r_6 v_8 w_9 g_10 H locs p_7 h => ?_)
      obtain ⟨p_7, rfl, rfl, rfl⟩ := p_7
      rcases p_7 with ⟨rfl, t_11⟩ | ⟨rfl, t_11⟩
      · skip
        refine lv_if_ne (tgt := 21) hx hb dX9_check_16 (by decide) (fun _ => ?_) (fun c_12 => absurd c_12 (by decide))
        refine lv_aload_n hx hb dX9_check_21 rfl (lv_at hl 0 rfl) ?_
        refine g_get (ci := 9) (x := .ref (G.2.2 (93))) C h 0 (by decide) rfl rfl hi9 5 (by decide) f47 rfl rfl dX9_check_22 ?_
        refine g_calli C (va_runV (As := []) (rest := []) C.1 (c_X8_howManyLost l G v w sg  ci) (cwV 0 hts gX9_check_X8_howManyLost rfl rfl rfl (by decide +kernel) ⟨by rw [hR]; exact Nat.le_of_ble_eq_true rfl, by rw [hR]; exact Nat.le_of_ble_eq_true rfl⟩) ⟨gPre_blind, g_recv C h 93 (by decide) (ci := 8) rfl rfl, gS_pre C h _⟩ rfl rfl hl.1 rfl (lv_room (Nat.le_of_ble_eq_true rfl)) dX9_check_25 ⟨Nat.zero_le _, Nat.zero_le _⟩) h (fun r_13 v_15 w_16 g_17 H locs p_14 h => ?_)
        obtain ⟨p_14, rfl, rfl, rfl⟩ := p_14
        have hlc : (r_13).toInt = (sumN (fun k => lo1 (v 94 k)) (v 93 0).toInt.toNat).toInt := by rw [p_14]
        refine lv_if_le (tgt := 36) hx hb dX9_check_28 (by decide) (fun c_18 => ?_) (fun c_18 => ?_)
        · have j_19 : (r_13).toInt ≤ 0 := (i_le rfl (by decide)).mp c_18
          refine lv_aload_n hx hb dX9_check_36 rfl (lv_at hl 0 rfl) ?_
          refine g_get (ci := 9) (x := .ref (G.2.2 (93))) C h 0 (by decide) rfl rfl hi9 5 (by decide) f47 rfl rfl dX9_check_37 ?_
          refine lv_iload_n hx hb dX9_check_40 rfl (lv_at hl 1 rfl) ?_
          refine lv_iload_n hx hb dX9_check_41 rfl (lv_at hl 2 rfl) ?_
          refine g_calli C (va_runV (As := [.int (p1), .int (p2)]) (rest := []) C.1 (c_X8_compare l G v w sg p1 (A1 := A1) a1 p2 (A2 := A2) a2 bp (by omega) (by omega) ci) (cwV 2 hts gX9_check_X8_compare rfl rfl rfl (by decide +kernel) ⟨by rw [hR]; exact Nat.le_of_ble_eq_true rfl, by rw [hR]; exact Nat.le_of_ble_eq_true rfl⟩) ⟨gPre_blind, g_recv C h 93 (by decide) (ci := 8) rfl rfl, gS_pre C h _⟩ rfl rfl hl.1 rfl (lv_room (Nat.le_of_ble_eq_true rfl)) dX9_check_42 ⟨Nat.zero_le _, Nat.zero_le _⟩) h (fun r_20 v_22 w_23 g_24 H locs p_21 h => ?_)
          obtain ⟨p_21, rfl, rfl, rfl⟩ := p_21
          exact ret r_20 v w sg _ _ _ _ dX9_check_45 h ⟨Or.inr (Or.inr ⟨by unfold rF34; omega, by omega, p_21⟩), rfl, rfl, rfl⟩
        · have j_19 : ¬ ((r_13).toInt ≤ 0) := fun q => c_18 ((i_le rfl (by decide)).mpr q)
          refine lv_bipush (v := (-2)) hx hb dX9_check_31 (by decide) ?_
          refine lv_goto (tgt := 45) hx hb dX9_check_33 (by decide) ?_
          exact ret (-2) v w sg _ _ _ _ dX9_check_45 h ⟨Or.inr (Or.inl ⟨by unfold rF34; omega, by omega, rfl⟩), rfl, rfl, rfl⟩
      · skip
        refine lv_if_ne (tgt := 21) hx hb dX9_check_16 (by decide) (fun c_25 => absurd (by decide) c_25) (fun _ => ?_)
        refine lv_iconst (v := (-1)) hx hb dX9_check_19 (by decide) ?_
        exact ret (-1) v w sg _ _ _ _ dX9_check_20 h ⟨Or.inl ⟨by unfold rF34; omega, rfl⟩, rfl, rfl, rfl⟩

set_option maxHeartbeats 4000000 in
set_option maxRecDepth 100000 in
theorem c_X9_fill (l : Launch) (G : gG) (v : Nat → Nat → Int32) (w : Nat → Nat → Int64) (sg : Nat → Nat) (p1 : Int32) {A1 : Int} (a1 : p1.toInt = A1) (bp : bPr v) (ci : cI v) : Met l yX9_fill wsX9_fill ({ frames := 3, cells := 0, slots := 0, locals := 65 }) (gPre G v w sg [.ref (G.2.2 (0)), .int (p1)]) (gQi G (fun r v' w' sg' => ((¬ (-2000000 ≤ A1 ∧ A1 ≤ 2000000) ∧ r = -1) ∨ ((-2000000 ≤ A1 ∧ A1 ≤ 2000000) ∧ (sumN (fun k => lo1 (v 94 k)) (v 93 0).toInt.toNat).toInt ≠ 1 ∧ r = -2) ∨ ((-2000000 ≤ A1 ∧ A1 ≤ 2000000) ∧ (sumN (fun k => lo1 (v 94 k)) (v 93 0).toInt.toNat).toInt = 1 ∧ ((∃ k : Nat, fsL (v 94) (v 93 0).toInt k ∧ r.toInt = plR (plV (v 96 k).toInt (A1 - (sumN (fun k => v 96 k * v 95 k) (v 93 0).toInt.toNat).toInt))) ∨ (nlL (v 94) (v 93 0).toInt ∧ r = -4)))) ∧ v = v' ∧ w = w' ∧ sg = sg')) 0 0 (gA G) := by
  refine gM_ofi (cc := cX9_fill) (maxL := 2) (by decide) rfl (Nat.le_of_ble_eq_true rfl) ?_
  intro p e R s m args below meth c Q ls C hR ret h hl
  have hx := C.1.1
  have hb := C.1.2.1
  have hown := C.1.2.2.2.1
  have hts := C.1.2.2.2.2
  have hl : lv_has ls 2 [(0, .ref (G.2.2 (0))), (1, .int (p1))] := hl
  have q1 := i_rng p1; rw [a1] at q1
  have z_m2 : ((-2) : Int32).toInt = (-2) := by decide
  have z_m1 : ((-1) : Int32).toInt = (-1) := by decide
  have z_0 : (0 : Int32).toInt = 0 := by decide
  have z_1 : (1 : Int32).toInt = 1 := by decide
  have z_2000000 : (2000000 : Int32).toInt = 2000000 := by decide
  have k189 : (Cond.constant RX9 189 (2000000)).before args s = true := hts _ (by decide +kernel)
  have f47 : Cond.fieldLink RX9 47 "WindHall" "tubes" "LWindHall$Tubes;" ∈ wsX9_fill := by decide +kernel
  have hi9 : ∀ x ∈ u_ws RX9 TX9 7, x ∈ wsX9_fill := fun x q => List.mem_cons_of_mem _ (List.mem_append_left _ (List.mem_append_right _ q))
  have o_1 := ci
  obtain ⟨K1, K2, K3, K4, K5, K6, K7, Ks, K9, Ka, Kr, Kz⟩ := o_1
  refine lv_iload_n hx hb dX9_fill_0 rfl (lv_at hl 1 rfl) ?_
  refine lv_ldc hx hb hown k189 dX9_fill_1 ?_
  refine g_calli C (va_runS (As := [.int (p1), .int (2000000)]) (rest := []) C.1 (c_X9_isWithin l G v w sg p1 (A0 := A1) a1 (2000000) (A1 := 2000000) (by decide) (by omega)) (va_cwS 2 hts gX9_fill_X9_isWithin rfl rfl rfl (by decide +kernel) ⟨by rw [hR]; exact Nat.le_of_ble_eq_true rfl, by rw [hR]; exact Nat.le_of_ble_eq_true rfl⟩) ⟨gPre_blind, gS_pre C h _⟩ rfl rfl hl.1 rfl (lv_room (Nat.le_of_ble_eq_true rfl)) dX9_fill_3 ⟨Nat.zero_le _, Nat.zero_le _⟩) h (fun r_2 v_4 w_5 g_6 H locs p_3 h => ?_)
  obtain ⟨p_3, rfl, rfl, rfl⟩ := p_3
  rcases p_3 with ⟨rfl, t_7⟩ | ⟨rfl, t_7⟩
  · skip
    refine lv_if_ne (tgt := 11) hx hb dX9_fill_6 (by decide) (fun _ => ?_) (fun c_8 => absurd c_8 (by decide))
    refine lv_aload_n hx hb dX9_fill_11 rfl (lv_at hl 0 rfl) ?_
    refine g_get (ci := 9) (x := .ref (G.2.2 (93))) C h 0 (by decide) rfl rfl hi9 5 (by decide) f47 rfl rfl dX9_fill_12 ?_
    refine g_calli C (va_runV (As := []) (rest := []) C.1 (c_X8_howManyLost l G v w sg  ci) (cwV 0 hts gX9_fill_X8_howManyLost rfl rfl rfl (by decide +kernel) ⟨by rw [hR]; exact Nat.le_of_ble_eq_true rfl, by rw [hR]; exact Nat.le_of_ble_eq_true rfl⟩) ⟨gPre_blind, g_recv C h 93 (by decide) (ci := 8) rfl rfl, gS_pre C h _⟩ rfl rfl hl.1 rfl (lv_room (Nat.le_of_ble_eq_true rfl)) dX9_fill_15 ⟨Nat.zero_le _, Nat.zero_le _⟩) h (fun r_9 v_11 w_12 g_13 H locs p_10 h => ?_)
    obtain ⟨p_10, rfl, rfl, rfl⟩ := p_10
    have hlc : (r_9).toInt = (sumN (fun k => lo1 (v 94 k)) (v 93 0).toInt.toNat).toInt := by rw [p_10]
    refine lv_iconst (v := 1) hx hb dX9_fill_18 (by decide) ?_
    refine lv_icmp_ne (tgt := 33) hx hb dX9_fill_19 (by decide) (fun c_14 => ?_) (fun c_14 => ?_)
    · have j_15 : ¬ ((r_9).toInt = 1) := fun q => c_14 ((i_eq rfl (by decide)).mpr q)
      refine lv_bipush (v := (-2)) hx hb dX9_fill_33 (by decide) ?_
      exact ret (-2) v w sg _ _ _ _ dX9_fill_35 h ⟨Or.inr (Or.inl ⟨by omega, by omega, rfl⟩), rfl, rfl, rfl⟩
    · have j_15 : (r_9).toInt = 1 := (i_eq rfl (by decide)).mp c_14
      refine lv_aload_n hx hb dX9_fill_22 rfl (lv_at hl 0 rfl) ?_
      refine g_get (ci := 9) (x := .ref (G.2.2 (93))) C h 0 (by decide) rfl rfl hi9 5 (by decide) f47 rfl rfl dX9_fill_23 ?_
      refine lv_iload_n hx hb dX9_fill_26 rfl (lv_at hl 1 rfl) ?_
      refine g_calli C (va_runV (As := [.int (p1)]) (rest := []) C.1 (c_X8_pressureOfLost l G v w sg p1 (A1 := A1) a1 bp (by omega) ci) (cwV 1 hts gX9_fill_X8_pressureOfLost rfl rfl rfl (by decide +kernel) ⟨by rw [hR]; exact Nat.le_of_ble_eq_true rfl, by rw [hR]; exact Nat.le_of_ble_eq_true rfl⟩) ⟨gPre_blind, g_recv C h 93 (by decide) (ci := 8) rfl rfl, gS_pre C h _⟩ rfl rfl hl.1 rfl (lv_room (Nat.le_of_ble_eq_true rfl)) dX9_fill_27 ⟨Nat.zero_le _, Nat.zero_le _⟩) h (fun r_16 v_18 w_19 g_20 H locs p_17 h => ?_)
      obtain ⟨p_17, rfl, rfl, rfl⟩ := p_17
      refine lv_goto (tgt := 35) hx hb dX9_fill_30 (by decide) ?_
      exact ret r_16 v w sg _ _ _ _ dX9_fill_35 h ⟨Or.inr (Or.inr ⟨by omega, by omega, p_17⟩), rfl, rfl, rfl⟩
  · skip
    refine lv_if_ne (tgt := 11) hx hb dX9_fill_6 (by decide) (fun c_21 => absurd (by decide) c_21) (fun _ => ?_)
    refine lv_iconst (v := (-1)) hx hb dX9_fill_9 (by decide) ?_
    exact ret (-1) v w sg _ _ _ _ dX9_fill_10 h ⟨Or.inl ⟨by omega, rfl⟩, rfl, rfl, rfl⟩
