set_option maxHeartbeats 4000000 in
set_option maxRecDepth 100000 in
theorem c_X10_isPlace (l : Launch) (G : gG) (v : Nat → Nat → Int32) (w : Nat → Nat → Int64) (sg : Nat → Nat) (p1 : Int32) {A1 : Int} (a1 : p1.toInt = A1) (mi : mI v) : Met l yX10_isPlace wsX10_isPlace ({ frames := 1, cells := 0, slots := 0, locals := 25 }) (gPre G v w sg [.ref (G.2.2 (106)), .int (p1)]) (gQi G (fun r v' w' sg' => ((r = 1 ∧ 0 ≤ A1 ∧ A1 < (v 106 22).toInt) ∨ (r = 0 ∧ (A1 < 0 ∨ (v 106 22).toInt ≤ A1))) ∧ v = v' ∧ w = w' ∧ sg = sg')) 0 0 (gA G) := by
  refine gM_ofz (cc := cX10_isPlace) (maxL := 2) (by decide) rfl (Nat.le_of_ble_eq_true rfl) ?_
  intro p e R s m args below meth c Q ls C hR ret h hl
  have hx := C.1.1
  have hb := C.1.2.1
  have hown := C.1.2.2.2.1
  have hts := C.1.2.2.2.2
  have hl : lv_has ls 2 [(0, .ref (G.2.2 (106))), (1, .int (p1))] := hl
  have q1 := i_rng p1; rw [a1] at q1
  have z_0 : (0 : Int32).toInt = 0 := by decide
  have z_1 : (1 : Int32).toInt = 1 := by decide
  have f228 : Cond.fieldLink RX10 228 "WindHallModel" "places" "I" ∈ wsX10_isPlace := by decide +kernel
  have hi10 : ∀ x ∈ u_ws RX10 TX10 42, x ∈ wsX10_isPlace := fun x q => List.mem_cons_of_mem _ (List.mem_append_right _ q)
  have o_1 := mi
  obtain ⟨I7, I10, I18, I22, I27, I29, I32, Is, I35, Ia, Iar, Isz, Ian⟩ := o_1
  refine lv_iload_n hx hb dX10_isPlace_0 rfl (lv_at hl 1 rfl) ?_
  refine lv_i2l (v := (p1 : Int32).toInt64) hx hb dX10_isPlace_1 rfl ?_
  refine lv_lconst (v := 0) hx hb dX10_isPlace_2 (by decide) ?_
  refine lv_aload_n hx hb dX10_isPlace_3 rfl (lv_at hl 0 rfl) ?_
  refine g_geti (ci := 10) (x := v 106 22) C h 106 (by decide) rfl rfl hi10 22 (by decide) f228 rfl rfl rfl dX10_isPlace_4 ?_
  refine lv_iconst (v := 1) hx hb dX10_isPlace_7 (by decide) ?_
  refine lv_isub hx hb dX10_isPlace_8 ?_
  refine lv_topi (fun x_2 e_3 => ?_)
  have i_4 : x_2.toInt = (v 106 22).toInt - 1 := ia_sub e_3 rfl (by decide) (by omega) (by omega)
  refine lv_i2l (v := (x_2 : Int32).toInt64) hx hb dX10_isPlace_9 rfl ?_
  refine g_calli C (va_runS (As := [.long ((p1 : Int32).toInt64), .long (0), .long ((x_2 : Int32).toInt64)]) (rest := []) C.1 (c_X10_in l G v w sg ((p1 : Int32).toInt64) (A0 := A1) (il_of a1) (0) (A2 := 0) (by decide) ((x_2 : Int32).toInt64) (A4 := ((v 106 22).toInt - 1)) (il_of i_4)) (va_cwS 3 hts gX10_isPlace_X10_in rfl rfl rfl (by decide +kernel) ⟨by rw [hR]; exact Nat.le_of_ble_eq_true rfl, by rw [hR]; exact Nat.le_of_ble_eq_true rfl⟩) ⟨gPre_blind, gS_pre C h _⟩ rfl rfl hl.1 rfl (lv_room (Nat.le_of_ble_eq_true rfl)) dX10_isPlace_10 ⟨Nat.zero_le _, Nat.zero_le _⟩) h (fun r_5 v_7 w_8 g_9 H locs p_6 h => ?_)
  obtain ⟨p_6, rfl, rfl, rfl⟩ := p_6
  rcases p_6 with ⟨rfl, t_10⟩ | ⟨rfl, t_10⟩
  · skip
    exact ret 1 v w sg _ _ _ _ rfl dX10_isPlace_13 h ⟨Or.inl ⟨rfl, by omega⟩, rfl, rfl, rfl⟩
  · skip
    exact ret 0 v w sg _ _ _ _ rfl dX10_isPlace_13 h ⟨Or.inr ⟨rfl, by omega⟩, rfl, rfl, rfl⟩

set_option maxHeartbeats 4000000 in
set_option maxRecDepth 100000 in
theorem c_X10_place (l : Launch) (G : gG) (v : Nat → Nat → Int32) (w : Nat → Nat → Int64) (sg : Nat → Nat) (p1 : Int32) {A1 : Int} (a1 : p1.toInt = A1) (p2 : Int32) {A2 : Int} (a2 : p2.toInt = A2) (mi : mI v) : Met l yX10_place wsX10_place ({ frames := 1, cells := 0, slots := 0, locals := 25 }) (gPre G v w sg [.ref (G.2.2 (106)), .int (p1), .int (p2)]) (gQi G (fun r v' w' sg' => (mI v' ∧ fM 123 126 22 23 v w v' w ∧ ((¬ rF19 A1 A2 ∧ r = -1 ∧ v' = v) ∨ (rF19 A1 A2 ∧ (v 106 22).toInt = 9 ∧ r = -3 ∧ v' = v) ∨ (rF19 A1 A2 ∧ (v 106 22).toInt < 9 ∧ r = v 106 22 + 1 - 1 ∧ v' = (gu (gu (gu (gu v 123 (v 106 22).toInt.toNat p1) 124 (v 106 22).toInt.toNat p2) 125 (v 106 22).toInt.toNat (vp_nar .boolean 0)) 106 22 (v 106 22 + 1))))) ∧ w = w' ∧ sg = sg')) 0 0 (gA G) := by
  refine gM_ofi (cc := cX10_place) (maxL := 3) (by decide) rfl (Nat.le_of_ble_eq_true rfl) ?_
  intro p e R s m args below meth c Q ls C hR ret h hl
  have hx := C.1.1
  have hb := C.1.2.1
  have hown := C.1.2.2.2.1
  have hts := C.1.2.2.2.2
  have hl : lv_has ls 3 [(0, .ref (G.2.2 (106))), (1, .int (p1)), (2, .int (p2))] := hl
  have q1 := i_rng p1; rw [a1] at q1
  have q2 := i_rng p2; rw [a2] at q2
  have z_m3 : ((-3) : Int32).toInt = (-3) := by decide
  have z_m1 : ((-1) : Int32).toInt = (-1) := by decide
  have z_0 : (0 : Int32).toInt = 0 := by decide
  have z_1 : (1 : Int32).toInt = 1 := by decide
  have z_9 : (9 : Int32).toInt = 9 := by decide
  have k196 : (Cond.constantLong RX10 196 (23)).before args s = true := hts _ (by decide +kernel)
  have k231 : (Cond.constantLong RX10 231 (9)).before args s = true := hts _ (by decide +kernel)
  have f228 : Cond.fieldLink RX10 228 "WindHallModel" "places" "I" ∈ wsX10_place := by decide +kernel
  have hi10 : ∀ x ∈ u_ws RX10 TX10 42, x ∈ wsX10_place := fun x q => List.mem_cons_of_mem _ (List.mem_append_right _ q)
  have f60 : Cond.fieldLink RX10 60 "WindHallModel" "angles" "[I" ∈ wsX10_place := by decide +kernel
  have f63 : Cond.fieldLink RX10 63 "WindHallModel" "speeds" "[I" ∈ wsX10_place := by decide +kernel
  have f66 : Cond.fieldLink RX10 66 "WindHallModel" "isDone" "[Z" ∈ wsX10_place := by decide +kernel
  have o_1 := mi
  obtain ⟨I7, I10, I18, I22, I27, I29, I32, Is, I35, Ia, Iar, Isz, Ian⟩ := o_1
  refine lv_iload_n hx hb dX10_place_0 rfl (lv_at hl 1 rfl) ?_
  refine lv_i2l (v := (p1 : Int32).toInt64) hx hb dX10_place_1 rfl ?_
  refine lv_lconst (v := 0) hx hb dX10_place_2 (by decide) ?_
  refine lv_ldc2 hx hb hown k196 dX10_place_3 ?_
  refine g_calli C (va_runS (As := [.long ((p1 : Int32).toInt64), .long (0), .long (23)]) (rest := []) C.1 (c_X10_in l G v w sg ((p1 : Int32).toInt64) (A0 := A1) (il_of a1) (0) (A2 := 0) (by decide) (23) (A4 := 23) (by decide)) (va_cwS 3 hts gX10_place_X10_in rfl rfl rfl (by decide +kernel) ⟨by rw [hR]; exact Nat.le_of_ble_eq_true rfl, by rw [hR]; exact Nat.le_of_ble_eq_true rfl⟩) ⟨gPre_blind, gS_pre C h _⟩ rfl rfl hl.1 rfl (lv_room (Nat.le_of_ble_eq_true rfl)) dX10_place_6 ⟨Nat.zero_le _, Nat.zero_le _⟩) h (fun r_2 v_4 w_5 g_6 H locs p_3 h => ?_)
  obtain ⟨p_3, rfl, rfl, rfl⟩ := p_3
  rcases p_3 with ⟨rfl, t_7⟩ | ⟨rfl, t_7⟩
  · skip
    refine lv_if_eq (tgt := 24) hx hb dX10_place_9 (by decide) (fun c_8 => absurd c_8 (by decide)) (fun _ => ?_)
    refine lv_iload_n hx hb dX10_place_12 rfl (lv_at hl 2 rfl) ?_
    refine lv_i2l (v := (p2 : Int32).toInt64) hx hb dX10_place_13 rfl ?_
    refine lv_lconst (v := 0) hx hb dX10_place_14 (by decide) ?_
    refine lv_ldc2 hx hb hown k231 dX10_place_15 ?_
    refine g_calli C (va_runS (As := [.long ((p2 : Int32).toInt64), .long (0), .long (9)]) (rest := []) C.1 (c_X10_in l G v w sg ((p2 : Int32).toInt64) (A0 := A2) (il_of a2) (0) (A2 := 0) (by decide) (9) (A4 := 9) (by decide)) (va_cwS 3 hts gX10_place_X10_in rfl rfl rfl (by decide +kernel) ⟨by rw [hR]; exact Nat.le_of_ble_eq_true rfl, by rw [hR]; exact Nat.le_of_ble_eq_true rfl⟩) ⟨gPre_blind, gS_pre C h _⟩ rfl rfl hl.1 rfl (lv_room (Nat.le_of_ble_eq_true rfl)) dX10_place_18 ⟨Nat.zero_le _, Nat.zero_le _⟩) h (fun r_9 v_11 w_12 g_13 H locs p_10 h => ?_)
    obtain ⟨p_10, rfl, rfl, rfl⟩ := p_10
    rcases p_10 with ⟨rfl, t_14⟩ | ⟨rfl, t_14⟩
    · skip
      refine lv_if_ne (tgt := 26) hx hb dX10_place_21 (by decide) (fun _ => ?_) (fun c_15 => absurd c_15 (by decide))
      refine lv_aload_n hx hb dX10_place_26 rfl (lv_at hl 0 rfl) ?_
      refine g_geti (ci := 10) (x := v 106 22) C h 106 (by decide) rfl rfl hi10 22 (by decide) f228 rfl rfl rfl dX10_place_27 ?_
      refine lv_bipush (v := 9) hx hb dX10_place_30 (by decide) ?_
      refine lv_icmp_ne (tgt := 38) hx hb dX10_place_32 (by decide) (fun c_16 => ?_) (fun c_16 => ?_)
      · have j_17 : ¬ ((v 106 22).toInt = 9) := fun q => c_16 ((i_eq rfl (by decide)).mpr q)
        refine lv_aload_n hx hb dX10_place_38 rfl (lv_at hl 0 rfl) ?_
        refine g_get (ci := 10) (x := .ref (G.2.2 (123))) C h 106 (by decide) rfl rfl hi10 23 (by decide) f60 rfl rfl dX10_place_39 ?_
        refine lv_aload_n hx hb dX10_place_42 rfl (lv_at hl 0 rfl) ?_
        refine g_geti (ci := 10) (x := v 106 22) C h 106 (by decide) rfl rfl hi10 22 (by decide) f228 rfl rfl rfl dX10_place_43 ?_
        refine lv_iload_n hx hb dX10_place_46 rfl (lv_at hl 1 rfl) ?_
        refine g_iast C h 123 (by decide) (by decide) (n := 9) (by decide) (vp_of rfl (by omega) (by omega)) dX10_place_47 (fun H locs h => ?_)
        obtain ⟨v_18, hv_18⟩ : ∃ z, z = gu v 123 ((v 106 22 : Int32).toNatClampNeg) p1 := ⟨_, rfl⟩
        have h : gS (gA G) G s v_18 w sg H locs := by rw [hv_18]; exact h
        have u_19 : fM 123 126 22 23 v w v_18 w := by rw [hv_18]; exact (fM_v fM_rf (by decide))
        refine lv_aload_n hx hb dX10_place_48 rfl (lv_at hl 0 rfl) ?_
        refine g_get (ci := 10) (x := .ref (G.2.2 (124))) C h 106 (by decide) rfl rfl hi10 24 (by decide) f63 rfl rfl dX10_place_49 ?_
        refine lv_aload_n hx hb dX10_place_52 rfl (lv_at hl 0 rfl) ?_
        refine g_geti (ci := 10) (x := v 106 22) C h 106 (by decide) rfl rfl hi10 22 (by decide) f228 rfl rfl (by rw [hv_18] <;> rfl) dX10_place_53 ?_
        refine lv_iload_n hx hb dX10_place_56 rfl (lv_at hl 2 rfl) ?_
        refine g_iast C h 124 (by decide) (by decide) (n := 9) (by decide) (vp_of rfl (by omega) (by omega)) dX10_place_57 (fun H locs h => ?_)
        obtain ⟨v_20, hv_20⟩ : ∃ z, z = gu v_18 124 ((v 106 22 : Int32).toNatClampNeg) p2 := ⟨_, rfl⟩
        have h : gS (gA G) G s v_20 w sg H locs := by rw [hv_20]; exact h
        have u_21 : fM 123 126 22 23 v w v_20 w := by rw [hv_20]; exact (fM_v u_19 (by decide))
        refine lv_aload_n hx hb dX10_place_58 rfl (lv_at hl 0 rfl) ?_
        refine g_get (ci := 10) (x := .ref (G.2.2 (125))) C h 106 (by decide) rfl rfl hi10 25 (by decide) f66 rfl rfl dX10_place_59 ?_
        refine lv_aload_n hx hb dX10_place_62 rfl (lv_at hl 0 rfl) ?_
        refine g_geti (ci := 10) (x := v 106 22) C h 106 (by decide) rfl rfl hi10 22 (by decide) f228 rfl rfl (by rw [hv_20, hv_18] <;> rfl) dX10_place_63 ?_
        refine lv_iconst (v := 0) hx hb dX10_place_66 (by decide) ?_
        refine g_zast C h 125 (by decide) (by decide) (n := 9) (by decide) (vp_of rfl (by omega) (by omega)) dX10_place_67 (fun H locs h => ?_)
        obtain ⟨v_22, hv_22⟩ : ∃ z, z = gu v_20 125 ((v 106 22 : Int32).toNatClampNeg) (vp_nar .boolean 0) := ⟨_, rfl⟩
        have h : gS (gA G) G s v_22 w sg H locs := by rw [hv_22]; exact h
        have u_23 : fM 123 126 22 23 v w v_22 w := by rw [hv_22]; exact (fM_v u_21 (by decide))
        refine lv_aload_n hx hb dX10_place_68 rfl (lv_at hl 0 rfl) ?_
        refine lv_dup hx hb dX10_place_69 rfl ?_
        refine g_geti (ci := 10) (x := v 106 22) C h 106 (by decide) rfl rfl hi10 22 (by decide) f228 rfl rfl (by rw [hv_22, hv_20, hv_18] <;> rfl) dX10_place_70 ?_
        refine lv_iconst (v := 1) hx hb dX10_place_73 (by decide) ?_
        refine lv_iadd hx hb dX10_place_74 ?_
        refine lv_topi (fun x_24 e_25 => ?_)
        have i_26 : x_24.toInt = (v 106 22).toInt + 1 := ia_add e_25 rfl (by decide) (by omega) (by omega)
        refine g_put (ci := 10) (x := x_24) (ty := .int) C h 106 (by decide) rfl rfl hi10 tyX10 tyX10_ok nmX10 22 (by decide) f228 rfl rfl (by decide +kernel) rfl rfl (Nat.le_of_ble_eq_true rfl) rfl dX10_place_75 (fun H locs h => ?_)
        obtain ⟨v_27, hv_27⟩ : ∃ z, z = gu v_22 106 22 x_24 := ⟨_, rfl⟩
        have h : gS (gA G) G s v_27 w sg H locs := by rw [hv_27]; exact h
        have u_28 : fM 123 126 22 23 v w v_27 w := by rw [hv_27]; exact (fM_f u_23 (by decide))
        refine lv_aload_n hx hb dX10_place_78 rfl (lv_at hl 0 rfl) ?_
        refine g_geti (ci := 10) (x := x_24) C h 106 (by decide) rfl rfl hi10 22 (by decide) f228 rfl rfl (by rw [hv_27] <;> rfl) dX10_place_79 ?_
        refine lv_iconst (v := 1) hx hb dX10_place_82 (by decide) ?_
        refine lv_isub hx hb dX10_place_83 ?_
        refine lv_topi (fun x_29 e_30 => ?_)
        exact ret x_29 v_27 w sg _ _ _ _ dX10_place_84 h ⟨⟨(by rw [hv_27, hv_22, hv_20, hv_18]; exact ⟨I7, I10, I18, (show 0 ≤ (x_24 : Int32).toInt ∧ (x_24 : Int32).toInt ≤ 9 by omega), I27, I29, I32, Is, I35, Ia, Iar, Isz, (fun q hq => ⟨up_grow (p := fun z => 0 ≤ z.toInt ∧ z.toInt ≤ 23) (I' := (x_24 : Int32).toInt) (fun j hj => (Ian j hj).1) rfl (by omega) (by omega) (by omega) q hq, up_grow (p := fun z => 0 ≤ z.toInt ∧ z.toInt ≤ 9) (I' := (x_24 : Int32).toInt) (fun j hj => (Ian j hj).2) rfl (by omega) (by omega) (by omega) q hq⟩)⟩), u_28, Or.inr (Or.inr (⟨(by unfold rF19; omega), (by omega), (by subst_vars; rfl), (by rw [hv_27, hv_22, hv_20, hv_18] <;> exact (gu_cg (gu_cg (gu_cg (gu_cg rfl rfl ((cl_nat rfl).trans (by omega)) rfl) rfl ((cl_nat rfl).trans (by omega)) rfl) rfl ((cl_nat rfl).trans (by omega)) rfl) rfl rfl e_25))⟩))⟩, rfl, rfl⟩
      · have j_17 : (v 106 22).toInt = 9 := (i_eq rfl (by decide)).mp c_16
        refine lv_bipush (v := (-3)) hx hb dX10_place_35 (by decide) ?_
        exact ret (-3) v w sg _ _ _ _ dX10_place_37 h ⟨⟨mi, fM_rf, Or.inr (Or.inl ⟨(by unfold rF19; omega), (by omega), rfl, rfl⟩)⟩, rfl, rfl⟩
    · skip
      refine lv_if_ne (tgt := 26) hx hb dX10_place_21 (by decide) (fun c_31 => absurd (by decide) c_31) (fun _ => ?_)
      refine lv_iconst (v := (-1)) hx hb dX10_place_24 (by decide) ?_
      exact ret (-1) v w sg _ _ _ _ dX10_place_25 h ⟨⟨mi, fM_rf, Or.inl ⟨(by unfold rF19; omega), rfl, rfl⟩⟩, rfl, rfl⟩
  · skip
    refine lv_if_eq (tgt := 24) hx hb dX10_place_9 (by decide) (fun _ => ?_) (fun c_32 => absurd (by decide) c_32)
    refine lv_iconst (v := (-1)) hx hb dX10_place_24 (by decide) ?_
    exact ret (-1) v w sg _ _ _ _ dX10_place_25 h ⟨⟨mi, fM_rf, Or.inl ⟨(by unfold rF19; omega), rfl, rfl⟩⟩, rfl, rfl⟩

set_option maxHeartbeats 4000000 in
set_option maxRecDepth 100000 in
theorem c_X10_done (l : Launch) (G : gG) (v : Nat → Nat → Int32) (w : Nat → Nat → Int64) (sg : Nat → Nat) (p1 : Int32) {A1 : Int} (a1 : p1.toInt = A1) (p2 : Int32) {A2 : Int} (a2 : p2.toInt = A2) (mi : mI v) : Met l yX10_done wsX10_done ({ frames := 2, cells := 0, slots := 0, locals := 46 }) (gPre G v w sg [.ref (G.2.2 (106)), .int (p1), .int (p2)]) (gQi G (fun r v' w' sg' => (mI v' ∧ fM 123 126 22 23 v w v' w ∧ ((¬ (0 ≤ A1 ∧ A1 < (v 106 22).toInt) ∧ r = -1 ∧ v' = v) ∨ (0 ≤ A1 ∧ A1 < (v 106 22).toInt ∧ r = lo1 (v 125 A1.toNat) ∧ v' = (gu v 125 A1.toNat (vp_nar .boolean p2))))) ∧ w = w' ∧ sg = sg')) 0 0 (gA G) := by
  refine gM_ofi (cc := cX10_done) (maxL := 4) (by decide) rfl (Nat.le_of_ble_eq_true rfl) ?_
  intro p e R s m args below meth c Q ls C hR ret h hl
  have hx := C.1.1
  have hb := C.1.2.1
  have hown := C.1.2.2.2.1
  have hts := C.1.2.2.2.2
  have hl : lv_has ls 4 [(0, .ref (G.2.2 (106))), (1, .int (p1)), (2, .int (p2))] := hl
  have q1 := i_rng p1; rw [a1] at q1
  have q2 := i_rng p2; rw [a2] at q2
  have z_m1 : ((-1) : Int32).toInt = (-1) := by decide
  have z_0 : (0 : Int32).toInt = 0 := by decide
  have z_1 : (1 : Int32).toInt = 1 := by decide
  have f66 : Cond.fieldLink RX10 66 "WindHallModel" "isDone" "[Z" ∈ wsX10_done := by decide +kernel
  have hi10 : ∀ x ∈ u_ws RX10 TX10 42, x ∈ wsX10_done := fun x q => List.mem_cons_of_mem _ (List.mem_append_right _ q)
  have o_1 := mi
  obtain ⟨I7, I10, I18, I22, I27, I29, I32, Is, I35, Ia, Iar, Isz, Ian⟩ := o_1
  refine lv_aload_n hx hb dX10_done_0 rfl (lv_at hl 0 rfl) ?_
  refine lv_iload_n hx hb dX10_done_1 rfl (lv_at hl 1 rfl) ?_
  refine g_calli C (va_runV (As := [.int (p1)]) (rest := []) C.1 (c_X10_isPlace l G v w sg p1 (A1 := A1) a1 mi) (cwV 1 hts gX10_done_X10_isPlace rfl rfl rfl (by decide +kernel) ⟨by rw [hR]; exact Nat.le_of_ble_eq_true rfl, by rw [hR]; exact Nat.le_of_ble_eq_true rfl⟩) ⟨gPre_blind, g_recv C h 106 (by decide) (ci := 10) rfl rfl, gS_pre C h _⟩ rfl rfl hl.1 rfl (lv_room (Nat.le_of_ble_eq_true rfl)) dX10_done_2 ⟨Nat.zero_le _, Nat.zero_le _⟩) h (fun r_2 v_4 w_5 g_6 H locs p_3 h => ?_)
  obtain ⟨p_3, rfl, rfl, rfl⟩ := p_3
  rcases p_3 with ⟨rfl, t_7⟩ | ⟨rfl, t_7⟩
  · skip
    refine lv_if_ne (tgt := 10) hx hb dX10_done_5 (by decide) (fun _ => ?_) (fun c_8 => absurd c_8 (by decide))
    refine lv_aload_n hx hb dX10_done_10 rfl (lv_at hl 0 rfl) ?_
    refine g_get (ci := 10) (x := .ref (G.2.2 (125))) C h 106 (by decide) rfl rfl hi10 25 (by decide) f66 rfl rfl dX10_done_11 ?_
    refine lv_iload_n hx hb dX10_done_14 rfl (lv_at hl 1 rfl) ?_
    refine g_zald C h 125 (by decide) (by decide) (n := 9) (by decide) (vp_of a1 (by omega) (by omega)) dX10_done_15 ?_
    refine lv_topi (fun x_9 e_10 => ?_)
    have hdn : (x_9).toInt = (v 125 A1.toNat).toInt := by rw [e_10, cl_nat a1]
    have J24_11 : ∀ (y_11 : Int32) (H : Heap) (locs : List Loc) (ls : Array Slot), (y_11 = lo1 (v 125 A1.toNat)) → gS (gA G) G s v w sg H locs → lv_has ls 4 [(0, .ref (G.2.2 (106))), (1, .int (p1)), (2, .int (p2))] → W p l e R s m args below meth c H locs 0 0 Q (F0 m 24 ls [.int (y_11)]) := by
      intro y_11 H locs ls f_12 h hl
      refine lv_istore_n (lv' := [(3, .int (y_11)), (0, .ref (G.2.2 (106))), (1, .int (p1)), (2, .int (p2))]) hx hb dX10_done_24 rfl hl (by decide) rfl (fun ls hl => ?_)
      refine lv_aload_n hx hb dX10_done_25 rfl (lv_at hl 1 rfl) ?_
      refine g_get (ci := 10) (x := .ref (G.2.2 (125))) C h 106 (by decide) rfl rfl hi10 25 (by decide) f66 rfl rfl dX10_done_26 ?_
      refine lv_iload_n hx hb dX10_done_29 rfl (lv_at hl 2 rfl) ?_
      refine lv_iload_n hx hb dX10_done_30 rfl (lv_at hl 3 rfl) ?_
      refine g_zast C h 125 (by decide) (by decide) (n := 9) (by decide) (vp_of a1 (by omega) (by omega)) dX10_done_31 (fun H locs h => ?_)
      obtain ⟨v_13, hv_13⟩ : ∃ z, z = gu v 125 ((p1 : Int32).toNatClampNeg) (vp_nar .boolean p2) := ⟨_, rfl⟩
      have h : gS (gA G) G s v_13 w sg H locs := by rw [hv_13]; exact h
      have u_14 : mI v_13 := by rw [hv_13]; exact mi
      have u_15 : fM 123 126 22 23 v w v_13 w := by rw [hv_13]; exact (fM_v fM_rf (by decide))
      refine lv_iload_n hx hb dX10_done_32 rfl (lv_at hl 0 rfl) ?_
      exact ret y_11 v_13 w sg _ _ _ _ dX10_done_33 h ⟨⟨u_14, u_15, Or.inr (⟨(by omega), (by omega), f_12, (by rw [hv_13] <;> exact (gu_cg rfl rfl ((cl_nat a1).trans (by omega)) rfl))⟩)⟩, rfl, rfl⟩
    refine lv_if_eq (tgt := 23) hx hb dX10_done_16 (by decide) (fun c_16 => ?_) (fun c_16 => ?_)
    · have j_17 : (x_9).toInt = 0 := (i_eq rfl (by decide)).mp c_16
      refine lv_iconst (v := 0) hx hb dX10_done_23 (by decide) ?_
      exact J24_11 0 _ _ _ (by unfold lo1; split <;> first | rfl | omega) h (lv_sub hl [0, 1, 2] rfl)
    · have j_17 : ¬ ((x_9).toInt = 0) := fun q => c_16 ((i_eq rfl (by decide)).mpr q)
      refine lv_iconst (v := 1) hx hb dX10_done_19 (by decide) ?_
      refine lv_goto (tgt := 24) hx hb dX10_done_20 (by decide) ?_
      exact J24_11 1 _ _ _ (by unfold lo1; split <;> first | rfl | omega) h (lv_sub hl [0, 1, 2] rfl)
  · skip
    refine lv_if_ne (tgt := 10) hx hb dX10_done_5 (by decide) (fun c_18 => absurd (by decide) c_18) (fun _ => ?_)
    refine lv_iconst (v := (-1)) hx hb dX10_done_8 (by decide) ?_
    exact ret (-1) v w sg _ _ _ _ dX10_done_9 h ⟨⟨mi, fM_rf, Or.inl ⟨(by omega), rfl, rfl⟩⟩, rfl, rfl⟩

set_option maxHeartbeats 4000000 in
set_option maxRecDepth 100000 in
theorem c_X10_move (l : Launch) (G : gG) (v : Nat → Nat → Int32) (w : Nat → Nat → Int64) (sg : Nat → Nat) (p1 : Int32) {A1 : Int} (a1 : p1.toInt = A1) (p2 : Int32) {A2 : Int} (a2 : p2.toInt = A2) (p3 : Int32) {A3 : Int} (a3 : p3.toInt = A3) (b1 : 0 ≤ A1 ∧ A1 ≤ 23) (b2 : 0 ≤ A2 ∧ A2 ≤ 9) (b3 : 0 ≤ A3 ∧ A3 < (v 106 22).toInt) (mi : mI v) : Met l yX10_move wsX10_move ({ frames := 0, cells := 0, slots := 0, locals := 0 }) (gPre G v w sg [.ref (G.2.2 (106)), .int (p1), .int (p2), .int (p3)]) (gQi G (fun r v' w' sg' => ((r.toInt = mvI A1 A2 (v 123 (p3).toNatClampNeg).toInt (v 124 (p3).toNatClampNeg).toInt) ∧ 0 ≤ r.toInt ∧ r.toInt ≤ 99) ∧ v = v' ∧ w = w' ∧ sg = sg')) 0 0 (gA G) := by
  refine gM_ofi (cc := cX10_move) (maxL := 6) (by decide) rfl (Nat.le_of_ble_eq_true rfl) ?_
  intro p e R s m args below meth c Q ls C hR ret h hl
  have hx := C.1.1
  have hb := C.1.2.1
  have hown := C.1.2.2.2.1
  have hts := C.1.2.2.2.2
  have hl : lv_has ls 6 [(0, .ref (G.2.2 (106))), (1, .int (p1)), (2, .int (p2)), (3, .int (p3))] := hl
  have q1 := i_rng p1; rw [a1] at q1
  have q2 := i_rng p2; rw [a2] at q2
  have q3 := i_rng p3; rw [a3] at q3
  have z_0 : (0 : Int32).toInt = 0 := by decide
  have z_1 : (1 : Int32).toInt = 1 := by decide
  have z_3 : (3 : Int32).toInt = 3 := by decide
  have z_7 : (7 : Int32).toInt = 7 := by decide
  have z_12 : (12 : Int32).toInt = 12 := by decide
  have z_24 : (24 : Int32).toInt = 24 := by decide
  have f60 : Cond.fieldLink RX10 60 "WindHallModel" "angles" "[I" ∈ wsX10_move := by decide +kernel
  have hi10 : ∀ x ∈ u_ws RX10 TX10 42, x ∈ wsX10_move := fun x q => List.mem_cons_of_mem _ (List.mem_append_right _ q)
  have f63 : Cond.fieldLink RX10 63 "WindHallModel" "speeds" "[I" ∈ wsX10_move := by decide +kernel
  have o_1 := mi
  obtain ⟨I7, I10, I18, I22, I27, I29, I32, Is, I35, Ia, Iar, Isz, Ian⟩ := o_1
  refine lv_iload_n hx hb dX10_move_0 rfl (lv_at hl 1 rfl) ?_
  refine lv_aload_n hx hb dX10_move_1 rfl (lv_at hl 0 rfl) ?_
  refine g_get (ci := 10) (x := .ref (G.2.2 (123))) C h 106 (by decide) rfl rfl hi10 23 (by decide) f60 rfl rfl dX10_move_2 ?_
  refine lv_iload_n hx hb dX10_move_5 rfl (lv_at hl 3 rfl) ?_
  refine g_iald C h 123 (by decide) (by decide) (n := 9) (by decide) (vp_of a3 (by omega) (by omega)) dX10_move_6 ?_
  refine lv_topi (fun x_2 e_3 => ?_)
  have ha_x_2 := (Ian (p3).toNatClampNeg (by have := cl_of (i := p3) a3 (by omega); omega)).1
  rw [← e_3] at ha_x_2
  have he_1 : (v 123 (p3).toNatClampNeg).toInt = (x_2).toInt := by rw [e_3]
  refine lv_isub hx hb dX10_move_7 ?_
  refine lv_topi (fun x_4 e_5 => ?_)
  have i_6 : x_4.toInt = A1 - (x_2).toInt := ia_sub e_5 a1 rfl (by omega) (by omega)
  refine lv_istore (lv' := [(4, .int (x_4)), (0, .ref (G.2.2 (106))), (1, .int (p1)), (2, .int (p2)), (3, .int (p3))]) hx hb dX10_move_8 hl (by decide) rfl (fun ls hl => ?_)
  refine lv_iload hx hb dX10_move_10 (lv_at hl 0 rfl) ?_
  have J23_7 : ∀ (y_7 : Int32) (H : Heap) (locs : List Loc) (ls : Array Slot), ((y_7).toInt = ab (A1 - (v 123 (p3).toNatClampNeg).toInt) ∧ 0 ≤ (y_7).toInt ∧ (y_7).toInt ≤ 23) → gS (gA G) G s v w sg H locs → lv_has ls 6 [(0, .ref (G.2.2 (106))), (1, .int (p1)), (2, .int (p2)), (3, .int (p3)), (4, .int (x_4))] → W p l e R s m args below meth c H locs 0 0 Q (F0 m 23 ls [.int (y_7)]) := by
    intro y_7 H locs ls f_8 h hl
    refine lv_istore (lv' := [(4, .int (y_7)), (0, .ref (G.2.2 (106))), (1, .int (p1)), (2, .int (p2)), (3, .int (p3))]) hx hb dX10_move_23 hl (by decide) rfl (fun ls hl => ?_)
    refine lv_iload hx hb dX10_move_25 (lv_at hl 0 rfl) ?_
    refine lv_bipush (v := 12) hx hb dX10_move_27 (by decide) ?_
    have J42_9 : ∀ (y_9 : Int32) (H : Heap) (locs : List Loc) (ls : Array Slot), ((y_9).toInt = tn (ab (A1 - (v 123 (p3).toNatClampNeg).toInt)) ∧ 0 ≤ (y_9).toInt ∧ (y_9).toInt ≤ 12) → gS (gA G) G s v w sg H locs → lv_has ls 6 [(0, .ref (G.2.2 (106))), (1, .int (p1)), (2, .int (p2)), (3, .int (p3)), (4, .int (y_7))] → W p l e R s m args below meth c H locs 0 0 Q (F0 m 42 ls [.int (y_9)]) := by
      intro y_9 H locs ls f_10 h hl
      refine lv_istore (lv' := [(4, .int (y_9)), (0, .ref (G.2.2 (106))), (1, .int (p1)), (2, .int (p2)), (3, .int (p3))]) hx hb dX10_move_42 hl (by decide) rfl (fun ls hl => ?_)
      refine lv_iload_n hx hb dX10_move_44 rfl (lv_at hl 3 rfl) ?_
      refine lv_aload_n hx hb dX10_move_45 rfl (lv_at hl 1 rfl) ?_
      refine g_get (ci := 10) (x := .ref (G.2.2 (124))) C h 106 (by decide) rfl rfl hi10 24 (by decide) f63 rfl rfl dX10_move_46 ?_
      refine lv_iload_n hx hb dX10_move_49 rfl (lv_at hl 4 rfl) ?_
      refine g_iald C h 124 (by decide) (by decide) (n := 9) (by decide) (vp_of a3 (by omega) (by omega)) dX10_move_50 ?_
      refine lv_topi (fun x_11 e_12 => ?_)
      have ha_x_11 := (Ian (p3).toNatClampNeg (by have := cl_of (i := p3) a3 (by omega); omega)).2
      rw [← e_12] at ha_x_11
      have he_2 : (v 124 (p3).toNatClampNeg).toInt = (x_11).toInt := by rw [e_12]
      refine lv_isub hx hb dX10_move_51 ?_
      refine lv_topi (fun x_13 e_14 => ?_)
      have i_15 : x_13.toInt = A2 - (x_11).toInt := ia_sub e_14 a2 rfl (by omega) (by omega)
      refine lv_istore (lv' := [(5, .int (x_13)), (4, .int (y_9)), (0, .ref (G.2.2 (106))), (1, .int (p1)), (2, .int (p2)), (3, .int (p3))]) hx hb dX10_move_52 hl (by decide) rfl (fun ls hl => ?_)
      refine lv_iconst (v := 3) hx hb dX10_move_54 (by decide) ?_
      refine lv_iload hx hb dX10_move_55 (lv_at hl 1 rfl) ?_
      refine lv_imul hx hb dX10_move_57 ?_
      refine lv_topi (fun x_16 e_17 => ?_)
      have i_18 : x_16.toInt = 3 * (y_9).toInt := ia_mul e_17 (by decide) rfl (by omega) (by omega)
      refine lv_bipush (v := 7) hx hb dX10_move_58 (by decide) ?_
      refine lv_iload hx hb dX10_move_60 (lv_at hl 0 rfl) ?_
      refine lv_if_ge (tgt := 71) hx hb dX10_move_62 (by decide) (fun c_19 => ?_) (fun c_19 => ?_)
      · have j_20 : 0 ≤ (A2 - (x_11).toInt) := (i_le (by decide) i_15).mp c_19
        refine lv_iload hx hb dX10_move_71 (lv_at hl 0 rfl) ?_
        refine lv_imul hx hb dX10_move_73 ?_
        refine lv_topi (fun x_21 e_22 => ?_)
        have i_23 : x_21.toInt = 7 * (A2 - (x_11).toInt) := ia_mul e_22 (by decide) i_15 (by omega) (by omega)
        refine lv_iadd hx hb dX10_move_74 ?_
        refine lv_topi (fun x_24 e_25 => ?_)
        have i_26 : x_24.toInt = (3 * (y_9).toInt) + (7 * (A2 - (x_11).toInt)) := ia_add e_25 i_18 i_23 (by omega) (by omega)
        exact ret x_24 v w sg _ _ _ _ dX10_move_75 h ⟨⟨by unfold mvI; rw [← f_10.1, he_2]; unfold ab; split <;> omega, by omega⟩, rfl, rfl, rfl⟩
      · have j_20 : ¬ (0 ≤ (A2 - (x_11).toInt)) := fun q => c_19 ((i_le (by decide) i_15).mpr q)
        refine lv_iload hx hb dX10_move_65 (lv_at hl 0 rfl) ?_
        refine lv_ineg hx hb dX10_move_67 ?_
        refine lv_topi (fun x_27 e_28 => ?_)
        have i_29 : x_27.toInt = -(A2 - (x_11).toInt) := ia_neg e_28 i_15 (by omega)
        refine lv_goto (tgt := 73) hx hb dX10_move_68 (by decide) ?_
        refine lv_imul hx hb dX10_move_73 ?_
        refine lv_topi (fun x_30 e_31 => ?_)
        have i_32 : x_30.toInt = 7 * (-(A2 - (x_11).toInt)) := ia_mul e_31 (by decide) i_29 (by omega) (by omega)
        refine lv_iadd hx hb dX10_move_74 ?_
        refine lv_topi (fun x_33 e_34 => ?_)
        have i_35 : x_33.toInt = (3 * (y_9).toInt) + (7 * (-(A2 - (x_11).toInt))) := ia_add e_34 i_18 i_32 (by omega) (by omega)
        exact ret x_33 v w sg _ _ _ _ dX10_move_75 h ⟨⟨by unfold mvI; rw [← f_10.1, he_2]; unfold ab; split <;> omega, by omega⟩, rfl, rfl, rfl⟩
    refine lv_icmp_le (tgt := 40) hx hb dX10_move_29 (by decide) (fun c_36 => ?_) (fun c_36 => ?_)
    · have j_37 : (y_7).toInt ≤ 12 := (i_le rfl (by decide)).mp c_36
      refine lv_iload hx hb dX10_move_40 (lv_at hl 0 rfl) ?_
      exact J42_9 y_7 _ _ _ ⟨by rw [← f_8.1]; unfold tn; split <;> omega, by omega⟩ h (lv_sub hl [1, 2, 3, 4, 0] rfl)
    · have j_37 : ¬ ((y_7).toInt ≤ 12) := fun q => c_36 ((i_le rfl (by decide)).mpr q)
      refine lv_bipush (v := 24) hx hb dX10_move_32 (by decide) ?_
      refine lv_iload hx hb dX10_move_34 (lv_at hl 0 rfl) ?_
      refine lv_isub hx hb dX10_move_36 ?_
      refine lv_topi (fun x_38 e_39 => ?_)
      have i_40 : x_38.toInt = 24 - (y_7).toInt := ia_sub e_39 (by decide) rfl (by omega) (by omega)
      refine lv_goto (tgt := 42) hx hb dX10_move_37 (by decide) ?_
      exact J42_9 x_38 _ _ _ ⟨by rw [← f_8.1]; unfold tn; split <;> omega, by omega⟩ h (lv_sub hl [1, 2, 3, 4, 0] rfl)
  refine lv_if_ge (tgt := 21) hx hb dX10_move_12 (by decide) (fun c_41 => ?_) (fun c_41 => ?_)
  · have j_42 : 0 ≤ (A1 - (x_2).toInt) := (i_le (by decide) i_6).mp c_41
    refine lv_iload hx hb dX10_move_21 (lv_at hl 0 rfl) ?_
    exact J23_7 x_4 _ _ _ ⟨by unfold ab; split <;> omega, by omega⟩ h (lv_sub hl [1, 2, 3, 4, 0] rfl)
  · have j_42 : ¬ (0 ≤ (A1 - (x_2).toInt)) := fun q => c_41 ((i_le (by decide) i_6).mpr q)
    refine lv_iload hx hb dX10_move_15 (lv_at hl 0 rfl) ?_
    refine lv_ineg hx hb dX10_move_17 ?_
    refine lv_topi (fun x_43 e_44 => ?_)
    have i_45 : x_43.toInt = -(A1 - (x_2).toInt) := ia_neg e_44 i_6 (by omega)
    refine lv_goto (tgt := 23) hx hb dX10_move_18 (by decide) ?_
    exact J23_7 x_43 _ _ _ ⟨by unfold ab; split <;> omega, by omega⟩ h (lv_sub hl [1, 2, 3, 4, 0] rfl)

set_option maxHeartbeats 4000000 in
set_option maxRecDepth 100000 in
theorem c_X10_moves (l : Launch) (G : gG) (v : Nat → Nat → Int32) (w : Nat → Nat → Int64) (sg : Nat → Nat) (p1 : Int32) {A1 : Int} (a1 : p1.toInt = A1) (p2 : Int32) {A2 : Int} (a2 : p2.toInt = A2) (mi : mI v) : Met l yX10_moves wsX10_moves ({ frames := 2, cells := 0, slots := 0, locals := 46 }) (gPre G v w sg [.ref (G.2.2 (106)), .int (p1), .int (p2)]) (gQi G (fun r v' w' sg' => ((¬ ((0 ≤ A1 ∧ A1 < (v 106 22).toInt) ∧ (0 ≤ A2 ∧ A2 < (v 106 22).toInt)) ∧ r = -1) ∨ (((0 ≤ A1 ∧ A1 < (v 106 22).toInt) ∧ (0 ≤ A2 ∧ A2 < (v 106 22).toInt)) ∧ r.toInt = mvI (v 123 A1.toNat).toInt (v 124 A1.toNat).toInt (v 123 A2.toNat).toInt (v 124 A2.toNat).toInt)) ∧ v = v' ∧ w = w' ∧ sg = sg')) 0 0 (gA G) := by
  refine gM_ofi (cc := cX10_moves) (maxL := 3) (by decide) rfl (Nat.le_of_ble_eq_true rfl) ?_
  intro p e R s m args below meth c Q ls C hR ret h hl
  have hx := C.1.1
  have hb := C.1.2.1
  have hown := C.1.2.2.2.1
  have hts := C.1.2.2.2.2
  have hl : lv_has ls 3 [(0, .ref (G.2.2 (106))), (1, .int (p1)), (2, .int (p2))] := hl
  have q1 := i_rng p1; rw [a1] at q1
  have q2 := i_rng p2; rw [a2] at q2
  have z_m1 : ((-1) : Int32).toInt = (-1) := by decide
  have z_0 : (0 : Int32).toInt = 0 := by decide
  have z_1 : (1 : Int32).toInt = 1 := by decide
  have f60 : Cond.fieldLink RX10 60 "WindHallModel" "angles" "[I" ∈ wsX10_moves := by decide +kernel
  have hi10 : ∀ x ∈ u_ws RX10 TX10 42, x ∈ wsX10_moves := fun x q => List.mem_cons_of_mem _ (List.mem_append_right _ q)
  have f63 : Cond.fieldLink RX10 63 "WindHallModel" "speeds" "[I" ∈ wsX10_moves := by decide +kernel
  have o_1 := mi
  obtain ⟨I7, I10, I18, I22, I27, I29, I32, Is, I35, Ia, Iar, Isz, Ian⟩ := o_1
  refine lv_aload_n hx hb dX10_moves_0 rfl (lv_at hl 0 rfl) ?_
  refine lv_iload_n hx hb dX10_moves_1 rfl (lv_at hl 1 rfl) ?_
  refine g_calli C (va_runV (As := [.int (p1)]) (rest := []) C.1 (c_X10_isPlace l G v w sg p1 (A1 := A1) a1 mi) (cwV 1 hts gX10_moves_X10_isPlace rfl rfl rfl (by decide +kernel) ⟨by rw [hR]; exact Nat.le_of_ble_eq_true rfl, by rw [hR]; exact Nat.le_of_ble_eq_true rfl⟩) ⟨gPre_blind, g_recv C h 106 (by decide) (ci := 10) rfl rfl, gS_pre C h _⟩ rfl rfl hl.1 rfl (lv_room (Nat.le_of_ble_eq_true rfl)) dX10_moves_2 ⟨Nat.zero_le _, Nat.zero_le _⟩) h (fun r_2 v_4 w_5 g_6 H locs p_3 h => ?_)
  obtain ⟨p_3, rfl, rfl, rfl⟩ := p_3
  rcases p_3 with ⟨rfl, t_7⟩ | ⟨rfl, t_7⟩
  · skip
    refine lv_if_eq (tgt := 36) hx hb dX10_moves_5 (by decide) (fun c_8 => absurd c_8 (by decide)) (fun _ => ?_)
    refine lv_aload_n hx hb dX10_moves_8 rfl (lv_at hl 0 rfl) ?_
    refine lv_iload_n hx hb dX10_moves_9 rfl (lv_at hl 2 rfl) ?_
    refine g_calli C (va_runV (As := [.int (p2)]) (rest := []) C.1 (c_X10_isPlace l G v w sg p2 (A1 := A2) a2 mi) (cwV 1 hts gX10_moves_X10_isPlace rfl rfl rfl (by decide +kernel) ⟨by rw [hR]; exact Nat.le_of_ble_eq_true rfl, by rw [hR]; exact Nat.le_of_ble_eq_true rfl⟩) ⟨gPre_blind, g_recv C h 106 (by decide) (ci := 10) rfl rfl, gS_pre C h _⟩ rfl rfl hl.1 rfl (lv_room (Nat.le_of_ble_eq_true rfl)) dX10_moves_10 ⟨Nat.zero_le _, Nat.zero_le _⟩) h (fun r_9 v_11 w_12 g_13 H locs p_10 h => ?_)
    obtain ⟨p_10, rfl, rfl, rfl⟩ := p_10
    rcases p_10 with ⟨rfl, t_14⟩ | ⟨rfl, t_14⟩
    · skip
      refine lv_if_eq (tgt := 36) hx hb dX10_moves_13 (by decide) (fun c_15 => absurd c_15 (by decide)) (fun _ => ?_)
      refine lv_aload_n hx hb dX10_moves_16 rfl (lv_at hl 0 rfl) ?_
      refine lv_aload_n hx hb dX10_moves_17 rfl (lv_at hl 0 rfl) ?_
      refine g_get (ci := 10) (x := .ref (G.2.2 (123))) C h 106 (by decide) rfl rfl hi10 23 (by decide) f60 rfl rfl dX10_moves_18 ?_
      refine lv_iload_n hx hb dX10_moves_21 rfl (lv_at hl 1 rfl) ?_
      refine g_iald C h 123 (by decide) (by decide) (n := 9) (by decide) (vp_of a1 (by omega) (by omega)) dX10_moves_22 ?_
      refine lv_topi (fun x_16 e_17 => ?_)
      have ha_x_16 := (Ian (p1).toNatClampNeg (by have := cl_of (i := p1) a1 (by omega); omega)).1
      rw [← e_17] at ha_x_16
      have he_1 : (v 123 (p1).toNatClampNeg).toInt = (x_16).toInt := by rw [e_17]
      refine lv_aload_n hx hb dX10_moves_23 rfl (lv_at hl 0 rfl) ?_
      refine g_get (ci := 10) (x := .ref (G.2.2 (124))) C h 106 (by decide) rfl rfl hi10 24 (by decide) f63 rfl rfl dX10_moves_24 ?_
      refine lv_iload_n hx hb dX10_moves_27 rfl (lv_at hl 1 rfl) ?_
      refine g_iald C h 124 (by decide) (by decide) (n := 9) (by decide) (vp_of a1 (by omega) (by omega)) dX10_moves_28 ?_
      refine lv_topi (fun x_18 e_19 => ?_)
      have ha_x_18 := (Ian (p1).toNatClampNeg (by have := cl_of (i := p1) a1 (by omega); omega)).2
      rw [← e_19] at ha_x_18
      have he_2 : (v 124 (p1).toNatClampNeg).toInt = (x_18).toInt := by rw [e_19]
      refine lv_iload_n hx hb dX10_moves_29 rfl (lv_at hl 2 rfl) ?_
      refine g_calli C (va_runV (As := [.int (x_16), .int (x_18), .int (p2)]) (rest := []) C.1 (c_X10_move l G v w sg x_16 (A1 := (x_16).toInt) rfl x_18 (A2 := (x_18).toInt) rfl p2 (A3 := A2) a2 (by omega) (by omega) (by omega) mi) (cwV 3 hts gX10_moves_X10_move rfl rfl rfl (by decide +kernel) ⟨by rw [hR]; exact Nat.le_of_ble_eq_true rfl, by rw [hR]; exact Nat.le_of_ble_eq_true rfl⟩) ⟨gPre_blind, g_recv C h 106 (by decide) (ci := 10) rfl rfl, gS_pre C h _⟩ rfl rfl hl.1 rfl (lv_room (Nat.le_of_ble_eq_true rfl)) dX10_moves_30 ⟨Nat.zero_le _, Nat.zero_le _⟩) h (fun r_20 v_22 w_23 g_24 H locs p_21 h => ?_)
      obtain ⟨p_21, rfl, rfl, rfl⟩ := p_21
      refine lv_goto (tgt := 37) hx hb dX10_moves_33 (by decide) ?_
      exact ret r_20 v w sg _ _ _ _ dX10_moves_37 h ⟨Or.inr ⟨by omega, by rw [p_21.1, ← he_1, ← he_2, cl_nat a1, cl_nat a2]⟩, rfl, rfl, rfl⟩
    · skip
      refine lv_if_eq (tgt := 36) hx hb dX10_moves_13 (by decide) (fun _ => ?_) (fun c_25 => absurd (by decide) c_25)
      refine lv_iconst (v := (-1)) hx hb dX10_moves_36 (by decide) ?_
      exact ret (-1) v w sg _ _ _ _ dX10_moves_37 h ⟨Or.inl ⟨by omega, rfl⟩, rfl, rfl, rfl⟩
  · skip
    refine lv_if_eq (tgt := 36) hx hb dX10_moves_5 (by decide) (fun _ => ?_) (fun c_26 => absurd (by decide) c_26)
    refine lv_iconst (v := (-1)) hx hb dX10_moves_36 (by decide) ?_
    exact ret (-1) v w sg _ _ _ _ dX10_moves_37 h ⟨Or.inl ⟨by omega, rfl⟩, rfl, rfl, rfl⟩

set_option maxHeartbeats 4000000 in
set_option maxRecDepth 100000 in
theorem c_X10_waits (l : Launch) (G : gG) (v : Nat → Nat → Int32) (w : Nat → Nat → Int64) (sg : Nat → Nat)  : Met l yX10_waits wsX10_waits ({ frames := 0, cells := 0, slots := 0, locals := 0 }) (gPre G v w sg [.ref (G.2.2 (106))]) (gQv G (fun v' w' sg' => (v' = gu (gu (gu v 106 31 0) 106 32 0) 106 33 (-4)) ∧ w = w' ∧ sg = sg')) 0 0 (gA G) := by
  refine gM_ofv (cc := cX10_waits) (maxL := 1) (by decide) rfl (Nat.le_of_ble_eq_true rfl) ?_
  intro p e R s m args below meth c Q ls C hR ret h hl
  have hx := C.1.1
  have hb := C.1.2.1
  have hown := C.1.2.2.2.1
  have hts := C.1.2.2.2.2
  have hl : lv_has ls 1 [(0, .ref (G.2.2 (106)))] := hl
  have z_m4 : ((-4) : Int32).toInt = (-4) := by decide
  have z_0 : (0 : Int32).toInt = 0 := by decide
  have z_1 : (1 : Int32).toInt = 1 := by decide
  have f254 : Cond.fieldLink RX10 254 "WindHallModel" "state" "I" ∈ wsX10_waits := by decide +kernel
  have hi10 : ∀ x ∈ u_ws RX10 TX10 42, x ∈ wsX10_waits := fun x q => List.mem_cons_of_mem _ (List.mem_append_right _ q)
  have f257 : Cond.fieldLink RX10 257 "WindHallModel" "came" "I" ∈ wsX10_waits := by decide +kernel
  have f86 : Cond.fieldLink RX10 86 "WindHallModel" "beyond" "I" ∈ wsX10_waits := by decide +kernel
  refine lv_aload_n hx hb dX10_waits_0 rfl (lv_at hl 0 rfl) ?_
  refine lv_iconst (v := 0) hx hb dX10_waits_1 (by decide) ?_
  refine g_put (ci := 10) (x := 0) (ty := .int) C h 106 (by decide) rfl rfl hi10 tyX10 tyX10_ok nmX10 31 (by decide) f254 rfl rfl (by decide +kernel) rfl rfl (Nat.le_of_ble_eq_true rfl) rfl dX10_waits_2 (fun H locs h => ?_)
  obtain ⟨v_1, hv_1⟩ : ∃ z, z = gu v 106 31 0 := ⟨_, rfl⟩
  have h : gS (gA G) G s v_1 w sg H locs := by rw [hv_1]; exact h
  refine lv_aload_n hx hb dX10_waits_5 rfl (lv_at hl 0 rfl) ?_
  refine lv_iconst (v := 0) hx hb dX10_waits_6 (by decide) ?_
  refine g_put (ci := 10) (x := 0) (ty := .int) C h 106 (by decide) rfl rfl hi10 tyX10 tyX10_ok nmX10 32 (by decide) f257 rfl rfl (by decide +kernel) rfl rfl (Nat.le_of_ble_eq_true rfl) rfl dX10_waits_7 (fun H locs h => ?_)
  obtain ⟨v_2, hv_2⟩ : ∃ z, z = gu v_1 106 32 0 := ⟨_, rfl⟩
  have h : gS (gA G) G s v_2 w sg H locs := by rw [hv_2]; exact h
  refine lv_aload_n hx hb dX10_waits_10 rfl (lv_at hl 0 rfl) ?_
  refine lv_bipush (v := (-4)) hx hb dX10_waits_11 (by decide) ?_
  refine g_put (ci := 10) (x := (-4)) (ty := .int) C h 106 (by decide) rfl rfl hi10 tyX10 tyX10_ok nmX10 33 (by decide) f86 rfl rfl (by decide +kernel) rfl rfl (Nat.le_of_ble_eq_true rfl) rfl dX10_waits_13 (fun H locs h => ?_)
  obtain ⟨v_3, hv_3⟩ : ∃ z, z = gu v_2 106 33 (-4) := ⟨_, rfl⟩
  have h : gS (gA G) G s v_3 w sg H locs := by rw [hv_3]; exact h
  exact ret v_3 w sg _ _ _ _ dX10_waits_16 h ⟨(by rw [hv_3, hv_2, hv_1]), rfl, rfl⟩

set_option maxHeartbeats 4000000 in
set_option maxRecDepth 100000 in
theorem c_X10_rule (l : Launch) (G : gG) (v : Nat → Nat → Int32) (w : Nat → Nat → Int64) (sg : Nat → Nat) (p1 : Int32) {A1 : Int} (a1 : p1.toInt = A1) (p2 : Int32) {A2 : Int} (a2 : p2.toInt = A2) (p3 : Int32) {A3 : Int} (a3 : p3.toInt = A3) (p4 : Int32) {A4 : Int} (a4 : p4.toInt = A4) (mi : mI v) : Met l yX10_rule wsX10_rule ({ frames := 1, cells := 0, slots := 0, locals := 25 }) (gPre G v w sg [.ref (G.2.2 (106)), .int (p1), .int (p2), .int (p3), .int (p4)]) (gQi G (fun r v' w' sg' => (mI v' ∧ fM 127 128 27 34 v w v' w ∧ ((¬ rF24 A1 A2 A3 A4 ∧ r = -1 ∧ v' = v) ∨ (rF24 A1 A2 A3 A4 ∧ r = 1 ∧ v' = (gu (gu (gu (gu (gu (gu (gu v 106 27 p1) 106 28 p2) 106 29 p3) 106 30 p4) 106 31 0) 106 32 0) 106 33 (-4))))) ∧ w = w' ∧ sg = sg')) 0 0 (gA G) := by
  refine gM_ofi (cc := cX10_rule) (maxL := 5) (by decide) rfl (Nat.le_of_ble_eq_true rfl) ?_
  intro p e R s m args below meth c Q ls C hR ret h hl
  have hx := C.1.1
  have hb := C.1.2.1
  have hown := C.1.2.2.2.1
  have hts := C.1.2.2.2.2
  have hl : lv_has ls 5 [(0, .ref (G.2.2 (106))), (1, .int (p1)), (2, .int (p2)), (3, .int (p3)), (4, .int (p4))] := hl
  have q1 := i_rng p1; rw [a1] at q1
  have q2 := i_rng p2; rw [a2] at q2
  have q3 := i_rng p3; rw [a3] at q3
  have q4 := i_rng p4; rw [a4] at q4
  have z_m1 : ((-1) : Int32).toInt = (-1) := by decide
  have z_0 : (0 : Int32).toInt = 0 := by decide
  have z_1 : (1 : Int32).toInt = 1 := by decide
  have k260 : (Cond.constantLong RX10 260 (8)).before args s = true := hts _ (by decide +kernel)
  have k262 : (Cond.constantLong RX10 262 (100000)).before args s = true := hts _ (by decide +kernel)
  have k126 : (Cond.constantLong RX10 126 (100)).before args s = true := hts _ (by decide +kernel)
  have k112 : (Cond.constantLong RX10 112 (2000000)).before args s = true := hts _ (by decide +kernel)
  have f72 : Cond.fieldLink RX10 72 "WindHallModel" "ruleN" "I" ∈ wsX10_rule := by decide +kernel
  have hi10 : ∀ x ∈ u_ws RX10 TX10 42, x ∈ wsX10_rule := fun x q => List.mem_cons_of_mem _ (List.mem_append_right _ q)
  have f76 : Cond.fieldLink RX10 76 "WindHallModel" "ruleD" "I" ∈ wsX10_rule := by decide +kernel
  have f79 : Cond.fieldLink RX10 79 "WindHallModel" "ruleMost" "I" ∈ wsX10_rule := by decide +kernel
  have f83 : Cond.fieldLink RX10 83 "WindHallModel" "ruleLimit" "I" ∈ wsX10_rule := by decide +kernel
  have o_1 := mi
  obtain ⟨I7, I10, I18, I22, I27, I29, I32, Is, I35, Ia, Iar, Isz, Ian⟩ := o_1
  refine lv_iload_n hx hb dX10_rule_0 rfl (lv_at hl 1 rfl) ?_
  refine lv_i2l (v := (p1 : Int32).toInt64) hx hb dX10_rule_1 rfl ?_
  refine lv_lconst (v := 1) hx hb dX10_rule_2 (by decide) ?_
  refine lv_ldc2 hx hb hown k260 dX10_rule_3 ?_
  refine g_calli C (va_runS (As := [.long ((p1 : Int32).toInt64), .long (1), .long (8)]) (rest := []) C.1 (c_X10_in l G v w sg ((p1 : Int32).toInt64) (A0 := A1) (il_of a1) (1) (A2 := 1) (by decide) (8) (A4 := 8) (by decide)) (va_cwS 3 hts gX10_rule_X10_in rfl rfl rfl (by decide +kernel) ⟨by rw [hR]; exact Nat.le_of_ble_eq_true rfl, by rw [hR]; exact Nat.le_of_ble_eq_true rfl⟩) ⟨gPre_blind, gS_pre C h _⟩ rfl rfl hl.1 rfl (lv_room (Nat.le_of_ble_eq_true rfl)) dX10_rule_6 ⟨Nat.zero_le _, Nat.zero_le _⟩) h (fun r_2 v_4 w_5 g_6 H locs p_3 h => ?_)
  obtain ⟨p_3, rfl, rfl, rfl⟩ := p_3
  rcases p_3 with ⟨rfl, t_7⟩ | ⟨rfl, t_7⟩
  · skip
    refine lv_if_eq (tgt := 49) hx hb dX10_rule_9 (by decide) (fun c_8 => absurd c_8 (by decide)) (fun _ => ?_)
    refine lv_iload_n hx hb dX10_rule_12 rfl (lv_at hl 2 rfl) ?_
    refine lv_i2l (v := (p2 : Int32).toInt64) hx hb dX10_rule_13 rfl ?_
    refine lv_lconst (v := 0) hx hb dX10_rule_14 (by decide) ?_
    refine lv_ldc2 hx hb hown k262 dX10_rule_15 ?_
    refine g_calli C (va_runS (As := [.long ((p2 : Int32).toInt64), .long (0), .long (100000)]) (rest := []) C.1 (c_X10_in l G v w sg ((p2 : Int32).toInt64) (A0 := A2) (il_of a2) (0) (A2 := 0) (by decide) (100000) (A4 := 100000) (by decide)) (va_cwS 3 hts gX10_rule_X10_in rfl rfl rfl (by decide +kernel) ⟨by rw [hR]; exact Nat.le_of_ble_eq_true rfl, by rw [hR]; exact Nat.le_of_ble_eq_true rfl⟩) ⟨gPre_blind, gS_pre C h _⟩ rfl rfl hl.1 rfl (lv_room (Nat.le_of_ble_eq_true rfl)) dX10_rule_18 ⟨Nat.zero_le _, Nat.zero_le _⟩) h (fun r_9 v_11 w_12 g_13 H locs p_10 h => ?_)
    obtain ⟨p_10, rfl, rfl, rfl⟩ := p_10
    rcases p_10 with ⟨rfl, t_14⟩ | ⟨rfl, t_14⟩
    · skip
      refine lv_if_eq (tgt := 49) hx hb dX10_rule_21 (by decide) (fun c_15 => absurd c_15 (by decide)) (fun _ => ?_)
      refine lv_iload_n hx hb dX10_rule_24 rfl (lv_at hl 3 rfl) ?_
      refine lv_i2l (v := (p3 : Int32).toInt64) hx hb dX10_rule_25 rfl ?_
      refine lv_lconst (v := 1) hx hb dX10_rule_26 (by decide) ?_
      refine lv_ldc2 hx hb hown k126 dX10_rule_27 ?_
      refine g_calli C (va_runS (As := [.long ((p3 : Int32).toInt64), .long (1), .long (100)]) (rest := []) C.1 (c_X10_in l G v w sg ((p3 : Int32).toInt64) (A0 := A3) (il_of a3) (1) (A2 := 1) (by decide) (100) (A4 := 100) (by decide)) (va_cwS 3 hts gX10_rule_X10_in rfl rfl rfl (by decide +kernel) ⟨by rw [hR]; exact Nat.le_of_ble_eq_true rfl, by rw [hR]; exact Nat.le_of_ble_eq_true rfl⟩) ⟨gPre_blind, gS_pre C h _⟩ rfl rfl hl.1 rfl (lv_room (Nat.le_of_ble_eq_true rfl)) dX10_rule_30 ⟨Nat.zero_le _, Nat.zero_le _⟩) h (fun r_16 v_18 w_19 g_20 H locs p_17 h => ?_)
      obtain ⟨p_17, rfl, rfl, rfl⟩ := p_17
      rcases p_17 with ⟨rfl, t_21⟩ | ⟨rfl, t_21⟩
      · skip
        refine lv_if_eq (tgt := 49) hx hb dX10_rule_33 (by decide) (fun c_22 => absurd c_22 (by decide)) (fun _ => ?_)
        refine lv_iload hx hb dX10_rule_36 (lv_at hl 4 rfl) ?_
        refine lv_i2l (v := (p4 : Int32).toInt64) hx hb dX10_rule_38 rfl ?_
        refine lv_lconst (v := 1) hx hb dX10_rule_39 (by decide) ?_
        refine lv_ldc2 hx hb hown k112 dX10_rule_40 ?_
        refine g_calli C (va_runS (As := [.long ((p4 : Int32).toInt64), .long (1), .long (2000000)]) (rest := []) C.1 (c_X10_in l G v w sg ((p4 : Int32).toInt64) (A0 := A4) (il_of a4) (1) (A2 := 1) (by decide) (2000000) (A4 := 2000000) (by decide)) (va_cwS 3 hts gX10_rule_X10_in rfl rfl rfl (by decide +kernel) ⟨by rw [hR]; exact Nat.le_of_ble_eq_true rfl, by rw [hR]; exact Nat.le_of_ble_eq_true rfl⟩) ⟨gPre_blind, gS_pre C h _⟩ rfl rfl hl.1 rfl (lv_room (Nat.le_of_ble_eq_true rfl)) dX10_rule_43 ⟨Nat.zero_le _, Nat.zero_le _⟩) h (fun r_23 v_25 w_26 g_27 H locs p_24 h => ?_)
        obtain ⟨p_24, rfl, rfl, rfl⟩ := p_24
        rcases p_24 with ⟨rfl, t_28⟩ | ⟨rfl, t_28⟩
        · skip
          refine lv_if_ne (tgt := 51) hx hb dX10_rule_46 (by decide) (fun _ => ?_) (fun c_29 => absurd c_29 (by decide))
          refine lv_aload_n hx hb dX10_rule_51 rfl (lv_at hl 0 rfl) ?_
          refine lv_iload_n hx hb dX10_rule_52 rfl (lv_at hl 1 rfl) ?_
          refine g_put (ci := 10) (x := p1) (ty := .int) C h 106 (by decide) rfl rfl hi10 tyX10 tyX10_ok nmX10 27 (by decide) f72 rfl rfl (by decide +kernel) rfl rfl (Nat.le_of_ble_eq_true rfl) rfl dX10_rule_53 (fun H locs h => ?_)
          obtain ⟨v_30, hv_30⟩ : ∃ z, z = gu v 106 27 p1 := ⟨_, rfl⟩
          have h : gS (gA G) G s v_30 w sg H locs := by rw [hv_30]; exact h
          have u_31 : fM 127 128 27 34 v w v_30 w := by rw [hv_30]; exact (fM_f fM_rf (by decide))
          refine lv_aload_n hx hb dX10_rule_56 rfl (lv_at hl 0 rfl) ?_
          refine lv_iload_n hx hb dX10_rule_57 rfl (lv_at hl 2 rfl) ?_
          refine g_put (ci := 10) (x := p2) (ty := .int) C h 106 (by decide) rfl rfl hi10 tyX10 tyX10_ok nmX10 28 (by decide) f76 rfl rfl (by decide +kernel) rfl rfl (Nat.le_of_ble_eq_true rfl) rfl dX10_rule_58 (fun H locs h => ?_)
          obtain ⟨v_32, hv_32⟩ : ∃ z, z = gu v_30 106 28 p2 := ⟨_, rfl⟩
          have h : gS (gA G) G s v_32 w sg H locs := by rw [hv_32]; exact h
          have u_33 : fM 127 128 27 34 v w v_32 w := by rw [hv_32]; exact (fM_f u_31 (by decide))
          refine lv_aload_n hx hb dX10_rule_61 rfl (lv_at hl 0 rfl) ?_
          refine lv_iload_n hx hb dX10_rule_62 rfl (lv_at hl 3 rfl) ?_
          refine g_put (ci := 10) (x := p3) (ty := .int) C h 106 (by decide) rfl rfl hi10 tyX10 tyX10_ok nmX10 29 (by decide) f79 rfl rfl (by decide +kernel) rfl rfl (Nat.le_of_ble_eq_true rfl) rfl dX10_rule_63 (fun H locs h => ?_)
          obtain ⟨v_34, hv_34⟩ : ∃ z, z = gu v_32 106 29 p3 := ⟨_, rfl⟩
          have h : gS (gA G) G s v_34 w sg H locs := by rw [hv_34]; exact h
          have u_35 : fM 127 128 27 34 v w v_34 w := by rw [hv_34]; exact (fM_f u_33 (by decide))
          refine lv_aload_n hx hb dX10_rule_66 rfl (lv_at hl 0 rfl) ?_
          refine lv_iload hx hb dX10_rule_67 (lv_at hl 4 rfl) ?_
          refine g_put (ci := 10) (x := p4) (ty := .int) C h 106 (by decide) rfl rfl hi10 tyX10 tyX10_ok nmX10 30 (by decide) f83 rfl rfl (by decide +kernel) rfl rfl (Nat.le_of_ble_eq_true rfl) rfl dX10_rule_69 (fun H locs h => ?_)
          obtain ⟨v_36, hv_36⟩ : ∃ z, z = gu v_34 106 30 p4 := ⟨_, rfl⟩
          have h : gS (gA G) G s v_36 w sg H locs := by rw [hv_36]; exact h
          have u_37 : fM 127 128 27 34 v w v_36 w := by rw [hv_36]; exact (fM_f u_35 (by decide))
          refine lv_aload_n hx hb dX10_rule_72 rfl (lv_at hl 0 rfl) ?_
          refine g_callv C (va_runV (As := []) (rest := []) C.1 (c_X10_waits l G v_36 w sg ) (cwV 0 hts gX10_rule_X10_waits rfl rfl rfl (by decide +kernel) ⟨by rw [hR]; exact Nat.le_of_ble_eq_true rfl, by rw [hR]; exact Nat.le_of_ble_eq_true rfl⟩) ⟨gPre_blind, g_recv C h 106 (by decide) (ci := 10) rfl rfl, gS_pre C h _⟩ rfl rfl hl.1 rfl (lv_room (Nat.le_of_ble_eq_true rfl)) dX10_rule_73 ⟨Nat.zero_le _, Nat.zero_le _⟩) h (fun v_40 w_41 g_42 H locs p_39 h => ?_)
          obtain ⟨p_39, rfl, rfl⟩ := p_39
          obtain ⟨v_43, hv_43⟩ : ∃ z, z = gu v_36 106 31 0 := ⟨_, rfl⟩
          have u_44 : fM 127 128 27 34 v w v_43 w := by rw [hv_43]; exact (fM_f u_37 (by decide))
          obtain ⟨v_45, hv_45⟩ : ∃ z, z = gu v_43 106 32 0 := ⟨_, rfl⟩
          have u_46 : fM 127 128 27 34 v w v_45 w := by rw [hv_45]; exact (fM_f u_44 (by decide))
          have hv_40 : v_40 = gu v_45 106 33 (-4) := by rw [hv_45, hv_43]; exact p_39
          have u_47 : fM 127 128 27 34 v w v_40 w := by rw [hv_40]; exact (fM_f u_46 (by decide))
          refine lv_iconst (v := 1) hx hb dX10_rule_76 (by decide) ?_
          exact ret 1 v_40 w sg _ _ _ _ dX10_rule_77 h ⟨⟨(by rw [hv_40, hv_45, hv_43, hv_36, hv_34, hv_32, hv_30]; exact ⟨I7, I10, I18, I22, (show 1 ≤ (p1 : Int32).toInt ∧ (p1 : Int32).toInt ≤ 8 by omega), (show 1 ≤ (p3 : Int32).toInt ∧ (p3 : Int32).toInt ≤ 100 by omega), (show 0 ≤ (0 : Int32).toInt ∧ (0 : Int32).toInt ≤ 100 by omega), (show ((0 : Int32).toInt = 0 → (0 : Int32).toInt < (p3 : Int32).toInt) ∧ ((0 : Int32).toInt = 1 → (p1 : Int32).toInt ≤ (0 : Int32).toInt) by omega), I35, Ia, Iar, Isz, Ian⟩), u_47, Or.inr (⟨(by unfold rF24; omega), rfl, (by rw [hv_40, hv_45, hv_43, hv_36, hv_34, hv_32, hv_30] <;> exact (gu_cg (gu_cg (gu_cg (gu_cg (gu_cg (gu_cg (gu_cg rfl rfl rfl rfl) rfl rfl rfl) rfl rfl rfl) rfl rfl rfl) rfl rfl rfl) rfl rfl rfl) rfl rfl rfl))⟩)⟩, rfl, rfl⟩
        · skip
          refine lv_if_ne (tgt := 51) hx hb dX10_rule_46 (by decide) (fun c_48 => absurd (by decide) c_48) (fun _ => ?_)
          refine lv_iconst (v := (-1)) hx hb dX10_rule_49 (by decide) ?_
          exact ret (-1) v w sg _ _ _ _ dX10_rule_50 h ⟨⟨mi, fM_rf, Or.inl ⟨(by unfold rF24; omega), rfl, rfl⟩⟩, rfl, rfl⟩
      · skip
        refine lv_if_eq (tgt := 49) hx hb dX10_rule_33 (by decide) (fun _ => ?_) (fun c_49 => absurd (by decide) c_49)
        refine lv_iconst (v := (-1)) hx hb dX10_rule_49 (by decide) ?_
        exact ret (-1) v w sg _ _ _ _ dX10_rule_50 h ⟨⟨mi, fM_rf, Or.inl ⟨(by unfold rF24; omega), rfl, rfl⟩⟩, rfl, rfl⟩
    · skip
      refine lv_if_eq (tgt := 49) hx hb dX10_rule_21 (by decide) (fun _ => ?_) (fun c_50 => absurd (by decide) c_50)
      refine lv_iconst (v := (-1)) hx hb dX10_rule_49 (by decide) ?_
      exact ret (-1) v w sg _ _ _ _ dX10_rule_50 h ⟨⟨mi, fM_rf, Or.inl ⟨(by unfold rF24; omega), rfl, rfl⟩⟩, rfl, rfl⟩
  · skip
    refine lv_if_eq (tgt := 49) hx hb dX10_rule_9 (by decide) (fun _ => ?_) (fun c_51 => absurd (by decide) c_51)
    refine lv_iconst (v := (-1)) hx hb dX10_rule_49 (by decide) ?_
    exact ret (-1) v w sg _ _ _ _ dX10_rule_50 h ⟨⟨mi, fM_rf, Or.inl ⟨(by unfold rF24; omega), rfl, rfl⟩⟩, rfl, rfl⟩

set_option maxHeartbeats 4000000 in
set_option maxRecDepth 100000 in
theorem c_X10_anew (l : Launch) (G : gG) (v : Nat → Nat → Int32) (w : Nat → Nat → Int64) (sg : Nat → Nat) (mi : mI v) : Met l yX10_anew wsX10_anew ({ frames := 1, cells := 0, slots := 0, locals := 20 }) (gPre G v w sg [.ref (G.2.2 (106))]) (gQi G (fun r v' w' sg' => (mI v' ∧ fM 127 128 27 34 v w v' w ∧ r = v 106 32 ∧ v' = (gu (gu (gu v 106 31 0) 106 32 0) 106 33 (-4))) ∧ w = w' ∧ sg = sg')) 0 0 (gA G) := by
  refine gM_ofi (cc := cX10_anew) (maxL := 2) (by decide) rfl (Nat.le_of_ble_eq_true rfl) ?_
  intro p e R s m args below meth c Q ls C hR ret h hl
  have hx := C.1.1
  have hb := C.1.2.1
  have hown := C.1.2.2.2.1
  have hts := C.1.2.2.2.2
  have hl : lv_has ls 2 [(0, .ref (G.2.2 (106)))] := hl
  have z_0 : (0 : Int32).toInt = 0 := by decide
  have z_1 : (1 : Int32).toInt = 1 := by decide
  have f257 : Cond.fieldLink RX10 257 "WindHallModel" "came" "I" ∈ wsX10_anew := by decide +kernel
  have hi10 : ∀ x ∈ u_ws RX10 TX10 42, x ∈ wsX10_anew := fun x q => List.mem_cons_of_mem _ (List.mem_append_right _ q)
  have o_1 := mi
  obtain ⟨I7, I10, I18, I22, I27, I29, I32, Is, I35, Ia, Iar, Isz, Ian⟩ := o_1
  refine lv_aload_n hx hb dX10_anew_0 rfl (lv_at hl 0 rfl) ?_
  refine g_geti (ci := 10) (x := v 106 32) C h 106 (by decide) rfl rfl hi10 32 (by decide) f257 rfl rfl rfl dX10_anew_1 ?_
  refine lv_istore_n (lv' := [(1, .int (v 106 32)), (0, .ref (G.2.2 (106)))]) hx hb dX10_anew_4 rfl hl (by decide) rfl (fun ls hl => ?_)
  refine lv_aload_n hx hb dX10_anew_5 rfl (lv_at hl 1 rfl) ?_
  refine g_callv C (va_runV (As := []) (rest := []) C.1 (c_X10_waits l G v w sg ) (cwV 0 hts gX10_anew_X10_waits rfl rfl rfl (by decide +kernel) ⟨by rw [hR]; exact Nat.le_of_ble_eq_true rfl, by rw [hR]; exact Nat.le_of_ble_eq_true rfl⟩) ⟨gPre_blind, g_recv C h 106 (by decide) (ci := 10) rfl rfl, gS_pre C h _⟩ rfl rfl hl.1 rfl (lv_room (Nat.le_of_ble_eq_true rfl)) dX10_anew_6 ⟨Nat.zero_le _, Nat.zero_le _⟩) h (fun v_4 w_5 g_6 H locs p_3 h => ?_)
  obtain ⟨p_3, rfl, rfl⟩ := p_3
  obtain ⟨v_7, hv_7⟩ : ∃ z, z = gu v 106 31 0 := ⟨_, rfl⟩
  have u_8 : fM 127 128 27 34 v w v_7 w := by rw [hv_7]; exact (fM_f fM_rf (by decide))
  obtain ⟨v_9, hv_9⟩ : ∃ z, z = gu v_7 106 32 0 := ⟨_, rfl⟩
  have u_10 : fM 127 128 27 34 v w v_9 w := by rw [hv_9]; exact (fM_f u_8 (by decide))
  have hv_4 : v_4 = gu v_9 106 33 (-4) := by rw [hv_9, hv_7]; exact p_3
  have u_11 : fM 127 128 27 34 v w v_4 w := by rw [hv_4]; exact (fM_f u_10 (by decide))
  refine lv_iload_n hx hb dX10_anew_9 rfl (lv_at hl 0 rfl) ?_
  exact ret (v 106 32) v_4 w sg _ _ _ _ dX10_anew_10 h ⟨⟨(by rw [hv_4, hv_9, hv_7]; exact ⟨I7, I10, I18, I22, I27, I29, (show 0 ≤ (0 : Int32).toInt ∧ (0 : Int32).toInt ≤ 100 by omega), (show ((0 : Int32).toInt = 0 → (0 : Int32).toInt < ((v 106 29) : Int32).toInt) ∧ ((0 : Int32).toInt = 1 → ((v 106 27) : Int32).toInt ≤ (0 : Int32).toInt) by omega), I35, Ia, Iar, Isz, Ian⟩), u_11, ⟨rfl, (by rw [hv_4, hv_9, hv_7] <;> exact (gu_cg (gu_cg (gu_cg rfl rfl rfl rfl) rfl rfl rfl) rfl rfl rfl))⟩⟩, rfl, rfl⟩

set_option maxHeartbeats 4000000 in
set_option maxRecDepth 100000 in
theorem c_X10_isSettled (l : Launch) (G : gG) (v : Nat → Nat → Int32) (w : Nat → Nat → Int64) (sg : Nat → Nat) (c1 : 1 ≤ (v 106 27).toInt ∧ (v 106 27).toInt ≤ 8) (c2 : 0 ≤ (v 106 32).toInt ∧ (v 106 32).toInt ≤ 100) : Met l yX10_isSettled wsX10_isSettled ({ frames := 0, cells := 0, slots := 0, locals := 0 }) (gPre G v w sg [.ref (G.2.2 (106))]) (gQi G (fun r v' w' sg' => ((r = 1 ∧ stM v) ∨ (r = 0 ∧ ¬ stM v)) ∧ v = v' ∧ w = w' ∧ sg = sg')) 0 0 (gA G) := by
  refine gM_ofz (cc := cX10_isSettled) (maxL := 7) (by decide) rfl (Nat.le_of_ble_eq_true rfl) ?_
  intro p e R s m args below meth c Q ls C hR ret h hl
  have hx := C.1.1
  have hb := C.1.2.1
  have hown := C.1.2.2.2.1
  have hts := C.1.2.2.2.2
  have hl : lv_has ls 7 [(0, .ref (G.2.2 (106)))] := hl
  have z_0 : (0 : Int32).toInt = 0 := by decide
  have z_1 : (1 : Int32).toInt = 1 := by decide
  have z_3 : (3 : Int32).toInt = 3 := by decide
  have f257 : Cond.fieldLink RX10 257 "WindHallModel" "came" "I" ∈ wsX10_isSettled := by decide +kernel
  have hi10 : ∀ x ∈ u_ws RX10 TX10 42, x ∈ wsX10_isSettled := fun x q => List.mem_cons_of_mem _ (List.mem_append_right _ q)
  have f72 : Cond.fieldLink RX10 72 "WindHallModel" "ruleN" "I" ∈ wsX10_isSettled := by decide +kernel
  have f89 : Cond.fieldLink RX10 89 "WindHallModel" "rows" "[I" ∈ wsX10_isSettled := by decide +kernel
  have f76 : Cond.fieldLink RX10 76 "WindHallModel" "ruleD" "I" ∈ wsX10_isSettled := by decide +kernel
  refine lv_aload_n hx hb dX10_isSettled_0 rfl (lv_at hl 0 rfl) ?_
  refine g_geti (ci := 10) (x := v 106 32) C h 106 (by decide) rfl rfl hi10 32 (by decide) f257 rfl rfl rfl dX10_isSettled_1 ?_
  refine lv_aload_n hx hb dX10_isSettled_4 rfl (lv_at hl 0 rfl) ?_
  refine g_geti (ci := 10) (x := v 106 27) C h 106 (by decide) rfl rfl hi10 27 (by decide) f72 rfl rfl rfl dX10_isSettled_5 ?_
  refine lv_icmp_ge (tgt := 13) hx hb dX10_isSettled_8 (by decide) (fun c_1 => ?_) (fun c_1 => ?_)
  · have j_2 : (v 106 27).toInt ≤ (v 106 32).toInt := (i_le rfl rfl).mp c_1
    refine lv_iconst (v := 1) hx hb dX10_isSettled_13 (by decide) ?_
    refine lv_istore_n (lv' := [(1, .int (1)), (0, .ref (G.2.2 (106)))]) hx hb dX10_isSettled_14 rfl hl (by decide) rfl (fun ls hl => ?_)
    refine lv_iconst (v := 0) hx hb dX10_isSettled_15 (by decide) ?_
    have J17_4 : ∀ (n : Nat) (y_3 : Int32) (y_4 : Int32) (H : Heap) (locs : List Loc) (ls : Array Slot), (3 - (y_4).toInt).toNat < n → (0 ≤ (y_4).toInt ∧ (y_4).toInt ≤ 3) → ((y_3).toInt = 0 ∨ (y_3).toInt = 1) → (((y_3).toInt = 1 → stQ v (y_4).toInt) ∧ ((y_3).toInt = 0 → ¬ stQ v (y_4).toInt)) → gS (gA G) G s v w sg H locs → lv_has ls 7 [(0, .ref (G.2.2 (106))), (1, .int (y_3)), (2, .int (y_4))] → W p l e R s m args below meth c H locs 0 0 Q (F0 m 17 ls []) := by
      intro n
      induction n with
      | zero => intro y_3 y_4 H locs ls hm; exact absurd hm (Nat.not_lt_zero _)
      | succ n ih17 =>
        intro y_3 y_4 H locs ls hm f_5 f_6 f_7 h hl
        refine lv_iload_n hx hb dX10_isSettled_17 rfl (lv_at hl 2 rfl) ?_
        refine lv_iconst (v := 3) hx hb dX10_isSettled_18 (by decide) ?_
        refine lv_icmp_ge (tgt := 136) hx hb dX10_isSettled_19 (by decide) (fun c_8 => ?_) (fun c_8 => ?_)
        · have j_9 : 3 ≤ (y_4).toInt := (i_le (by decide) rfl).mp c_8
          have hend : (y_4).toInt = 3 := by omega
          refine lv_iload_n hx hb dX10_isSettled_136 rfl (lv_at hl 1 rfl) ?_
          exact ret y_3 v w sg _ _ _ _ (nb_of (by omega)) dX10_isSettled_137 h ⟨(f_6.elim (fun q => Or.inr ⟨(fa_eq _ _).mpr (by rw [q]; decide), fun z => f_7.2 q (hend ▸ z.2)⟩) (fun q => Or.inl ⟨(fa_eq _ _).mpr (by rw [q]; decide), by omega, hend ▸ f_7.1 q⟩)), rfl, rfl, rfl⟩
        · have j_9 : ¬ (3 ≤ (y_4).toInt) := fun q => c_8 ((i_le (by decide) rfl).mpr q)
          refine lv_aload_n hx hb dX10_isSettled_22 rfl (lv_at hl 0 rfl) ?_
          refine g_get (ci := 10) (x := .ref (G.2.2 (127))) C h 106 (by decide) rfl rfl hi10 34 (by decide) f89 rfl rfl dX10_isSettled_23 ?_
          refine lv_iconst (v := 3) hx hb dX10_isSettled_26 (by decide) ?_
          refine lv_aload_n hx hb dX10_isSettled_27 rfl (lv_at hl 0 rfl) ?_
          refine g_geti (ci := 10) (x := v 106 32) C h 106 (by decide) rfl rfl hi10 32 (by decide) f257 rfl rfl rfl dX10_isSettled_28 ?_
          refine lv_iconst (v := 1) hx hb dX10_isSettled_31 (by decide) ?_
          refine lv_isub hx hb dX10_isSettled_32 ?_
          refine lv_topi (fun x_10 e_11 => ?_)
          have i_12 : x_10.toInt = (v 106 32).toInt - 1 := ia_sub e_11 rfl (by decide) (by omega) (by omega)
          refine lv_imul hx hb dX10_isSettled_33 ?_
          refine lv_topi (fun x_13 e_14 => ?_)
          have i_15 : x_13.toInt = 3 * ((v 106 32).toInt - 1) := ia_mul e_14 (by decide) i_12 (by omega) (by omega)
          refine lv_iload_n hx hb dX10_isSettled_34 rfl (lv_at hl 2 rfl) ?_
          refine lv_iadd hx hb dX10_isSettled_35 ?_
          refine lv_topi (fun x_16 e_17 => ?_)
          have i_18 : x_16.toInt = (3 * ((v 106 32).toInt - 1)) + (y_4).toInt := ia_add e_17 i_15 rfl (by omega) (by omega)
          refine g_iald C h 127 (by decide) (by decide) (n := 300) (by decide) (vp_of i_18 (by omega) (by omega)) dX10_isSettled_36 ?_
          refine lv_topi (fun x_19 e_20 => ?_)
          have hx36 : x_19 = v 127 (3 * ((v 106 32).toInt - 1) + ((y_4 : Int32).toInt.toNat : Int)).toNat := by rw [e_20, cl_nat i_18]; congr 1; omega
          refine lv_istore_n (lv' := [(3, .int (x_19)), (0, .ref (G.2.2 (106))), (1, .int (y_3)), (2, .int (y_4))]) hx hb dX10_isSettled_37 rfl hl (by decide) rfl (fun ls hl => ?_)
          refine lv_iload_n hx hb dX10_isSettled_38 rfl (lv_at hl 0 rfl) ?_
          refine lv_istore (lv' := [(4, .int (x_19)), (3, .int (x_19)), (0, .ref (G.2.2 (106))), (1, .int (y_3)), (2, .int (y_4))]) hx hb dX10_isSettled_39 hl (by decide) rfl (fun ls hl => ?_)
          refine lv_aload_n hx hb dX10_isSettled_41 rfl (lv_at hl 2 rfl) ?_
          refine g_geti (ci := 10) (x := v 106 32) C h 106 (by decide) rfl rfl hi10 32 (by decide) f257 rfl rfl rfl dX10_isSettled_42 ?_
          refine lv_aload_n hx hb dX10_isSettled_45 rfl (lv_at hl 2 rfl) ?_
          refine g_geti (ci := 10) (x := v 106 27) C h 106 (by decide) rfl rfl hi10 27 (by decide) f72 rfl rfl rfl dX10_isSettled_46 ?_
          refine lv_isub hx hb dX10_isSettled_49 ?_
          refine lv_topi (fun x_21 e_22 => ?_)
          have i_23 : x_21.toInt = (v 106 32).toInt - (v 106 27).toInt := ia_sub e_22 rfl rfl (by omega) (by omega)
          have J52_26 : ∀ (n : Nat) (y_24 : Int32) (y_25 : Int32) (y_26 : Int32) (H : Heap) (locs : List Loc) (ls : Array Slot), (((v 106 32) : Int32).toInt - (y_26).toInt).toNat < n → (((v 106 32) : Int32).toInt - ((v 106 27) : Int32).toInt ≤ (y_26).toInt ∧ (y_26).toInt ≤ ((v 106 32) : Int32).toInt) → (y_24 = loM (gM v ((y_4 : Int32).toInt.toNat : Int)) (v 127 (3 * ((v 106 32).toInt - 1) + ((y_4 : Int32).toInt.toNat : Int)).toNat) ((y_26).toInt - ((v 106 32).toInt - (v 106 27).toInt)).toNat) → (y_25 = hiM (gM v ((y_4 : Int32).toInt.toNat : Int)) (v 127 (3 * ((v 106 32).toInt - 1) + ((y_4 : Int32).toInt.toNat : Int)).toNat) ((y_26).toInt - ((v 106 32).toInt - (v 106 27).toInt)).toNat) → gS (gA G) G s v w sg H locs → lv_has ls 7 [(0, .ref (G.2.2 (106))), (1, .int (y_3)), (2, .int (y_4)), (3, .int (y_24)), (4, .int (y_25)), (5, .int (y_26))] → W p l e R s m args below meth c H locs 0 0 Q (F0 m 52 ls []) := by
            intro n
            induction n with
            | zero => intro y_24 y_25 y_26 H locs ls hm; exact absurd hm (Nat.not_lt_zero _)
            | succ n ih52 =>
              intro y_24 y_25 y_26 H locs ls hm f_27 f_28 f_29 h hl
              refine lv_iload hx hb dX10_isSettled_52 (lv_at hl 5 rfl) ?_
              refine lv_aload_n hx hb dX10_isSettled_54 rfl (lv_at hl 0 rfl) ?_
              refine g_geti (ci := 10) (x := v 106 32) C h 106 (by decide) rfl rfl hi10 32 (by decide) f257 rfl rfl rfl dX10_isSettled_55 ?_
              refine lv_icmp_ge (tgt := 109) hx hb dX10_isSettled_58 (by decide) (fun c_30 => ?_) (fun c_30 => ?_)
              · have j_31 : (v 106 32).toInt ≤ (y_26).toInt := (i_le rfl rfl).mp c_30
                refine lv_iload_n hx hb dX10_isSettled_109 rfl (lv_at hl 1 rfl) ?_
                have J129_32 : ∀ (y_32 : Int32) (H : Heap) (locs : List Loc) (ls : Array Slot), ((y_32).toInt = 0 ∨ (y_32).toInt = 1) → (((y_32).toInt = 1 → stQ v ((y_4 : Int32).toInt + 1)) ∧ ((y_32).toInt = 0 → ¬ stQ v ((y_4 : Int32).toInt + 1))) → gS (gA G) G s v w sg H locs → lv_has ls 7 [(0, .ref (G.2.2 (106))), (1, .int (y_3)), (2, .int (y_4)), (3, .int (y_24)), (4, .int (y_25)), (5, .int (y_26))] → W p l e R s m args below meth c H locs 0 0 Q (F0 m 129 ls [.int (y_32)]) := by
                  intro y_32 H locs ls f_33 f_34 h hl
                  refine lv_istore_n (lv' := [(1, .int (y_32)), (0, .ref (G.2.2 (106))), (2, .int (y_4)), (3, .int (y_24)), (4, .int (y_25)), (5, .int (y_26))]) hx hb dX10_isSettled_129 rfl hl (by decide) rfl (fun ls hl => ?_)
                  obtain ⟨x_35, e_36⟩ : ∃ y : Int32, y = y_4 + 1 := ⟨_, rfl⟩
                  have i_37 : x_35.toInt = (y_4).toInt + 1 := ia_add e_36 rfl (by decide) (by omega) (by omega)
                  refine lv_iinc (v := x_35) (lv' := [(2, .int (x_35)), (1, .int (y_32)), (0, .ref (G.2.2 (106))), (3, .int (y_24)), (4, .int (y_25)), (5, .int (y_26))]) hx hb dX10_isSettled_130 hl (k := 2) rfl (by rw [e_36]; rfl) (by decide) rfl (fun ls hl => ?_)
                  refine lv_goto (tgt := 17) hx hb dX10_isSettled_133 (by decide) ?_
                  exact ih17 y_32 x_35 _ _ _ (by omega) (by omega) (by omega) (by rw [show (x_35 : Int32).toInt = (y_4 : Int32).toInt + 1 by omega]; exact f_34) h (lv_sub hl [2, 1, 0] rfl)
                have J128_37 : ∀ (H : Heap) (locs : List Loc) (ls : Array Slot), (¬ stQ v ((y_4 : Int32).toInt + 1)) → gS (gA G) G s v w sg H locs → lv_has ls 7 [(0, .ref (G.2.2 (106))), (1, .int (y_3)), (2, .int (y_4)), (3, .int (y_24)), (4, .int (y_25)), (5, .int (y_26))] → W p l e R s m args below meth c H locs 0 0 Q (F0 m 128 ls []) := by
                  intro  H locs ls f_38 h hl
                  refine lv_iconst (v := 0) hx hb dX10_isSettled_128 (by decide) ?_
                  exact J129_32 0 _ _ _ (by omega) (by first | exact ⟨fun q => absurd q (by decide), fun _ => f_38⟩ | exact ⟨fun _ => (f_7.1 (by omega)).st (by omega) rfl (by rw [← hsp]; omega), fun q => absurd q (by decide)⟩) h (lv_sub hl [0, 1, 2, 3, 4, 5] rfl)
                refine lv_if_eq (tgt := 128) hx hb dX10_isSettled_110 (by decide) (fun c_39 => ?_) (fun c_39 => ?_)
                · have j_40 : (y_3).toInt = 0 := (i_eq rfl (by decide)).mp c_39
                  exact J128_37  _ _ _ (by first | exact stQ.nm (f_7.2 (by omega)) (by omega) | exact stQ.no (I := (y_4 : Int32).toInt) (by omega) rfl (by rw [← hsp]; omega)) h (lv_sub hl [0, 1, 2, 3, 4, 5] rfl)
                · have j_40 : ¬ ((y_3).toInt = 0) := fun q => c_39 ((i_eq rfl (by decide)).mpr q)
                  refine lv_iload hx hb dX10_isSettled_113 (lv_at hl 4 rfl) ?_
                  refine lv_iload_n hx hb dX10_isSettled_115 rfl (lv_at hl 3 rfl) ?_
                  refine lv_isub hx hb dX10_isSettled_116 ?_
                  refine lv_topi (fun x_41 e_42 => ?_)
                  refine lv_aload_n hx hb dX10_isSettled_117 rfl (lv_at hl 0 rfl) ?_
                  refine g_geti (ci := 10) (x := v 106 28) C h 106 (by decide) rfl rfl hi10 28 (by decide) f76 rfl rfl rfl dX10_isSettled_118 ?_
                  have hsp : (x_41 : Int32) = spM v (y_4 : Int32).toInt.toNat := by rw [e_42, f_28, f_29, show (y_26).toInt - ((v 106 32).toInt - (v 106 27).toInt) = (v 106 27).toInt by omega]; rfl
                  refine lv_icmp_gt (tgt := 128) hx hb dX10_isSettled_121 (by decide) (fun c_43 => ?_) (fun c_43 => ?_)
                  · have j_44 : (v 106 28).toInt < (x_41).toInt := (i_lt rfl rfl).mp c_43
                    exact J128_37  _ _ _ (by first | exact stQ.nm (f_7.2 (by omega)) (by omega) | exact stQ.no (I := (y_4 : Int32).toInt) (by omega) rfl (by rw [← hsp]; omega)) h (lv_sub hl [0, 1, 2, 3, 4, 5] rfl)
                  · have j_44 : ¬ ((v 106 28).toInt < (x_41).toInt) := fun q => c_43 ((i_lt rfl rfl).mpr q)
                    refine lv_iconst (v := 1) hx hb dX10_isSettled_124 (by decide) ?_
                    refine lv_goto (tgt := 129) hx hb dX10_isSettled_125 (by decide) ?_
                    exact J129_32 1 _ _ _ (by omega) (by first | exact ⟨fun q => absurd q (by decide), fun _ => {F128_0}⟩ | exact ⟨fun _ => (f_7.1 (by omega)).st (by omega) rfl (by rw [← hsp]; omega), fun q => absurd q (by decide)⟩) h (lv_sub hl [0, 1, 2, 3, 4, 5] rfl)
              · have j_31 : ¬ ((v 106 32).toInt ≤ (y_26).toInt) := fun q => c_30 ((i_le rfl rfl).mpr q)
                refine lv_aload_n hx hb dX10_isSettled_61 rfl (lv_at hl 0 rfl) ?_
                refine g_get (ci := 10) (x := .ref (G.2.2 (127))) C h 106 (by decide) rfl rfl hi10 34 (by decide) f89 rfl rfl dX10_isSettled_62 ?_
                refine lv_iconst (v := 3) hx hb dX10_isSettled_65 (by decide) ?_
                refine lv_iload hx hb dX10_isSettled_66 (lv_at hl 5 rfl) ?_
                refine lv_imul hx hb dX10_isSettled_68 ?_
                refine lv_topi (fun x_45 e_46 => ?_)
                have i_47 : x_45.toInt = 3 * (y_26).toInt := ia_mul e_46 (by decide) rfl (by omega) (by omega)
                refine lv_iload_n hx hb dX10_isSettled_69 rfl (lv_at hl 2 rfl) ?_
                refine lv_iadd hx hb dX10_isSettled_70 ?_
                refine lv_topi (fun x_48 e_49 => ?_)
                have i_50 : x_48.toInt = (3 * (y_26).toInt) + (y_4).toInt := ia_add e_49 i_47 rfl (by omega) (by omega)
                refine g_iald C h 127 (by decide) (by decide) (n := 300) (by decide) (vp_of i_50 (by omega) (by omega)) dX10_isSettled_71 ?_
                refine lv_topi (fun x_51 e_52 => ?_)
                have hx71 : x_51 = gM v ((y_4 : Int32).toInt.toNat : Int) ((y_26 : Int32).toInt - ((v 106 32).toInt - (v 106 27).toInt)).toNat := by rw [e_52, cl_nat i_50]; unfold gM; congr 1; omega
                refine lv_istore (lv' := [(6, .int (x_51)), (0, .ref (G.2.2 (106))), (1, .int (y_3)), (2, .int (y_4)), (3, .int (y_24)), (4, .int (y_25)), (5, .int (y_26))]) hx hb dX10_isSettled_72 hl (by decide) rfl (fun ls hl => ?_)
                refine lv_iload hx hb dX10_isSettled_74 (lv_at hl 0 rfl) ?_
                refine lv_iload_n hx hb dX10_isSettled_76 rfl (lv_at hl 4 rfl) ?_
                have J86_53 : ∀ (y_53 : Int32) (H : Heap) (locs : List Loc) (ls : Array Slot), (y_53 = mnM y_24 x_51) → gS (gA G) G s v w sg H locs → lv_has ls 7 [(0, .ref (G.2.2 (106))), (1, .int (y_3)), (2, .int (y_4)), (3, .int (y_24)), (4, .int (y_25)), (5, .int (y_26)), (6, .int (x_51))] → W p l e R s m args below meth c H locs 0 0 Q (F0 m 86 ls [.int (y_53)]) := by
                  intro y_53 H locs ls f_54 h hl
                  refine lv_istore_n (lv' := [(3, .int (y_53)), (0, .ref (G.2.2 (106))), (1, .int (y_3)), (2, .int (y_4)), (4, .int (y_25)), (5, .int (y_26)), (6, .int (x_51))]) hx hb dX10_isSettled_86 rfl hl (by decide) rfl (fun ls hl => ?_)
                  refine lv_iload hx hb dX10_isSettled_87 (lv_at hl 6 rfl) ?_
                  refine lv_iload hx hb dX10_isSettled_89 (lv_at hl 4 rfl) ?_
                  have J101_55 : ∀ (y_55 : Int32) (H : Heap) (locs : List Loc) (ls : Array Slot), (y_55 = mxM y_25 x_51) → gS (gA G) G s v w sg H locs → lv_has ls 7 [(0, .ref (G.2.2 (106))), (1, .int (y_3)), (2, .int (y_4)), (3, .int (y_53)), (4, .int (y_25)), (5, .int (y_26)), (6, .int (x_51))] → W p l e R s m args below meth c H locs 0 0 Q (F0 m 101 ls [.int (y_55)]) := by
                    intro y_55 H locs ls f_56 h hl
                    refine lv_istore (lv' := [(4, .int (y_55)), (0, .ref (G.2.2 (106))), (1, .int (y_3)), (2, .int (y_4)), (3, .int (y_53)), (5, .int (y_26)), (6, .int (x_51))]) hx hb dX10_isSettled_101 hl (by decide) rfl (fun ls hl => ?_)
                    obtain ⟨x_57, e_58⟩ : ∃ y : Int32, y = y_26 + 1 := ⟨_, rfl⟩
                    have i_59 : x_57.toInt = (y_26).toInt + 1 := ia_add e_58 rfl (by decide) (by omega) (by omega)
                    refine lv_iinc (v := x_57) (lv' := [(5, .int (x_57)), (4, .int (y_55)), (0, .ref (G.2.2 (106))), (1, .int (y_3)), (2, .int (y_4)), (3, .int (y_53)), (6, .int (x_51))]) hx hb dX10_isSettled_103 hl (k := 5) rfl (by rw [e_58]; rfl) (by decide) rfl (fun ls hl => ?_)
                    refine lv_goto (tgt := 52) hx hb dX10_isSettled_106 (by decide) ?_
                    exact ih52 y_53 y_55 x_57 _ _ _ (by omega) (by omega) (lm_st f_28 (by omega) (by omega) f_54 hx71) (hm_st f_29 (by omega) (by omega) f_56 hx71) h (lv_sub hl [2, 3, 4, 5, 1, 0] rfl)
                  refine lv_icmp_le (tgt := 99) hx hb dX10_isSettled_91 (by decide) (fun c_60 => ?_) (fun c_60 => ?_)
                  · have j_61 : (x_51).toInt ≤ (y_25).toInt := (i_le rfl rfl).mp c_60
                    refine lv_iload hx hb dX10_isSettled_99 (lv_at hl 4 rfl) ?_
                    exact J101_55 y_25 _ _ _ (by unfold mxM; first | (rw [if_pos (by omega)]; done) | (rw [if_neg (by omega)]; done)) h (lv_sub hl [1, 2, 3, 0, 4, 5, 6] rfl)
                  · have j_61 : ¬ ((x_51).toInt ≤ (y_25).toInt) := fun q => c_60 ((i_le rfl rfl).mpr q)
                    refine lv_iload hx hb dX10_isSettled_94 (lv_at hl 6 rfl) ?_
                    refine lv_goto (tgt := 101) hx hb dX10_isSettled_96 (by decide) ?_
                    exact J101_55 x_51 _ _ _ (by unfold mxM; first | (rw [if_pos (by omega)]; done) | (rw [if_neg (by omega)]; done)) h (lv_sub hl [1, 2, 3, 0, 4, 5, 6] rfl)
                refine lv_icmp_ge (tgt := 85) hx hb dX10_isSettled_77 (by decide) (fun c_62 => ?_) (fun c_62 => ?_)
                · have j_63 : (y_24).toInt ≤ (x_51).toInt := (i_le rfl rfl).mp c_62
                  refine lv_iload_n hx hb dX10_isSettled_85 rfl (lv_at hl 4 rfl) ?_
                  exact J86_53 y_24 _ _ _ (by unfold mnM; first | (rw [if_pos (by omega)]; done) | (rw [if_neg (by omega)]; done)) h (lv_sub hl [1, 2, 3, 4, 5, 6, 0] rfl)
                · have j_63 : ¬ ((y_24).toInt ≤ (x_51).toInt) := fun q => c_62 ((i_le rfl rfl).mpr q)
                  refine lv_iload hx hb dX10_isSettled_80 (lv_at hl 0 rfl) ?_
                  refine lv_goto (tgt := 86) hx hb dX10_isSettled_82 (by decide) ?_
                  exact J86_53 x_51 _ _ _ (by unfold mnM; first | (rw [if_pos (by omega)]; done) | (rw [if_neg (by omega)]; done)) h (lv_sub hl [1, 2, 3, 4, 5, 6, 0] rfl)
          refine lv_istore (lv' := [(5, .int (x_21)), (4, .int (x_19)), (3, .int (x_19)), (0, .ref (G.2.2 (106))), (1, .int (y_3)), (2, .int (y_4))]) hx hb dX10_isSettled_50 hl (by decide) rfl (fun ls hl => ?_)
          exact J52_26 _ x_19 x_19 x_21 _ _ _ (Nat.lt_succ_self _) (by omega) (by rw [show (x_21 : Int32).toInt - ((v 106 32).toInt - (v 106 27).toInt) = 0 by omega]; exact hx36) (by rw [show (x_21 : Int32).toInt - ((v 106 32).toInt - (v 106 27).toInt) = 0 by omega]; exact hx36) h (lv_sub hl [3, 4, 5, 2, 1, 0] rfl)
    refine lv_istore_n (lv' := [(2, .int (0)), (1, .int (1)), (0, .ref (G.2.2 (106)))]) hx hb dX10_isSettled_16 rfl hl (by decide) rfl (fun ls hl => ?_)
    exact J17_4 _ 1 0 _ _ _ (Nat.lt_succ_self _) (by omega) (by omega) ⟨fun _ => stQ_0, fun q => absurd q (by decide)⟩ h (lv_sub hl [2, 1, 0] rfl)
  · have j_2 : ¬ ((v 106 27).toInt ≤ (v 106 32).toInt) := fun q => c_1 ((i_le rfl rfl).mpr q)
    refine lv_iconst (v := 0) hx hb dX10_isSettled_11 (by decide) ?_
    exact ret 0 v w sg _ _ _ _ rfl dX10_isSettled_12 h ⟨Or.inr ⟨rfl, fun q => by have := q.1; omega⟩, rfl, rfl, rfl⟩

set_option maxHeartbeats 4000000 in
set_option maxRecDepth 100000 in
theorem c_X10_come (l : Launch) (G : gG) (v : Nat → Nat → Int32) (w : Nat → Nat → Int64) (sg : Nat → Nat) (p1 : Int32) {A1 : Int} (a1 : p1.toInt = A1) (p2 : Int32) {A2 : Int} (a2 : p2.toInt = A2) (p3 : Int32) {A3 : Int} (a3 : p3.toInt = A3) (mi : mI v) : Met l yX10_come wsX10_come ({ frames := 2, cells := 0, slots := 0, locals := 45 }) (gPre G v w sg [.ref (G.2.2 (106)), .int (p1), .int (p2), .int (p3)]) (gQi G (fun r v' w' sg' => (mI v' ∧ fM 127 128 27 34 v w v' w ∧ ((¬ rF25 A1 A2 A3 ∧ r = -1 ∧ v' = v) ∨ (rF25 A1 A2 A3 ∧ (v 106 31).toInt ≠ 0 ∧ r = -2 ∧ v' = v) ∨ (rF25 A1 A2 A3 ∧ (v 106 31).toInt = 0 ∧ ∃ (v3 : Nat → Nat → Int32) (b s : Int32), v3 = gu (cmB v p1 p2 p3) 106 33 b ∧ fst3 (fun j => farM (v 106 30) (sel3 j p1 p2 p3)) (v 106 33).toInt b.toInt ∧ stS b s (stM v3) (v3 106 32).toInt (v3 106 29).toInt ∧ r = s ∧ v' = gu v3 106 31 s))) ∧ w = w' ∧ sg = sg')) 0 0 (gA G) := by
  refine gM_ofi (cc := cX10_come) (maxL := 6) (by decide) rfl (Nat.le_of_ble_eq_true rfl) ?_
  intro p e R s m args below meth c Q ls C hR ret h hl
  have hx := C.1.1
  have hb := C.1.2.1
  have hown := C.1.2.2.2.1
  have hts := C.1.2.2.2.2
  have hl : lv_has ls 6 [(0, .ref (G.2.2 (106))), (1, .int (p1)), (2, .int (p2)), (3, .int (p3))] := hl
  have q1 := i_rng p1; rw [a1] at q1
  have q2 := i_rng p2; rw [a2] at q2
  have q3 := i_rng p3; rw [a3] at q3
  have z_m4 : ((-4) : Int32).toInt = (-4) := by decide
  have z_m2 : ((-2) : Int32).toInt = (-2) := by decide
  have z_m1 : ((-1) : Int32).toInt = (-1) := by decide
  have z_0 : (0 : Int32).toInt = 0 := by decide
  have z_1 : (1 : Int32).toInt = 1 := by decide
  have z_2 : (2 : Int32).toInt = 2 := by decide
  have z_3 : (3 : Int32).toInt = 3 := by decide
  have f254 : Cond.fieldLink RX10 254 "WindHallModel" "state" "I" ∈ wsX10_come := by decide +kernel
  have hi10 : ∀ x ∈ u_ws RX10 TX10 42, x ∈ wsX10_come := fun x q => List.mem_cons_of_mem _ (List.mem_append_right _ q)
  have f89 : Cond.fieldLink RX10 89 "WindHallModel" "rows" "[I" ∈ wsX10_come := by decide +kernel
  have f257 : Cond.fieldLink RX10 257 "WindHallModel" "came" "I" ∈ wsX10_come := by decide +kernel
  have f86 : Cond.fieldLink RX10 86 "WindHallModel" "beyond" "I" ∈ wsX10_come := by decide +kernel
  have f79 : Cond.fieldLink RX10 79 "WindHallModel" "ruleMost" "I" ∈ wsX10_come := by decide +kernel
  have f83 : Cond.fieldLink RX10 83 "WindHallModel" "ruleLimit" "I" ∈ wsX10_come := by decide +kernel
  have o_1 := mi
  obtain ⟨I7, I10, I18, I22, I27, I29, I32, Is, I35, Ia, Iar, Isz, Ian⟩ := o_1
  refine lv_iload_n hx hb dX10_come_0 rfl (lv_at hl 1 rfl) ?_
  refine g_calli C (va_runS (As := [.int (p1)]) (rest := []) C.1 (c_X10_isReading l G v w sg p1 (A0 := A1) a1) (va_cwS 1 hts gX10_come_X10_isReading rfl rfl rfl (by decide +kernel) ⟨by rw [hR]; exact Nat.le_of_ble_eq_true rfl, by rw [hR]; exact Nat.le_of_ble_eq_true rfl⟩) ⟨gPre_blind, gS_pre C h _⟩ rfl rfl hl.1 rfl (lv_room (Nat.le_of_ble_eq_true rfl)) dX10_come_1 ⟨Nat.zero_le _, Nat.zero_le _⟩) h (fun r_2 v_4 w_5 g_6 H locs p_3 h => ?_)
  obtain ⟨p_3, rfl, rfl, rfl⟩ := p_3
  rcases p_3 with ⟨rfl, t_7⟩ | ⟨rfl, t_7⟩
  · skip
    refine lv_if_eq (tgt := 21) hx hb dX10_come_4 (by decide) (fun c_8 => absurd c_8 (by decide)) (fun _ => ?_)
    refine lv_iload_n hx hb dX10_come_7 rfl (lv_at hl 2 rfl) ?_
    refine g_calli C (va_runS (As := [.int (p2)]) (rest := []) C.1 (c_X10_isReading l G v w sg p2 (A0 := A2) a2) (va_cwS 1 hts gX10_come_X10_isReading rfl rfl rfl (by decide +kernel) ⟨by rw [hR]; exact Nat.le_of_ble_eq_true rfl, by rw [hR]; exact Nat.le_of_ble_eq_true rfl⟩) ⟨gPre_blind, gS_pre C h _⟩ rfl rfl hl.1 rfl (lv_room (Nat.le_of_ble_eq_true rfl)) dX10_come_8 ⟨Nat.zero_le _, Nat.zero_le _⟩) h (fun r_9 v_11 w_12 g_13 H locs p_10 h => ?_)
    obtain ⟨p_10, rfl, rfl, rfl⟩ := p_10
    rcases p_10 with ⟨rfl, t_14⟩ | ⟨rfl, t_14⟩
    · skip
      refine lv_if_eq (tgt := 21) hx hb dX10_come_11 (by decide) (fun c_15 => absurd c_15 (by decide)) (fun _ => ?_)
      refine lv_iload_n hx hb dX10_come_14 rfl (lv_at hl 3 rfl) ?_
      refine g_calli C (va_runS (As := [.int (p3)]) (rest := []) C.1 (c_X10_isReading l G v w sg p3 (A0 := A3) a3) (va_cwS 1 hts gX10_come_X10_isReading rfl rfl rfl (by decide +kernel) ⟨by rw [hR]; exact Nat.le_of_ble_eq_true rfl, by rw [hR]; exact Nat.le_of_ble_eq_true rfl⟩) ⟨gPre_blind, gS_pre C h _⟩ rfl rfl hl.1 rfl (lv_room (Nat.le_of_ble_eq_true rfl)) dX10_come_15 ⟨Nat.zero_le _, Nat.zero_le _⟩) h (fun r_16 v_18 w_19 g_20 H locs p_17 h => ?_)
      obtain ⟨p_17, rfl, rfl, rfl⟩ := p_17
      rcases p_17 with ⟨rfl, t_21⟩ | ⟨rfl, t_21⟩
      · skip
        refine lv_if_ne (tgt := 23) hx hb dX10_come_18 (by decide) (fun _ => ?_) (fun c_22 => absurd c_22 (by decide))
        refine lv_aload_n hx hb dX10_come_23 rfl (lv_at hl 0 rfl) ?_
        refine g_geti (ci := 10) (x := v 106 31) C h 106 (by decide) rfl rfl hi10 31 (by decide) f254 rfl rfl rfl dX10_come_24 ?_
        refine lv_if_eq (tgt := 33) hx hb dX10_come_27 (by decide) (fun c_23 => ?_) (fun c_23 => ?_)
        · have j_24 : (v 106 31).toInt = 0 := (i_eq rfl (by decide)).mp c_23
          have hs0 := mS_0 Is (by omega)
          refine lv_aload_n hx hb dX10_come_33 rfl (lv_at hl 0 rfl) ?_
          refine g_get (ci := 10) (x := .ref (G.2.2 (127))) C h 106 (by decide) rfl rfl hi10 34 (by decide) f89 rfl rfl dX10_come_34 ?_
          refine lv_iconst (v := 3) hx hb dX10_come_37 (by decide) ?_
          refine lv_aload_n hx hb dX10_come_38 rfl (lv_at hl 0 rfl) ?_
          refine g_geti (ci := 10) (x := v 106 32) C h 106 (by decide) rfl rfl hi10 32 (by decide) f257 rfl rfl rfl dX10_come_39 ?_
          refine lv_imul hx hb dX10_come_42 ?_
          refine lv_topi (fun x_25 e_26 => ?_)
          have i_27 : x_25.toInt = 3 * (v 106 32).toInt := ia_mul e_26 (by decide) rfl (by omega) (by omega)
          refine lv_iload_n hx hb dX10_come_43 rfl (lv_at hl 1 rfl) ?_
          refine g_iast C h 127 (by decide) (by decide) (n := 300) (by decide) (vp_of i_27 (by omega) (by omega)) dX10_come_44 (fun H locs h => ?_)
          obtain ⟨v_28, hv_28⟩ : ∃ z, z = gu v 127 ((x_25 : Int32).toNatClampNeg) p1 := ⟨_, rfl⟩
          have h : gS (gA G) G s v_28 w sg H locs := by rw [hv_28]; exact h
          have u_29 : mI v_28 := by rw [hv_28]; exact mi
          have u_30 : fM 127 128 27 34 v w v_28 w := by rw [hv_28]; exact (fM_v fM_rf (by decide))
          refine lv_aload_n hx hb dX10_come_45 rfl (lv_at hl 0 rfl) ?_
          refine g_get (ci := 10) (x := .ref (G.2.2 (127))) C h 106 (by decide) rfl rfl hi10 34 (by decide) f89 rfl rfl dX10_come_46 ?_
          refine lv_iconst (v := 3) hx hb dX10_come_49 (by decide) ?_
          refine lv_aload_n hx hb dX10_come_50 rfl (lv_at hl 0 rfl) ?_
          refine g_geti (ci := 10) (x := v 106 32) C h 106 (by decide) rfl rfl hi10 32 (by decide) f257 rfl rfl (by rw [hv_28] <;> rfl) dX10_come_51 ?_
          refine lv_imul hx hb dX10_come_54 ?_
          refine lv_topi (fun x_31 e_32 => ?_)
          have i_33 : x_31.toInt = 3 * (v 106 32).toInt := ia_mul e_32 (by decide) rfl (by omega) (by omega)
          refine lv_iconst (v := 1) hx hb dX10_come_55 (by decide) ?_
          refine lv_iadd hx hb dX10_come_56 ?_
          refine lv_topi (fun x_34 e_35 => ?_)
          have i_36 : x_34.toInt = (3 * (v 106 32).toInt) + 1 := ia_add e_35 i_33 (by decide) (by omega) (by omega)
          refine lv_iload_n hx hb dX10_come_57 rfl (lv_at hl 2 rfl) ?_
          refine g_iast C h 127 (by decide) (by decide) (n := 300) (by decide) (vp_of i_36 (by omega) (by omega)) dX10_come_58 (fun H locs h => ?_)
          obtain ⟨v_37, hv_37⟩ : ∃ z, z = gu v_28 127 ((x_34 : Int32).toNatClampNeg) p2 := ⟨_, rfl⟩
          have h : gS (gA G) G s v_37 w sg H locs := by rw [hv_37]; exact h
          have u_38 : mI v_37 := by rw [hv_37]; exact u_29
          have u_39 : fM 127 128 27 34 v w v_37 w := by rw [hv_37]; exact (fM_v u_30 (by decide))
          refine lv_aload_n hx hb dX10_come_59 rfl (lv_at hl 0 rfl) ?_
          refine g_get (ci := 10) (x := .ref (G.2.2 (127))) C h 106 (by decide) rfl rfl hi10 34 (by decide) f89 rfl rfl dX10_come_60 ?_
          refine lv_iconst (v := 3) hx hb dX10_come_63 (by decide) ?_
          refine lv_aload_n hx hb dX10_come_64 rfl (lv_at hl 0 rfl) ?_
          refine g_geti (ci := 10) (x := v 106 32) C h 106 (by decide) rfl rfl hi10 32 (by decide) f257 rfl rfl (by rw [hv_37, hv_28] <;> rfl) dX10_come_65 ?_
          refine lv_imul hx hb dX10_come_68 ?_
          refine lv_topi (fun x_40 e_41 => ?_)
          have i_42 : x_40.toInt = 3 * (v 106 32).toInt := ia_mul e_41 (by decide) rfl (by omega) (by omega)
          refine lv_iconst (v := 2) hx hb dX10_come_69 (by decide) ?_
          refine lv_iadd hx hb dX10_come_70 ?_
          refine lv_topi (fun x_43 e_44 => ?_)
          have i_45 : x_43.toInt = (3 * (v 106 32).toInt) + 2 := ia_add e_44 i_42 (by decide) (by omega) (by omega)
          refine lv_iload_n hx hb dX10_come_71 rfl (lv_at hl 3 rfl) ?_
          refine g_iast C h 127 (by decide) (by decide) (n := 300) (by decide) (vp_of i_45 (by omega) (by omega)) dX10_come_72 (fun H locs h => ?_)
          obtain ⟨v_46, hv_46⟩ : ∃ z, z = gu v_37 127 ((x_43 : Int32).toNatClampNeg) p3 := ⟨_, rfl⟩
          have h : gS (gA G) G s v_46 w sg H locs := by rw [hv_46]; exact h
          have u_47 : mI v_46 := by rw [hv_46]; exact u_38
          have u_48 : fM 127 128 27 34 v w v_46 w := by rw [hv_46]; exact (fM_v u_39 (by decide))
          refine lv_aload_n hx hb dX10_come_73 rfl (lv_at hl 0 rfl) ?_
          refine lv_dup hx hb dX10_come_74 rfl ?_
          refine g_geti (ci := 10) (x := v 106 32) C h 106 (by decide) rfl rfl hi10 32 (by decide) f257 rfl rfl (by rw [hv_46, hv_37, hv_28] <;> rfl) dX10_come_75 ?_
          refine lv_iconst (v := 1) hx hb dX10_come_78 (by decide) ?_
          refine lv_iadd hx hb dX10_come_79 ?_
          refine lv_topi (fun x_49 e_50 => ?_)
          have i_51 : x_49.toInt = (v 106 32).toInt + 1 := ia_add e_50 rfl (by decide) (by omega) (by omega)
          refine g_put (ci := 10) (x := x_49) (ty := .int) C h 106 (by decide) rfl rfl hi10 tyX10 tyX10_ok nmX10 32 (by decide) f257 rfl rfl (by decide +kernel) rfl rfl (Nat.le_of_ble_eq_true rfl) rfl dX10_come_80 (fun H locs h => ?_)
          obtain ⟨v_52, hv_52⟩ : ∃ z, z = gu v_46 106 32 x_49 := ⟨_, rfl⟩
          have h : gS (gA G) G s v_52 w sg H locs := by rw [hv_52]; exact h
          have u_53 : fM 127 128 27 34 v w v_52 w := by rw [hv_52]; exact (fM_f u_48 (by decide))
          refine lv_iconst (v := 2) hx hb dX10_come_83 (by decide) ?_
          have J86_55 : ∀ (n : Nat) (y_54 : Int32) (v_55 : Nat → Nat → Int32) (H : Heap) (locs : List Loc) (ls : Array Slot), ((y_54).toInt + 1).toNat < n → (fM 127 128 27 34 v w v_55 w) → (-1 ≤ (y_54).toInt ∧ (y_54).toInt ≤ 2) → (mB v_55) → (1 ≤ (v_55 106 32).toInt ∧ (v_55 106 32).toInt ≤ (v_55 106 29).toInt) → (v_55 = gu (cmB v p1 p2 p3) 106 33 (v_55 106 33)) → (lst3 (fun j => farM (v 106 30) (sel3 j p1 p2 p3)) (v 106 33).toInt (y_54).toInt (v_55 106 33).toInt) → gS (gA G) G s v_55 w sg H locs → lv_has ls 6 [(0, .ref (G.2.2 (106))), (1, .int (p1)), (2, .int (p2)), (3, .int (p3)), (4, .int (y_54))] → W p l e R s m args below meth c H locs 0 0 Q (F0 m 86 ls []) := by
            intro n
            induction n with
            | zero => intro y_54 v_55 H locs ls hm; exact absurd hm (Nat.not_lt_zero _)
            | succ n ih86 =>
              intro y_54 v_55 H locs ls hm u_56 f_57 f_58 f_59 f_60 f_61 h hl
              have o_b := f_58
              obtain ⟨I7, I10, I18, I22, I27, I29, I32, I35, Ia, Iar, Isz, Ian⟩ := o_b
              have hL30 : (v_55 106 30).toInt = (v 106 30).toInt := by rw [f_60, gu_n (by decide), cmB_o (by decide)]
              refine lv_iload hx hb dX10_come_86 (lv_at hl 4 rfl) ?_
              refine lv_if_lt (tgt := 147) hx hb dX10_come_88 (by decide) (fun c_62 => ?_) (fun c_62 => ?_)
              · have j_63 : (y_54).toInt < 0 := (i_lt rfl (by decide)).mp c_62
                have hfb := lst3_e f_61 (by omega)
                refine lv_aload_n hx hb dX10_come_147 rfl (lv_at hl 0 rfl) ?_
                refine lv_aload_n hx hb dX10_come_148 rfl (lv_at hl 0 rfl) ?_
                refine g_geti (ci := 10) (x := v_55 106 33) C h 106 (by decide) rfl rfl hi10 33 (by decide) f86 rfl rfl rfl dX10_come_149 ?_
                refine lv_bipush (v := (-4)) hx hb dX10_come_152 (by decide) ?_
                have J188_64 : ∀ (y_64 : Int32) (H : Heap) (locs : List Loc) (ls : Array Slot), (((y_64).toInt = 0 → ((v_55 106 32) : Int32).toInt < ((v_55 106 29) : Int32).toInt) ∧ ((y_64).toInt = 1 → ((v_55 106 27) : Int32).toInt ≤ ((v_55 106 32) : Int32).toInt)) → (stS (v_55 106 33) y_64 (stM v_55) (v_55 106 32).toInt (v_55 106 29).toInt) → gS (gA G) G s v_55 w sg H locs → lv_has ls 6 [(0, .ref (G.2.2 (106))), (1, .int (p1)), (2, .int (p2)), (3, .int (p3)), (4, .int (y_54))] → W p l e R s m args below meth c H locs 0 0 Q (F0 m 188 ls [.int (y_64), .ref (G.2.2 (106))]) := by
                  intro y_64 H locs ls f_65 f_66 h hl
                  refine g_put (ci := 10) (x := y_64) (ty := .int) C h 106 (by decide) rfl rfl hi10 tyX10 tyX10_ok nmX10 31 (by decide) f254 rfl rfl (by decide +kernel) rfl rfl (Nat.le_of_ble_eq_true rfl) rfl dX10_come_188 (fun H locs h => ?_)
                  obtain ⟨v_67, hv_67⟩ : ∃ z, z = gu v_55 106 31 y_64 := ⟨_, rfl⟩
                  have h : gS (gA G) G s v_67 w sg H locs := by rw [hv_67]; exact h
                  have u_68 : fM 127 128 27 34 v w v_67 w := by rw [hv_67]; exact (fM_f u_56 (by decide))
                  refine lv_aload_n hx hb dX10_come_191 rfl (lv_at hl 0 rfl) ?_
                  refine g_geti (ci := 10) (x := y_64) C h 106 (by decide) rfl rfl hi10 31 (by decide) f254 rfl rfl (by rw [hv_67] <;> rfl) dX10_come_192 ?_
                  exact ret y_64 v_67 w sg _ _ _ _ dX10_come_195 h ⟨⟨(by rw [hv_67]; exact ⟨I7, I10, I18, I22, I27, I29, I32, (show ((y_64 : Int32).toInt = 0 → ((v_55 106 32) : Int32).toInt < ((v_55 106 29) : Int32).toInt) ∧ ((y_64 : Int32).toInt = 1 → ((v_55 106 27) : Int32).toInt ≤ ((v_55 106 32) : Int32).toInt) by omega), I35, Ia, Iar, Isz, Ian⟩), u_68, Or.inr (Or.inr ⟨by unfold rF25; omega, by omega, _, _, _, f_60, hfb, f_66, rfl, hv_67⟩)⟩, rfl, rfl⟩
                refine lv_icmp_eq (tgt := 161) hx hb dX10_come_154 (by decide) (fun c_69 => ?_) (fun c_69 => ?_)
                · have j_70 : (v_55 106 33).toInt = (-4) := (i_eq rfl (by decide)).mp c_69
                  refine lv_aload_n hx hb dX10_come_161 rfl (lv_at hl 0 rfl) ?_
                  refine g_calli C (va_runV (As := []) (rest := [.ref (G.2.2 (106))]) C.1 (c_X10_isSettled l G v_55 w sg  (by omega) (by omega)) (cwV 0 hts gX10_come_X10_isSettled rfl rfl rfl (by decide +kernel) ⟨by rw [hR]; exact Nat.le_of_ble_eq_true rfl, by rw [hR]; exact Nat.le_of_ble_eq_true rfl⟩) ⟨gPre_blind, g_recv C h 106 (by decide) (ci := 10) rfl rfl, gS_pre C h _⟩ rfl rfl hl.1 rfl (lv_room (Nat.le_of_ble_eq_true rfl)) dX10_come_162 ⟨Nat.zero_le _, Nat.zero_le _⟩) h (fun r_71 v_73 w_74 g_75 H locs p_72 h => ?_)
                  obtain ⟨p_72, rfl, rfl, rfl⟩ := p_72
                  rcases p_72 with ⟨rfl, t_76⟩ | ⟨rfl, t_76⟩
                  · skip
                    refine lv_if_eq (tgt := 172) hx hb dX10_come_165 (by decide) (fun c_77 => absurd c_77 (by decide)) (fun _ => ?_)
                    refine lv_iconst (v := 1) hx hb dX10_come_168 (by decide) ?_
                    refine lv_goto (tgt := 188) hx hb dX10_come_169 (by decide) ?_
                    exact J188_64 1 _ _ _ (by first | omega | exact ⟨fun q => absurd q (by decide), fun _ => (show stM v_55 by assumption).1⟩) (by first | exact Or.inl ⟨by omega, rfl⟩ | exact Or.inr (Or.inl ⟨by omega, by assumption, rfl⟩) | exact Or.inr (Or.inr (Or.inl ⟨by omega, by assumption, by omega, rfl⟩)) | exact Or.inr (Or.inr (Or.inr ⟨by omega, by assumption, by omega, rfl⟩))) h (lv_sub hl [0, 1, 2, 3, 4] rfl)
                  · skip
                    refine lv_if_eq (tgt := 172) hx hb dX10_come_165 (by decide) (fun _ => ?_) (fun c_78 => absurd (by decide) c_78)
                    refine lv_aload_n hx hb dX10_come_172 rfl (lv_at hl 0 rfl) ?_
                    refine g_geti (ci := 10) (x := v_55 106 32) C h 106 (by decide) rfl rfl hi10 32 (by decide) f257 rfl rfl rfl dX10_come_173 ?_
                    refine lv_aload_n hx hb dX10_come_176 rfl (lv_at hl 0 rfl) ?_
                    refine g_geti (ci := 10) (x := v_55 106 29) C h 106 (by decide) rfl rfl hi10 29 (by decide) f79 rfl rfl rfl dX10_come_177 ?_
                    refine lv_icmp_ne (tgt := 187) hx hb dX10_come_180 (by decide) (fun c_79 => ?_) (fun c_79 => ?_)
                    · have j_80 : ¬ ((v_55 106 32).toInt = (v_55 106 29).toInt) := fun q => c_79 ((i_eq rfl rfl).mpr q)
                      refine lv_iconst (v := 0) hx hb dX10_come_187 (by decide) ?_
                      exact J188_64 0 _ _ _ (by first | omega | exact ⟨fun q => absurd q (by decide), fun _ => (show stM v_55 by assumption).1⟩) (by first | exact Or.inl ⟨by omega, rfl⟩ | exact Or.inr (Or.inl ⟨by omega, by assumption, rfl⟩) | exact Or.inr (Or.inr (Or.inl ⟨by omega, by assumption, by omega, rfl⟩)) | exact Or.inr (Or.inr (Or.inr ⟨by omega, by assumption, by omega, rfl⟩))) h (lv_sub hl [0, 1, 2, 3, 4] rfl)
                    · have j_80 : (v_55 106 32).toInt = (v_55 106 29).toInt := (i_eq rfl rfl).mp c_79
                      refine lv_iconst (v := 3) hx hb dX10_come_183 (by decide) ?_
                      refine lv_goto (tgt := 188) hx hb dX10_come_184 (by decide) ?_
                      exact J188_64 3 _ _ _ (by first | omega | exact ⟨fun q => absurd q (by decide), fun _ => (show stM v_55 by assumption).1⟩) (by first | exact Or.inl ⟨by omega, rfl⟩ | exact Or.inr (Or.inl ⟨by omega, by assumption, rfl⟩) | exact Or.inr (Or.inr (Or.inl ⟨by omega, by assumption, by omega, rfl⟩)) | exact Or.inr (Or.inr (Or.inr ⟨by omega, by assumption, by omega, rfl⟩))) h (lv_sub hl [0, 1, 2, 3, 4] rfl)
                · have j_70 : ¬ ((v_55 106 33).toInt = (-4)) := fun q => c_69 ((i_eq rfl (by decide)).mpr q)
                  refine lv_iconst (v := 2) hx hb dX10_come_157 (by decide) ?_
                  refine lv_goto (tgt := 188) hx hb dX10_come_158 (by decide) ?_
                  exact J188_64 2 _ _ _ (by first | omega | exact ⟨fun q => absurd q (by decide), fun _ => (show stM v_55 by assumption).1⟩) (by first | exact Or.inl ⟨by omega, rfl⟩ | exact Or.inr (Or.inl ⟨by omega, by assumption, rfl⟩) | exact Or.inr (Or.inr (Or.inl ⟨by omega, by assumption, by omega, rfl⟩)) | exact Or.inr (Or.inr (Or.inr ⟨by omega, by assumption, by omega, rfl⟩))) h (lv_sub hl [0, 1, 2, 3, 4] rfl)
              · have j_63 : ¬ ((y_54).toInt < 0) := fun q => c_62 ((i_lt rfl (by decide)).mpr q)
                refine lv_aload_n hx hb dX10_come_91 rfl (lv_at hl 0 rfl) ?_
                refine g_get (ci := 10) (x := .ref (G.2.2 (127))) C h 106 (by decide) rfl rfl hi10 34 (by decide) f89 rfl rfl dX10_come_92 ?_
                refine lv_iconst (v := 3) hx hb dX10_come_95 (by decide) ?_
                refine lv_aload_n hx hb dX10_come_96 rfl (lv_at hl 0 rfl) ?_
                refine g_geti (ci := 10) (x := v_55 106 32) C h 106 (by decide) rfl rfl hi10 32 (by decide) f257 rfl rfl rfl dX10_come_97 ?_
                refine lv_imul hx hb dX10_come_100 ?_
                refine lv_topi (fun x_81 e_82 => ?_)
                have i_83 : x_81.toInt = 3 * (v_55 106 32).toInt := ia_mul e_82 (by decide) rfl (by omega) (by omega)
                refine lv_iconst (v := 3) hx hb dX10_come_101 (by decide) ?_
                refine lv_isub hx hb dX10_come_102 ?_
                refine lv_topi (fun x_84 e_85 => ?_)
                have i_86 : x_84.toInt = (3 * (v_55 106 32).toInt) - 3 := ia_sub e_85 i_83 (by decide) (by omega) (by omega)
                refine lv_iload hx hb dX10_come_103 (lv_at hl 4 rfl) ?_
                refine lv_iadd hx hb dX10_come_105 ?_
                refine lv_topi (fun x_87 e_88 => ?_)
                have i_89 : x_87.toInt = ((3 * (v_55 106 32).toInt) - 3) + (y_54).toInt := ia_add e_88 i_86 rfl (by omega) (by omega)
                refine g_iald C h 127 (by decide) (by decide) (n := 300) (by decide) (vp_of i_89 (by omega) (by omega)) dX10_come_106 ?_
                refine lv_topi (fun x_90 e_91 => ?_)
                have hx5 := come_rd f_60 e_91 i_89 (by omega) (by omega)
                refine lv_istore (lv' := [(5, .int (x_90)), (0, .ref (G.2.2 (106))), (1, .int (p1)), (2, .int (p2)), (3, .int (p3)), (4, .int (y_54))]) hx hb dX10_come_107 hl (by decide) rfl (fun ls hl => ?_)
                refine lv_aload_n hx hb dX10_come_109 rfl (lv_at hl 1 rfl) ?_
                refine lv_iload hx hb dX10_come_110 (lv_at hl 0 rfl) ?_
                refine lv_aload_n hx hb dX10_come_112 rfl (lv_at hl 1 rfl) ?_
                refine g_geti (ci := 10) (x := v_55 106 30) C h 106 (by decide) rfl rfl hi10 30 (by decide) f83 rfl rfl rfl dX10_come_113 ?_
                have J138_92 : ∀ (y_92 : Int32) (H : Heap) (locs : List Loc) (ls : Array Slot), (lst3 (fun j => farM (v 106 30) (sel3 j p1 p2 p3)) (v 106 33).toInt ((y_54 : Int32).toInt - 1) (y_92).toInt) → gS (gA G) G s v_55 w sg H locs → lv_has ls 6 [(0, .ref (G.2.2 (106))), (1, .int (p1)), (2, .int (p2)), (3, .int (p3)), (4, .int (y_54)), (5, .int (x_90))] → W p l e R s m args below meth c H locs 0 0 Q (F0 m 138 ls [.int (y_92), .ref (G.2.2 (106))]) := by
                  intro y_92 H locs ls f_93 h hl
                  refine g_put (ci := 10) (x := y_92) (ty := .int) C h 106 (by decide) rfl rfl hi10 tyX10 tyX10_ok nmX10 33 (by decide) f86 rfl rfl (by decide +kernel) rfl rfl (Nat.le_of_ble_eq_true rfl) rfl dX10_come_138 (fun H locs h => ?_)
                  obtain ⟨v_94, hv_94⟩ : ∃ z, z = gu v_55 106 33 y_92 := ⟨_, rfl⟩
                  have h : gS (gA G) G s v_94 w sg H locs := by rw [hv_94]; exact h
                  have u_95 : fM 127 128 27 34 v w v_94 w := by rw [hv_94]; exact (fM_f u_56 (by decide))
                  obtain ⟨x_96, e_97⟩ : ∃ y : Int32, y = y_54 + (-1) := ⟨_, rfl⟩
                  have i_98 : x_96.toInt = (y_54).toInt + (-1) := ia_add e_97 rfl (by decide) (by omega) (by omega)
                  refine lv_iinc (v := x_96) (lv' := [(4, .int (x_96)), (0, .ref (G.2.2 (106))), (1, .int (p1)), (2, .int (p2)), (3, .int (p3)), (5, .int (x_90))]) hx hb dX10_come_141 hl (k := 4) rfl (by rw [e_97]; rfl) (by decide) rfl (fun ls hl => ?_)
                  refine lv_goto (tgt := 86) hx hb dX10_come_144 (by decide) ?_
                  exact ih86 x_96 v_94 _ _ _ (by omega) u_95 (by omega) (by rw [hv_94]; exact f_58) (by rw [hv_94]; exact (show 1 ≤ ((v_55 106 32) : Int32).toInt ∧ ((v_55 106 32) : Int32).toInt ≤ ((v_55 106 29) : Int32).toInt by omega)) (gu_again f_60 hv_94) (lst3_c (by rw [hv_94, gu_y]; exact f_93) (by omega)) h (lv_sub hl [1, 2, 3, 4, 0] rfl)
                have J129_98 : ∀ (H : Heap) (locs : List Loc) (ls : Array Slot), (farM (v 106 30) (sel3 (y_54 : Int32).toInt.toNat p1 p2 p3)) → gS (gA G) G s v_55 w sg H locs → lv_has ls 6 [(0, .ref (G.2.2 (106))), (1, .int (p1)), (2, .int (p2)), (3, .int (p3)), (4, .int (y_54)), (5, .int (x_90))] → W p l e R s m args below meth c H locs 0 0 Q (F0 m 129 ls [.ref (G.2.2 (106))]) := by
                  intro  H locs ls f_99 h hl
                  refine lv_iload hx hb dX10_come_129 (lv_at hl 4 rfl) ?_
                  refine lv_goto (tgt := 138) hx hb dX10_come_131 (by decide) ?_
                  exact J138_92 y_54 _ _ _ (by first | exact lst3_y (by omega) (by omega) rfl f_99 | exact lst3_n f_61 (by omega) rfl (by show ¬ farM _ _; rw [← hx5]; unfold farM; rw [← hng]; omega)) h (lv_sub hl [0, 1, 2, 3, 4, 5] rfl)
                refine lv_icmp_gt (tgt := 129) hx hb dX10_come_116 (by decide) (fun c_100 => ?_) (fun c_100 => ?_)
                · have j_101 : (v_55 106 30).toInt < (x_90).toInt := (i_lt rfl rfl).mp c_100
                  exact J129_98  _ _ _ (by rw [← hx5]; unfold farM; first | exact Or.inl (by omega) | exact Or.inr (by rw [← hng]; omega)) h (lv_sub hl [1, 2, 3, 4, 5, 0] rfl)
                · have j_101 : ¬ ((v_55 106 30).toInt < (x_90).toInt) := fun q => c_100 ((i_lt rfl rfl).mpr q)
                  refine lv_iload hx hb dX10_come_119 (lv_at hl 0 rfl) ?_
                  refine lv_ineg hx hb dX10_come_121 ?_
                  refine lv_topi (fun x_102 e_103 => ?_)
                  have hng := e_103
                  refine lv_aload_n hx hb dX10_come_122 rfl (lv_at hl 1 rfl) ?_
                  refine g_geti (ci := 10) (x := v_55 106 30) C h 106 (by decide) rfl rfl hi10 30 (by decide) f83 rfl rfl rfl dX10_come_123 ?_
                  refine lv_icmp_le (tgt := 134) hx hb dX10_come_126 (by decide) (fun c_104 => ?_) (fun c_104 => ?_)
                  · have j_105 : (x_102).toInt ≤ (v_55 106 30).toInt := (i_le rfl rfl).mp c_104
                    refine lv_aload_n hx hb dX10_come_134 rfl (lv_at hl 1 rfl) ?_
                    refine g_geti (ci := 10) (x := v_55 106 33) C h 106 (by decide) rfl rfl hi10 33 (by decide) f86 rfl rfl rfl dX10_come_135 ?_
                    exact J138_92 (v_55 106 33) _ _ _ (by first | exact lst3_y (by omega) (by omega) rfl {F129_0} | exact lst3_n f_61 (by omega) rfl (by show ¬ farM _ _; rw [← hx5]; unfold farM; rw [← hng]; omega)) h (lv_sub hl [1, 2, 3, 4, 5, 0] rfl)
                  · have j_105 : ¬ ((x_102).toInt ≤ (v_55 106 30).toInt) := fun q => c_104 ((i_le rfl rfl).mpr q)
                    exact J129_98  _ _ _ (by rw [← hx5]; unfold farM; first | exact Or.inl (by omega) | exact Or.inr (by rw [← hng]; omega)) h (lv_sub hl [1, 2, 3, 4, 5, 0] rfl)
          refine lv_istore (lv' := [(4, .int (2)), (0, .ref (G.2.2 (106))), (1, .int (p1)), (2, .int (p2)), (3, .int (p3))]) hx hb dX10_come_84 hl (by decide) rfl (fun ls hl => ?_)
          exact J86_55 _ 2 v_52 _ _ _ (Nat.lt_succ_self _) u_53 (by omega) (by rw [hv_52, hv_46, hv_37, hv_28]; exact ⟨I7, I10, I18, I22, I27, I29, (show 0 ≤ (x_49 : Int32).toInt ∧ (x_49 : Int32).toInt ≤ 100 by omega), I35, Ia, Iar, Isz, Ian⟩) (by rw [hv_52, hv_46, hv_37, hv_28]; exact (show 1 ≤ (x_49 : Int32).toInt ∧ (x_49 : Int32).toInt ≤ ((v 106 29) : Int32).toInt by omega)) (gu_id2 (B := cmB v p1 p2 p3) (by rw [hv_52, hv_46, hv_37, hv_28] <;> exact (gu_cg (gu_cg (gu_cg (gu_cg rfl rfl ((cl_nat i_27).trans (by omega)) rfl) rfl ((cl_nat i_36).trans (by omega)) rfl) rfl ((cl_nat i_45).trans (by omega)) rfl) rfl rfl e_50))) (lst3_0 (by decide) (by rw [hv_52, hv_46, hv_37, hv_28]; rfl)) h (lv_sub hl [1, 2, 3, 4, 0] rfl)
        · have j_24 : ¬ ((v 106 31).toInt = 0) := fun q => c_23 ((i_eq rfl (by decide)).mpr q)
          refine lv_bipush (v := (-2)) hx hb dX10_come_30 (by decide) ?_
          exact ret (-2) v w sg _ _ _ _ dX10_come_32 h ⟨⟨mi, fM_rf, Or.inr (Or.inl ⟨by unfold rF25; omega, by omega, rfl, rfl⟩)⟩, rfl, rfl⟩
      · skip
        refine lv_if_ne (tgt := 23) hx hb dX10_come_18 (by decide) (fun c_106 => absurd (by decide) c_106) (fun _ => ?_)
        refine lv_iconst (v := (-1)) hx hb dX10_come_21 (by decide) ?_
        exact ret (-1) v w sg _ _ _ _ dX10_come_22 h ⟨⟨mi, fM_rf, Or.inl ⟨by unfold rF25; omega, rfl, rfl⟩⟩, rfl, rfl⟩
    · skip
      refine lv_if_eq (tgt := 21) hx hb dX10_come_11 (by decide) (fun _ => ?_) (fun c_107 => absurd (by decide) c_107)
      refine lv_iconst (v := (-1)) hx hb dX10_come_21 (by decide) ?_
      exact ret (-1) v w sg _ _ _ _ dX10_come_22 h ⟨⟨mi, fM_rf, Or.inl ⟨by unfold rF25; omega, rfl, rfl⟩⟩, rfl, rfl⟩
  · skip
    refine lv_if_eq (tgt := 21) hx hb dX10_come_4 (by decide) (fun _ => ?_) (fun c_108 => absurd (by decide) c_108)
    refine lv_iconst (v := (-1)) hx hb dX10_come_21 (by decide) ?_
    exact ret (-1) v w sg _ _ _ _ dX10_come_22 h ⟨⟨mi, fM_rf, Or.inl ⟨by unfold rF25; omega, rfl, rfl⟩⟩, rfl, rfl⟩

set_option maxHeartbeats 4000000 in
set_option maxRecDepth 100000 in
theorem c_X10_settled (l : Launch) (G : gG) (v : Nat → Nat → Int32) (w : Nat → Nat → Int64) (sg : Nat → Nat) (p1 : Int32) {A1 : Int} (a1 : p1.toInt = A1) (mi : mI v) : Met l yX10_settled wsX10_settled ({ frames := 1, cells := 0, slots := 0, locals := 25 }) (gPre G v w sg [.ref (G.2.2 (106)), .int (p1)]) (gQi G (fun r v' w' sg' => ((3 ≤ A1 ∧ A1 ≤ 5 ∧ (v 106 31).toInt = 1 ∧ r = sumN (gM v (A1 - 3)) (v 106 27).toInt.toNat) ∨ (3 ≤ A1 ∧ A1 ≤ 5 ∧ (v 106 31).toInt ≠ 1 ∧ r = 0) ∨ (A1 = 0 ∧ r = v 106 31) ∨ (A1 = 1 ∧ r = v 106 32) ∨ (A1 = 2 ∧ r = v 106 33) ∨ ((A1 < 0 ∨ 5 < A1) ∧ r = -1)) ∧ v = v' ∧ w = w' ∧ sg = sg')) 0 0 (gA G) := by
  refine gM_ofi (cc := cX10_settled) (maxL := 4) (by decide) rfl (Nat.le_of_ble_eq_true rfl) ?_
  intro p e R s m args below meth c Q ls C hR ret h hl
  have hx := C.1.1
  have hb := C.1.2.1
  have hown := C.1.2.2.2.1
  have hts := C.1.2.2.2.2
  have hl : lv_has ls 4 [(0, .ref (G.2.2 (106))), (1, .int (p1))] := hl
  have q1 := i_rng p1; rw [a1] at q1
  have z_m1 : ((-1) : Int32).toInt = (-1) := by decide
  have z_0 : (0 : Int32).toInt = 0 := by decide
  have z_1 : (1 : Int32).toInt = 1 := by decide
  have z_2 : (2 : Int32).toInt = 2 := by decide
  have z_3 : (3 : Int32).toInt = 3 := by decide
  have k271 : (Cond.constantLong RX10 271 (3)).before args s = true := hts _ (by decide +kernel)
  have k128 : (Cond.constantLong RX10 128 (5)).before args s = true := hts _ (by decide +kernel)
  have f257 : Cond.fieldLink RX10 257 "WindHallModel" "came" "I" ∈ wsX10_settled := by decide +kernel
  have hi10 : ∀ x ∈ u_ws RX10 TX10 42, x ∈ wsX10_settled := fun x q => List.mem_cons_of_mem _ (List.mem_append_right _ q)
  have f72 : Cond.fieldLink RX10 72 "WindHallModel" "ruleN" "I" ∈ wsX10_settled := by decide +kernel
  have f254 : Cond.fieldLink RX10 254 "WindHallModel" "state" "I" ∈ wsX10_settled := by decide +kernel
  have f89 : Cond.fieldLink RX10 89 "WindHallModel" "rows" "[I" ∈ wsX10_settled := by decide +kernel
  have f86 : Cond.fieldLink RX10 86 "WindHallModel" "beyond" "I" ∈ wsX10_settled := by decide +kernel
  have o_1 := mi
  obtain ⟨I7, I10, I18, I22, I27, I29, I32, Is, I35, Ia, Iar, Isz, Ian⟩ := o_1
  refine lv_iload_n hx hb dX10_settled_0 rfl (lv_at hl 1 rfl) ?_
  refine lv_i2l (v := (p1 : Int32).toInt64) hx hb dX10_settled_1 rfl ?_
  refine lv_ldc2 hx hb hown k271 dX10_settled_2 ?_
  refine lv_ldc2 hx hb hown k128 dX10_settled_5 ?_
  refine g_calli C (va_runS (As := [.long ((p1 : Int32).toInt64), .long (3), .long (5)]) (rest := []) C.1 (c_X10_in l G v w sg ((p1 : Int32).toInt64) (A0 := A1) (il_of a1) (3) (A2 := 3) (by decide) (5) (A4 := 5) (by decide)) (va_cwS 3 hts gX10_settled_X10_in rfl rfl rfl (by decide +kernel) ⟨by rw [hR]; exact Nat.le_of_ble_eq_true rfl, by rw [hR]; exact Nat.le_of_ble_eq_true rfl⟩) ⟨gPre_blind, gS_pre C h _⟩ rfl rfl hl.1 rfl (lv_room (Nat.le_of_ble_eq_true rfl)) dX10_settled_8 ⟨Nat.zero_le _, Nat.zero_le _⟩) h (fun r_2 v_4 w_5 g_6 H locs p_3 h => ?_)
  obtain ⟨p_3, rfl, rfl, rfl⟩ := p_3
  rcases p_3 with ⟨rfl, t_7⟩ | ⟨rfl, t_7⟩
  · skip
    refine lv_if_eq (tgt := 65) hx hb dX10_settled_11 (by decide) (fun c_8 => absurd c_8 (by decide)) (fun _ => ?_)
    refine lv_iconst (v := 0) hx hb dX10_settled_14 (by decide) ?_
    refine lv_istore_n (lv' := [(2, .int (0)), (0, .ref (G.2.2 (106))), (1, .int (p1))]) hx hb dX10_settled_15 rfl hl (by decide) rfl (fun ls hl => ?_)
    refine lv_aload_n hx hb dX10_settled_16 rfl (lv_at hl 1 rfl) ?_
    refine g_geti (ci := 10) (x := v 106 32) C h 106 (by decide) rfl rfl hi10 32 (by decide) f257 rfl rfl rfl dX10_settled_17 ?_
    refine lv_aload_n hx hb dX10_settled_20 rfl (lv_at hl 1 rfl) ?_
    refine g_geti (ci := 10) (x := v 106 27) C h 106 (by decide) rfl rfl hi10 27 (by decide) f72 rfl rfl rfl dX10_settled_21 ?_
    refine lv_isub hx hb dX10_settled_24 ?_
    refine lv_topi (fun x_9 e_10 => ?_)
    have i_11 : x_9.toInt = (v 106 32).toInt - (v 106 27).toInt := ia_sub e_10 rfl rfl (by omega) (by omega)
    have J26_13 : ∀ (n : Nat) (y_12 : Int32) (y_13 : Int32) (H : Heap) (locs : List Loc) (ls : Array Slot), (((v 106 32) : Int32).toInt - (y_13).toInt).toNat < n → (((v 106 32) : Int32).toInt - ((v 106 27) : Int32).toInt ≤ (y_13).toInt ∧ (y_13).toInt ≤ ((v 106 32) : Int32).toInt) → (y_12 = sumN (gM v (A1 - 3)) ((y_13).toInt - ((v 106 32).toInt - (v 106 27).toInt)).toNat) → ((v 106 31).toInt = 1 ∨ (y_13).toInt = ((v 106 32).toInt - (v 106 27).toInt)) → gS (gA G) G s v w sg H locs → lv_has ls 4 [(0, .ref (G.2.2 (106))), (1, .int (p1)), (2, .int (y_12)), (3, .int (y_13))] → W p l e R s m args below meth c H locs 0 0 Q (F0 m 26 ls []) := by
      intro n
      induction n with
      | zero => intro y_12 y_13 H locs ls hm; exact absurd hm (Nat.not_lt_zero _)
      | succ n ih26 =>
        intro y_12 y_13 H locs ls hm f_14 f_15 f_16 h hl
        refine lv_iload_n hx hb dX10_settled_26 rfl (lv_at hl 3 rfl) ?_
        refine lv_aload_n hx hb dX10_settled_27 rfl (lv_at hl 0 rfl) ?_
        refine g_geti (ci := 10) (x := v 106 32) C h 106 (by decide) rfl rfl hi10 32 (by decide) f257 rfl rfl rfl dX10_settled_28 ?_
        refine lv_icmp_ge (tgt := 63) hx hb dX10_settled_31 (by decide) (fun c_17 => ?_) (fun c_17 => ?_)
        · have j_18 : (v 106 32).toInt ≤ (y_13).toInt := (i_le rfl rfl).mp c_17
          have hsm := f_15
          refine lv_iload_n hx hb dX10_settled_63 rfl (lv_at hl 2 rfl) ?_
          exact ret y_12 v w sg _ _ _ _ dX10_settled_64 h ⟨(by first | exact Or.inl ⟨by omega, by omega, by omega, by rw [hsm, show (y_13).toInt - ((v 106 32).toInt - (v 106 27).toInt) = (v 106 27).toInt by omega]⟩ | exact Or.inr (Or.inl ⟨by omega, by omega, by omega, by rw [hsm, show (y_13).toInt - ((v 106 32).toInt - (v 106 27).toInt) = 0 by omega]; rfl⟩)), rfl, rfl, rfl⟩
        · have j_18 : ¬ ((v 106 32).toInt ≤ (y_13).toInt) := fun q => c_17 ((i_le rfl rfl).mpr q)
          refine lv_aload_n hx hb dX10_settled_34 rfl (lv_at hl 0 rfl) ?_
          refine g_geti (ci := 10) (x := v 106 31) C h 106 (by decide) rfl rfl hi10 31 (by decide) f254 rfl rfl rfl dX10_settled_35 ?_
          refine lv_iconst (v := 1) hx hb dX10_settled_38 (by decide) ?_
          refine lv_icmp_ne (tgt := 63) hx hb dX10_settled_39 (by decide) (fun c_19 => ?_) (fun c_19 => ?_)
          · have j_20 : ¬ ((v 106 31).toInt = 1) := fun q => c_19 ((i_eq rfl (by decide)).mpr q)
            have hsm := f_15
            refine lv_iload_n hx hb dX10_settled_63 rfl (lv_at hl 2 rfl) ?_
            exact ret y_12 v w sg _ _ _ _ dX10_settled_64 h ⟨(by first | exact Or.inl ⟨by omega, by omega, by omega, by rw [hsm, show (y_13).toInt - ((v 106 32).toInt - (v 106 27).toInt) = (v 106 27).toInt by omega]⟩ | exact Or.inr (Or.inl ⟨by omega, by omega, by omega, by rw [hsm, show (y_13).toInt - ((v 106 32).toInt - (v 106 27).toInt) = 0 by omega]; rfl⟩)), rfl, rfl, rfl⟩
          · have j_20 : (v 106 31).toInt = 1 := (i_eq rfl (by decide)).mp c_19
            have hs1 := mS_1 Is (by omega)
            refine lv_iload_n hx hb dX10_settled_42 rfl (lv_at hl 2 rfl) ?_
            refine lv_aload_n hx hb dX10_settled_43 rfl (lv_at hl 0 rfl) ?_
            refine g_get (ci := 10) (x := .ref (G.2.2 (127))) C h 106 (by decide) rfl rfl hi10 34 (by decide) f89 rfl rfl dX10_settled_44 ?_
            refine lv_iconst (v := 3) hx hb dX10_settled_47 (by decide) ?_
            refine lv_iload_n hx hb dX10_settled_48 rfl (lv_at hl 3 rfl) ?_
            refine lv_imul hx hb dX10_settled_49 ?_
            refine lv_topi (fun x_21 e_22 => ?_)
            have i_23 : x_21.toInt = 3 * (y_13).toInt := ia_mul e_22 (by decide) rfl (by omega) (by omega)
            refine lv_iload_n hx hb dX10_settled_50 rfl (lv_at hl 1 rfl) ?_
            refine lv_iadd hx hb dX10_settled_51 ?_
            refine lv_topi (fun x_24 e_25 => ?_)
            have i_26 : x_24.toInt = (3 * (y_13).toInt) + A1 := ia_add e_25 i_23 a1 (by omega) (by omega)
            refine lv_iconst (v := 3) hx hb dX10_settled_52 (by decide) ?_
            refine lv_isub hx hb dX10_settled_53 ?_
            refine lv_topi (fun x_27 e_28 => ?_)
            have i_29 : x_27.toInt = ((3 * (y_13).toInt) + A1) - 3 := ia_sub e_28 i_26 (by decide) (by omega) (by omega)
            refine g_iald C h 127 (by decide) (by decide) (n := 300) (by decide) (vp_of i_29 (by omega) (by omega)) dX10_settled_54 ?_
            refine lv_topi (fun x_30 e_31 => ?_)
            have hx54 : x_30 = gM v (A1 - 3) ((y_13 : Int32).toInt - ((v 106 32).toInt - (v 106 27).toInt)).toNat := by rw [e_31, cl_nat i_29]; unfold gM; congr 1; omega
            refine lv_iadd hx hb dX10_settled_55 ?_
            refine lv_topi (fun x_32 e_33 => ?_)
            refine lv_istore_n (lv' := [(2, .int (x_32)), (0, .ref (G.2.2 (106))), (1, .int (p1)), (3, .int (y_13))]) hx hb dX10_settled_56 rfl hl (by decide) rfl (fun ls hl => ?_)
            obtain ⟨x_34, e_35⟩ : ∃ y : Int32, y = y_13 + 1 := ⟨_, rfl⟩
            have i_36 : x_34.toInt = (y_13).toInt + 1 := ia_add e_35 rfl (by decide) (by omega) (by omega)
            refine lv_iinc (v := x_34) (lv' := [(3, .int (x_34)), (2, .int (x_32)), (0, .ref (G.2.2 (106))), (1, .int (p1))]) hx hb dX10_settled_57 hl (k := 3) rfl (by rw [e_35]; rfl) (by decide) rfl (fun ls hl => ?_)
            refine lv_goto (tgt := 26) hx hb dX10_settled_60 (by decide) ?_
            exact ih26 x_32 x_34 _ _ _ (by omega) (by omega) (su_st f_15 (by omega) (by omega) e_33 hx54) (by omega) h (lv_sub hl [2, 3, 1, 0] rfl)
    refine lv_istore_n (lv' := [(3, .int (x_9)), (2, .int (0)), (0, .ref (G.2.2 (106))), (1, .int (p1))]) hx hb dX10_settled_25 rfl hl (by decide) rfl (fun ls hl => ?_)
    exact J26_13 _ 0 x_9 _ _ _ (Nat.lt_succ_self _) (by omega) (by rw [show (x_9 : Int32).toInt - ((v 106 32).toInt - (v 106 27).toInt) = 0 by omega]; rfl) (by omega) h (lv_sub hl [2, 3, 1, 0] rfl)
  · skip
    refine lv_if_eq (tgt := 65) hx hb dX10_settled_11 (by decide) (fun _ => ?_) (fun c_37 => absurd (by decide) c_37)
    refine lv_iload_n hx hb dX10_settled_65 rfl (lv_at hl 1 rfl) ?_
    refine lv_if_ne (tgt := 76) hx hb dX10_settled_66 (by decide) (fun c_38 => ?_) (fun c_38 => ?_)
    · have j_39 : ¬ (A1 = 0) := fun q => c_38 ((i_eq a1 (by decide)).mpr q)
      refine lv_iload_n hx hb dX10_settled_76 rfl (lv_at hl 1 rfl) ?_
      refine lv_iconst (v := 1) hx hb dX10_settled_77 (by decide) ?_
      refine lv_icmp_ne (tgt := 88) hx hb dX10_settled_78 (by decide) (fun c_40 => ?_) (fun c_40 => ?_)
      · have j_41 : ¬ (A1 = 1) := fun q => c_40 ((i_eq a1 (by decide)).mpr q)
        refine lv_iload_n hx hb dX10_settled_88 rfl (lv_at hl 1 rfl) ?_
        refine lv_iconst (v := 2) hx hb dX10_settled_89 (by decide) ?_
        refine lv_icmp_ne (tgt := 100) hx hb dX10_settled_90 (by decide) (fun c_42 => ?_) (fun c_42 => ?_)
        · have j_43 : ¬ (A1 = 2) := fun q => c_42 ((i_eq a1 (by decide)).mpr q)
          refine lv_iconst (v := (-1)) hx hb dX10_settled_100 (by decide) ?_
          exact ret (-1) v w sg _ _ _ _ dX10_settled_101 h ⟨Or.inr (Or.inr (Or.inr (Or.inr (Or.inr ⟨by omega, rfl⟩)))), rfl, rfl, rfl⟩
        · have j_43 : A1 = 2 := (i_eq a1 (by decide)).mp c_42
          refine lv_aload_n hx hb dX10_settled_93 rfl (lv_at hl 0 rfl) ?_
          refine g_geti (ci := 10) (x := v 106 33) C h 106 (by decide) rfl rfl hi10 33 (by decide) f86 rfl rfl rfl dX10_settled_94 ?_
          refine lv_goto (tgt := 101) hx hb dX10_settled_97 (by decide) ?_
          exact ret (v 106 33) v w sg _ _ _ _ dX10_settled_101 h ⟨Or.inr (Or.inr (Or.inr (Or.inr (Or.inl ⟨by omega, rfl⟩)))), rfl, rfl, rfl⟩
      · have j_41 : A1 = 1 := (i_eq a1 (by decide)).mp c_40
        refine lv_aload_n hx hb dX10_settled_81 rfl (lv_at hl 0 rfl) ?_
        refine g_geti (ci := 10) (x := v 106 32) C h 106 (by decide) rfl rfl hi10 32 (by decide) f257 rfl rfl rfl dX10_settled_82 ?_
        refine lv_goto (tgt := 101) hx hb dX10_settled_85 (by decide) ?_
        exact ret (v 106 32) v w sg _ _ _ _ dX10_settled_101 h ⟨Or.inr (Or.inr (Or.inr (Or.inl ⟨by omega, rfl⟩))), rfl, rfl, rfl⟩
    · have j_39 : A1 = 0 := (i_eq a1 (by decide)).mp c_38
      refine lv_aload_n hx hb dX10_settled_69 rfl (lv_at hl 0 rfl) ?_
      refine g_geti (ci := 10) (x := v 106 31) C h 106 (by decide) rfl rfl hi10 31 (by decide) f254 rfl rfl rfl dX10_settled_70 ?_
      refine lv_goto (tgt := 101) hx hb dX10_settled_73 (by decide) ?_
      exact ret (v 106 31) v w sg _ _ _ _ dX10_settled_101 h ⟨Or.inr (Or.inr (Or.inl ⟨by omega, rfl⟩)), rfl, rfl, rfl⟩
