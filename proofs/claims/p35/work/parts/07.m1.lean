set_option maxHeartbeats 4000000 in
set_option maxRecDepth 100000 in
theorem c_X10_in (l : Launch) (G : gG) (v : Nat → Nat → Int32) (w : Nat → Nat → Int64) (sg : Nat → Nat) (p0 : Int64) {A0 : Int} (a0 : p0.toInt = A0) (p2 : Int64) {A2 : Int} (a2 : p2.toInt = A2) (p4 : Int64) {A4 : Int} (a4 : p4.toInt = A4) : Met l yX10_in wsX10_in ({ frames := 0, cells := 0, slots := 0, locals := 0 }) (gPre G v w sg [.long (p0), .long (p2), .long (p4)]) (gQi G (fun r v' w' sg' => ((r = 1 ∧ A2 ≤ A0 ∧ A0 ≤ A4) ∨ (r = 0 ∧ (A0 < A2 ∨ A4 < A0))) ∧ v = v' ∧ w = w' ∧ sg = sg')) 0 0 (gA G) := by
  refine gM_ofz (cc := cX10_in) (maxL := 6) (by decide) rfl (Nat.le_of_ble_eq_true rfl) ?_
  intro p e R s m args below meth c Q ls C hR ret h hl
  have hx := C.1.1
  have hb := C.1.2.1
  have hown := C.1.2.2.2.1
  have hts := C.1.2.2.2.2
  have hl : lv_has ls 6 [(0, .long (p0)), (2, .long (p2)), (4, .long (p4))] := hl
  have q0 := l_rng p0; rw [a0] at q0
  have q2 := l_rng p2; rw [a2] at q2
  have q4 := l_rng p4; rw [a4] at q4
  have z_0 : (0 : Int32).toInt = 0 := by decide
  have z_1 : (1 : Int32).toInt = 1 := by decide
  refine lv_lload_n hx hb dX10_in_0 rfl (lv_at hl 0 rfl) ?_
  refine lv_lload_n hx hb dX10_in_1 rfl (lv_at hl 1 rfl) ?_
  refine W.lcmp hx hb dX10_in_2 ?_
  refine lv_if_lt (tgt := 17) hx hb dX10_in_3 (by decide) (fun c_1 => ?_) (fun c_1 => ?_)
  · have j_2 : A0 < A2 := (l_lt0 a0 a2).mp c_1
    refine lv_iconst (v := 0) hx hb dX10_in_17 (by decide) ?_
    exact ret 0 v w sg _ _ _ _ rfl dX10_in_18 h ⟨Or.inr ⟨rfl, by omega⟩, rfl, rfl, rfl⟩
  · have j_2 : ¬ (A0 < A2) := fun q => c_1 ((l_lt0 a0 a2).mpr q)
    refine lv_lload_n hx hb dX10_in_6 rfl (lv_at hl 0 rfl) ?_
    refine lv_lload hx hb dX10_in_7 (lv_at hl 2 rfl) ?_
    refine W.lcmp hx hb dX10_in_9 ?_
    refine lv_if_gt (tgt := 17) hx hb dX10_in_10 (by decide) (fun c_3 => ?_) (fun c_3 => ?_)
    · have j_4 : A4 < A0 := (l_gt0 a0 a4).mp c_3
      refine lv_iconst (v := 0) hx hb dX10_in_17 (by decide) ?_
      exact ret 0 v w sg _ _ _ _ rfl dX10_in_18 h ⟨Or.inr ⟨rfl, by omega⟩, rfl, rfl, rfl⟩
    · have j_4 : ¬ (A4 < A0) := fun q => c_3 ((l_gt0 a0 a4).mpr q)
      refine lv_iconst (v := 1) hx hb dX10_in_13 (by decide) ?_
      refine lv_goto (tgt := 18) hx hb dX10_in_14 (by decide) ?_
      exact ret 1 v w sg _ _ _ _ rfl dX10_in_18 h ⟨Or.inl ⟨rfl, by omega⟩, rfl, rfl, rfl⟩

set_option maxHeartbeats 4000000 in
set_option maxRecDepth 100000 in
theorem c_X10_isReading (l : Launch) (G : gG) (v : Nat → Nat → Int32) (w : Nat → Nat → Int64) (sg : Nat → Nat) (p0 : Int32) {A0 : Int} (a0 : p0.toInt = A0) : Met l yX10_isReading wsX10_isReading ({ frames := 1, cells := 0, slots := 0, locals := 25 }) (gPre G v w sg [.int (p0)]) (gQi G (fun r v' w' sg' => ((r = 1 ∧ -2000000 ≤ A0 ∧ A0 ≤ 2000000) ∨ (r = 0 ∧ (A0 < -2000000 ∨ 2000000 < A0))) ∧ v = v' ∧ w = w' ∧ sg = sg')) 0 0 (gA G) := by
  refine gM_ofz (cc := cX10_isReading) (maxL := 1) (by decide) rfl (Nat.le_of_ble_eq_true rfl) ?_
  intro p e R s m args below meth c Q ls C hR ret h hl
  have hx := C.1.1
  have hb := C.1.2.1
  have hown := C.1.2.2.2.1
  have hts := C.1.2.2.2.2
  have hl : lv_has ls 1 [(0, .int (p0))] := hl
  have q0 := i_rng p0; rw [a0] at q0
  have z_0 : (0 : Int32).toInt = 0 := by decide
  have z_1 : (1 : Int32).toInt = 1 := by decide
  have k110 : (Cond.constantLong RX10 110 (-2000000)).before args s = true := hts _ (by decide +kernel)
  have k112 : (Cond.constantLong RX10 112 (2000000)).before args s = true := hts _ (by decide +kernel)
  refine lv_iload_n hx hb dX10_isReading_0 rfl (lv_at hl 0 rfl) ?_
  refine lv_i2l (v := (p0 : Int32).toInt64) hx hb dX10_isReading_1 rfl ?_
  refine lv_ldc2 hx hb hown k110 dX10_isReading_2 ?_
  refine lv_ldc2 hx hb hown k112 dX10_isReading_5 ?_
  refine g_calli C (va_runS (As := [.long ((p0 : Int32).toInt64), .long ((-2000000)), .long (2000000)]) (rest := []) C.1 (c_X10_in l G v w sg ((p0 : Int32).toInt64) (A0 := A0) (il_of a0) ((-2000000)) (A2 := (-2000000)) (by decide) (2000000) (A4 := 2000000) (by decide)) (va_cwS 3 hts gX10_isReading_X10_in rfl rfl rfl (by decide +kernel) ⟨by rw [hR]; exact Nat.le_of_ble_eq_true rfl, by rw [hR]; exact Nat.le_of_ble_eq_true rfl⟩) ⟨gPre_blind, gS_pre C h _⟩ rfl rfl hl.1 rfl (lv_room (Nat.le_of_ble_eq_true rfl)) dX10_isReading_8 ⟨Nat.zero_le _, Nat.zero_le _⟩) h (fun r_1 v_3 w_4 g_5 H locs p_2 h => ?_)
  obtain ⟨p_2, rfl, rfl, rfl⟩ := p_2
  rcases p_2 with ⟨rfl, t_6⟩ | ⟨rfl, t_6⟩
  · skip
    exact ret 1 v w sg _ _ _ _ rfl dX10_isReading_11 h ⟨Or.inl ⟨rfl, by omega⟩, rfl, rfl, rfl⟩
  · skip
    exact ret 0 v w sg _ _ _ _ rfl dX10_isReading_11 h ⟨Or.inr ⟨rfl, by omega⟩, rfl, rfl, rfl⟩

set_option maxHeartbeats 4000000 in
set_option maxRecDepth 100000 in
theorem c_X10_isLoad (l : Launch) (G : gG) (v : Nat → Nat → Int32) (w : Nat → Nat → Int64) (sg : Nat → Nat) (p0 : Int32) {A0 : Int} (a0 : p0.toInt = A0) : Met l yX10_isLoad wsX10_isLoad ({ frames := 1, cells := 0, slots := 0, locals := 25 }) (gPre G v w sg [.int (p0)]) (gQi G (fun r v' w' sg' => ((r = 1 ∧ -50 ≤ A0 ∧ A0 ≤ 50) ∨ (r = 0 ∧ (A0 < -50 ∨ 50 < A0))) ∧ v = v' ∧ w = w' ∧ sg = sg')) 0 0 (gA G) := by
  refine gM_ofz (cc := cX10_isLoad) (maxL := 1) (by decide) rfl (Nat.le_of_ble_eq_true rfl) ?_
  intro p e R s m args below meth c Q ls C hR ret h hl
  have hx := C.1.1
  have hb := C.1.2.1
  have hown := C.1.2.2.2.1
  have hts := C.1.2.2.2.2
  have hl : lv_has ls 1 [(0, .int (p0))] := hl
  have q0 := i_rng p0; rw [a0] at q0
  have z_0 : (0 : Int32).toInt = 0 := by decide
  have z_1 : (1 : Int32).toInt = 1 := by decide
  have k118 : (Cond.constantLong RX10 118 (-50)).before args s = true := hts _ (by decide +kernel)
  have k120 : (Cond.constantLong RX10 120 (50)).before args s = true := hts _ (by decide +kernel)
  refine lv_iload_n hx hb dX10_isLoad_0 rfl (lv_at hl 0 rfl) ?_
  refine lv_i2l (v := (p0 : Int32).toInt64) hx hb dX10_isLoad_1 rfl ?_
  refine lv_ldc2 hx hb hown k118 dX10_isLoad_2 ?_
  refine lv_ldc2 hx hb hown k120 dX10_isLoad_5 ?_
  refine g_calli C (va_runS (As := [.long ((p0 : Int32).toInt64), .long ((-50)), .long (50)]) (rest := []) C.1 (c_X10_in l G v w sg ((p0 : Int32).toInt64) (A0 := A0) (il_of a0) ((-50)) (A2 := (-50)) (by decide) (50) (A4 := 50) (by decide)) (va_cwS 3 hts gX10_isLoad_X10_in rfl rfl rfl (by decide +kernel) ⟨by rw [hR]; exact Nat.le_of_ble_eq_true rfl, by rw [hR]; exact Nat.le_of_ble_eq_true rfl⟩) ⟨gPre_blind, gS_pre C h _⟩ rfl rfl hl.1 rfl (lv_room (Nat.le_of_ble_eq_true rfl)) dX10_isLoad_8 ⟨Nat.zero_le _, Nat.zero_le _⟩) h (fun r_1 v_3 w_4 g_5 H locs p_2 h => ?_)
  obtain ⟨p_2, rfl, rfl, rfl⟩ := p_2
  rcases p_2 with ⟨rfl, t_6⟩ | ⟨rfl, t_6⟩
  · skip
    exact ret 1 v w sg _ _ _ _ rfl dX10_isLoad_11 h ⟨Or.inl ⟨rfl, by omega⟩, rfl, rfl, rfl⟩
  · skip
    exact ret 0 v w sg _ _ _ _ rfl dX10_isLoad_11 h ⟨Or.inr ⟨rfl, by omega⟩, rfl, rfl, rfl⟩

set_option maxHeartbeats 4000000 in
set_option maxRecDepth 100000 in
theorem c_X10_first (l : Launch) (G : gG) (v : Nat → Nat → Int32) (w : Nat → Nat → Int64) (sg : Nat → Nat) (p1 : Int32) {A1 : Int} (a1 : p1.toInt = A1) (p2 : Int32) {A2 : Int} (a2 : p2.toInt = A2) (p3 : Int32) {A3 : Int} (a3 : p3.toInt = A3) (mi : mI v) : Met l yX10_first wsX10_first ({ frames := 1, cells := 0, slots := 0, locals := 25 }) (gPre G v w sg [.ref (G.2.2 (106)), .int (p1), .int (p2), .int (p3)]) (gQi G (fun r v' w' sg' => (mI v' ∧ fM 107 108 0 0 v w v' w ∧ ((r = 1 ∧ rF1 A1 A2 A3 ∧ v' = (gu v 107 (3 * A1 + A2).toNat p3)) ∨ (r = -1 ∧ ¬ rF1 A1 A2 A3 ∧ v' = v))) ∧ w = w' ∧ sg = sg')) 0 0 (gA G) := by
  refine gM_ofi (cc := cX10_first) (maxL := 4) (by decide) rfl (Nat.le_of_ble_eq_true rfl) ?_
  intro p e R s m args below meth c Q ls C hR ret h hl
  have hx := C.1.1
  have hb := C.1.2.1
  have hown := C.1.2.2.2.1
  have hts := C.1.2.2.2.2
  have hl : lv_has ls 4 [(0, .ref (G.2.2 (106))), (1, .int (p1)), (2, .int (p2)), (3, .int (p3))] := hl
  have q1 := i_rng p1; rw [a1] at q1
  have q2 := i_rng p2; rw [a2] at q2
  have q3 := i_rng p3; rw [a3] at q3
  have z_m1 : ((-1) : Int32).toInt = (-1) := by decide
  have z_0 : (0 : Int32).toInt = 0 := by decide
  have z_1 : (1 : Int32).toInt = 1 := by decide
  have z_3 : (3 : Int32).toInt = 3 := by decide
  have k122 : (Cond.constantLong RX10 122 (2)).before args s = true := hts _ (by decide +kernel)
  have k124 : (Cond.constantLong RX10 124 (-100)).before args s = true := hts _ (by decide +kernel)
  have k126 : (Cond.constantLong RX10 126 (100)).before args s = true := hts _ (by decide +kernel)
  have f7 : Cond.fieldLink RX10 7 "WindHallModel" "a" "[I" ∈ wsX10_first := by decide +kernel
  have hi10 : ∀ x ∈ u_ws RX10 TX10 42, x ∈ wsX10_first := fun x q => List.mem_cons_of_mem _ (List.mem_append_right _ q)
  have o_1 := mi
  obtain ⟨I7, I10, I18, I22, I27, I29, I32, Is, I35, Ia, Iar, Isz, Ian⟩ := o_1
  refine lv_iload_n hx hb dX10_first_0 rfl (lv_at hl 1 rfl) ?_
  refine lv_i2l (v := (p1 : Int32).toInt64) hx hb dX10_first_1 rfl ?_
  refine lv_lconst (v := 0) hx hb dX10_first_2 (by decide) ?_
  refine lv_ldc2 hx hb hown k122 dX10_first_3 ?_
  refine g_calli C (va_runS (As := [.long ((p1 : Int32).toInt64), .long (0), .long (2)]) (rest := []) C.1 (c_X10_in l G v w sg ((p1 : Int32).toInt64) (A0 := A1) (il_of a1) (0) (A2 := 0) (by decide) (2) (A4 := 2) (by decide)) (va_cwS 3 hts gX10_first_X10_in rfl rfl rfl (by decide +kernel) ⟨by rw [hR]; exact Nat.le_of_ble_eq_true rfl, by rw [hR]; exact Nat.le_of_ble_eq_true rfl⟩) ⟨gPre_blind, gS_pre C h _⟩ rfl rfl hl.1 rfl (lv_room (Nat.le_of_ble_eq_true rfl)) dX10_first_6 ⟨Nat.zero_le _, Nat.zero_le _⟩) h (fun r_2 v_4 w_5 g_6 H locs p_3 h => ?_)
  obtain ⟨p_3, rfl, rfl, rfl⟩ := p_3
  rcases p_3 with ⟨rfl, t_7⟩ | ⟨rfl, t_7⟩
  · skip
    refine lv_if_eq (tgt := 38) hx hb dX10_first_9 (by decide) (fun c_8 => absurd c_8 (by decide)) (fun _ => ?_)
    refine lv_iload_n hx hb dX10_first_12 rfl (lv_at hl 2 rfl) ?_
    refine lv_i2l (v := (p2 : Int32).toInt64) hx hb dX10_first_13 rfl ?_
    refine lv_lconst (v := 0) hx hb dX10_first_14 (by decide) ?_
    refine lv_ldc2 hx hb hown k122 dX10_first_15 ?_
    refine g_calli C (va_runS (As := [.long ((p2 : Int32).toInt64), .long (0), .long (2)]) (rest := []) C.1 (c_X10_in l G v w sg ((p2 : Int32).toInt64) (A0 := A2) (il_of a2) (0) (A2 := 0) (by decide) (2) (A4 := 2) (by decide)) (va_cwS 3 hts gX10_first_X10_in rfl rfl rfl (by decide +kernel) ⟨by rw [hR]; exact Nat.le_of_ble_eq_true rfl, by rw [hR]; exact Nat.le_of_ble_eq_true rfl⟩) ⟨gPre_blind, gS_pre C h _⟩ rfl rfl hl.1 rfl (lv_room (Nat.le_of_ble_eq_true rfl)) dX10_first_18 ⟨Nat.zero_le _, Nat.zero_le _⟩) h (fun r_9 v_11 w_12 g_13 H locs p_10 h => ?_)
    obtain ⟨p_10, rfl, rfl, rfl⟩ := p_10
    rcases p_10 with ⟨rfl, t_14⟩ | ⟨rfl, t_14⟩
    · skip
      refine lv_if_eq (tgt := 38) hx hb dX10_first_21 (by decide) (fun c_15 => absurd c_15 (by decide)) (fun _ => ?_)
      refine lv_iload_n hx hb dX10_first_24 rfl (lv_at hl 3 rfl) ?_
      refine lv_i2l (v := (p3 : Int32).toInt64) hx hb dX10_first_25 rfl ?_
      refine lv_ldc2 hx hb hown k124 dX10_first_26 ?_
      refine lv_ldc2 hx hb hown k126 dX10_first_29 ?_
      refine g_calli C (va_runS (As := [.long ((p3 : Int32).toInt64), .long ((-100)), .long (100)]) (rest := []) C.1 (c_X10_in l G v w sg ((p3 : Int32).toInt64) (A0 := A3) (il_of a3) ((-100)) (A2 := (-100)) (by decide) (100) (A4 := 100) (by decide)) (va_cwS 3 hts gX10_first_X10_in rfl rfl rfl (by decide +kernel) ⟨by rw [hR]; exact Nat.le_of_ble_eq_true rfl, by rw [hR]; exact Nat.le_of_ble_eq_true rfl⟩) ⟨gPre_blind, gS_pre C h _⟩ rfl rfl hl.1 rfl (lv_room (Nat.le_of_ble_eq_true rfl)) dX10_first_32 ⟨Nat.zero_le _, Nat.zero_le _⟩) h (fun r_16 v_18 w_19 g_20 H locs p_17 h => ?_)
      obtain ⟨p_17, rfl, rfl, rfl⟩ := p_17
      rcases p_17 with ⟨rfl, t_21⟩ | ⟨rfl, t_21⟩
      · skip
        refine lv_if_ne (tgt := 40) hx hb dX10_first_35 (by decide) (fun _ => ?_) (fun c_22 => absurd c_22 (by decide))
        refine lv_aload_n hx hb dX10_first_40 rfl (lv_at hl 0 rfl) ?_
        refine g_get (ci := 10) (x := .ref (G.2.2 (107))) C h 106 (by decide) rfl rfl hi10 0 (by decide) f7 rfl rfl dX10_first_41 ?_
        refine lv_iconst (v := 3) hx hb dX10_first_44 (by decide) ?_
        refine lv_iload_n hx hb dX10_first_45 rfl (lv_at hl 1 rfl) ?_
        refine lv_imul hx hb dX10_first_46 ?_
        refine lv_topi (fun x_23 e_24 => ?_)
        have i_25 : x_23.toInt = 3 * A1 := ia_mul e_24 (by decide) a1 (by omega) (by omega)
        refine lv_iload_n hx hb dX10_first_47 rfl (lv_at hl 2 rfl) ?_
        refine lv_iadd hx hb dX10_first_48 ?_
        refine lv_topi (fun x_26 e_27 => ?_)
        have i_28 : x_26.toInt = (3 * A1) + A2 := ia_add e_27 i_25 a2 (by omega) (by omega)
        refine lv_iload_n hx hb dX10_first_49 rfl (lv_at hl 3 rfl) ?_
        refine g_iast C h 107 (by decide) (by decide) (n := 9) (by decide) (vp_of i_28 (by omega) (by omega)) dX10_first_50 (fun H locs h => ?_)
        obtain ⟨v_29, hv_29⟩ : ∃ z, z = gu v 107 ((x_26 : Int32).toNatClampNeg) p3 := ⟨_, rfl⟩
        have h : gS (gA G) G s v_29 w sg H locs := by rw [hv_29]; exact h
        have u_30 : mI v_29 := by rw [hv_29]; exact (mI_107 mi (by omega))
        have u_31 : fM 107 108 0 0 v w v_29 w := by rw [hv_29]; exact (fM_v fM_rf (by decide))
        refine lv_iconst (v := 1) hx hb dX10_first_51 (by decide) ?_
        exact ret 1 v_29 w sg _ _ _ _ dX10_first_52 h ⟨⟨u_30, u_31, Or.inl ⟨rfl, by unfold rF1; omega, (by rw [hv_29] <;> exact (gu_cg rfl rfl ((cl_nat i_28).trans (by omega)) rfl))⟩⟩, rfl, rfl⟩
      · skip
        refine lv_if_ne (tgt := 40) hx hb dX10_first_35 (by decide) (fun c_32 => absurd (by decide) c_32) (fun _ => ?_)
        refine lv_iconst (v := (-1)) hx hb dX10_first_38 (by decide) ?_
        exact ret (-1) v w sg _ _ _ _ dX10_first_39 h ⟨⟨mi, fM_rf, Or.inr ⟨rfl, by unfold rF1; omega, rfl⟩⟩, rfl, rfl⟩
    · skip
      refine lv_if_eq (tgt := 38) hx hb dX10_first_21 (by decide) (fun _ => ?_) (fun c_33 => absurd (by decide) c_33)
      refine lv_iconst (v := (-1)) hx hb dX10_first_38 (by decide) ?_
      exact ret (-1) v w sg _ _ _ _ dX10_first_39 h ⟨⟨mi, fM_rf, Or.inr ⟨rfl, by unfold rF1; omega, rfl⟩⟩, rfl, rfl⟩
  · skip
    refine lv_if_eq (tgt := 38) hx hb dX10_first_9 (by decide) (fun _ => ?_) (fun c_34 => absurd (by decide) c_34)
    refine lv_iconst (v := (-1)) hx hb dX10_first_38 (by decide) ?_
    exact ret (-1) v w sg _ _ _ _ dX10_first_39 h ⟨⟨mi, fM_rf, Or.inr ⟨rfl, by unfold rF1; omega, rfl⟩⟩, rfl, rfl⟩

set_option maxHeartbeats 4000000 in
set_option maxRecDepth 100000 in
theorem c_X10_second (l : Launch) (G : gG) (v : Nat → Nat → Int32) (w : Nat → Nat → Int64) (sg : Nat → Nat) (p1 : Int32) {A1 : Int} (a1 : p1.toInt = A1) (p2 : Int32) {A2 : Int} (a2 : p2.toInt = A2) (p3 : Int32) {A3 : Int} (a3 : p3.toInt = A3) (mi : mI v) : Met l yX10_second wsX10_second ({ frames := 1, cells := 0, slots := 0, locals := 25 }) (gPre G v w sg [.ref (G.2.2 (106)), .int (p1), .int (p2), .int (p3)]) (gQi G (fun r v' w' sg' => (mI v' ∧ fM 108 109 0 0 v w v' w ∧ ((r = 1 ∧ rF2 A1 A2 A3 ∧ v' = (gu v 108 (6 * A1 + A2).toNat p3)) ∨ (r = -1 ∧ ¬ rF2 A1 A2 A3 ∧ v' = v))) ∧ w = w' ∧ sg = sg')) 0 0 (gA G) := by
  refine gM_ofi (cc := cX10_second) (maxL := 4) (by decide) rfl (Nat.le_of_ble_eq_true rfl) ?_
  intro p e R s m args below meth c Q ls C hR ret h hl
  have hx := C.1.1
  have hb := C.1.2.1
  have hown := C.1.2.2.2.1
  have hts := C.1.2.2.2.2
  have hl : lv_has ls 4 [(0, .ref (G.2.2 (106))), (1, .int (p1)), (2, .int (p2)), (3, .int (p3))] := hl
  have q1 := i_rng p1; rw [a1] at q1
  have q2 := i_rng p2; rw [a2] at q2
  have q3 := i_rng p3; rw [a3] at q3
  have z_m1 : ((-1) : Int32).toInt = (-1) := by decide
  have z_0 : (0 : Int32).toInt = 0 := by decide
  have z_1 : (1 : Int32).toInt = 1 := by decide
  have z_6 : (6 : Int32).toInt = 6 := by decide
  have k122 : (Cond.constantLong RX10 122 (2)).before args s = true := hts _ (by decide +kernel)
  have k128 : (Cond.constantLong RX10 128 (5)).before args s = true := hts _ (by decide +kernel)
  have k130 : (Cond.constantLong RX10 130 (-20)).before args s = true := hts _ (by decide +kernel)
  have k132 : (Cond.constantLong RX10 132 (20)).before args s = true := hts _ (by decide +kernel)
  have f13 : Cond.fieldLink RX10 13 "WindHallModel" "b" "[I" ∈ wsX10_second := by decide +kernel
  have hi10 : ∀ x ∈ u_ws RX10 TX10 42, x ∈ wsX10_second := fun x q => List.mem_cons_of_mem _ (List.mem_append_right _ q)
  have o_1 := mi
  obtain ⟨I7, I10, I18, I22, I27, I29, I32, Is, I35, Ia, Iar, Isz, Ian⟩ := o_1
  refine lv_iload_n hx hb dX10_second_0 rfl (lv_at hl 1 rfl) ?_
  refine lv_i2l (v := (p1 : Int32).toInt64) hx hb dX10_second_1 rfl ?_
  refine lv_lconst (v := 0) hx hb dX10_second_2 (by decide) ?_
  refine lv_ldc2 hx hb hown k122 dX10_second_3 ?_
  refine g_calli C (va_runS (As := [.long ((p1 : Int32).toInt64), .long (0), .long (2)]) (rest := []) C.1 (c_X10_in l G v w sg ((p1 : Int32).toInt64) (A0 := A1) (il_of a1) (0) (A2 := 0) (by decide) (2) (A4 := 2) (by decide)) (va_cwS 3 hts gX10_second_X10_in rfl rfl rfl (by decide +kernel) ⟨by rw [hR]; exact Nat.le_of_ble_eq_true rfl, by rw [hR]; exact Nat.le_of_ble_eq_true rfl⟩) ⟨gPre_blind, gS_pre C h _⟩ rfl rfl hl.1 rfl (lv_room (Nat.le_of_ble_eq_true rfl)) dX10_second_6 ⟨Nat.zero_le _, Nat.zero_le _⟩) h (fun r_2 v_4 w_5 g_6 H locs p_3 h => ?_)
  obtain ⟨p_3, rfl, rfl, rfl⟩ := p_3
  rcases p_3 with ⟨rfl, t_7⟩ | ⟨rfl, t_7⟩
  · skip
    refine lv_if_eq (tgt := 38) hx hb dX10_second_9 (by decide) (fun c_8 => absurd c_8 (by decide)) (fun _ => ?_)
    refine lv_iload_n hx hb dX10_second_12 rfl (lv_at hl 2 rfl) ?_
    refine lv_i2l (v := (p2 : Int32).toInt64) hx hb dX10_second_13 rfl ?_
    refine lv_lconst (v := 0) hx hb dX10_second_14 (by decide) ?_
    refine lv_ldc2 hx hb hown k128 dX10_second_15 ?_
    refine g_calli C (va_runS (As := [.long ((p2 : Int32).toInt64), .long (0), .long (5)]) (rest := []) C.1 (c_X10_in l G v w sg ((p2 : Int32).toInt64) (A0 := A2) (il_of a2) (0) (A2 := 0) (by decide) (5) (A4 := 5) (by decide)) (va_cwS 3 hts gX10_second_X10_in rfl rfl rfl (by decide +kernel) ⟨by rw [hR]; exact Nat.le_of_ble_eq_true rfl, by rw [hR]; exact Nat.le_of_ble_eq_true rfl⟩) ⟨gPre_blind, gS_pre C h _⟩ rfl rfl hl.1 rfl (lv_room (Nat.le_of_ble_eq_true rfl)) dX10_second_18 ⟨Nat.zero_le _, Nat.zero_le _⟩) h (fun r_9 v_11 w_12 g_13 H locs p_10 h => ?_)
    obtain ⟨p_10, rfl, rfl, rfl⟩ := p_10
    rcases p_10 with ⟨rfl, t_14⟩ | ⟨rfl, t_14⟩
    · skip
      refine lv_if_eq (tgt := 38) hx hb dX10_second_21 (by decide) (fun c_15 => absurd c_15 (by decide)) (fun _ => ?_)
      refine lv_iload_n hx hb dX10_second_24 rfl (lv_at hl 3 rfl) ?_
      refine lv_i2l (v := (p3 : Int32).toInt64) hx hb dX10_second_25 rfl ?_
      refine lv_ldc2 hx hb hown k130 dX10_second_26 ?_
      refine lv_ldc2 hx hb hown k132 dX10_second_29 ?_
      refine g_calli C (va_runS (As := [.long ((p3 : Int32).toInt64), .long ((-20)), .long (20)]) (rest := []) C.1 (c_X10_in l G v w sg ((p3 : Int32).toInt64) (A0 := A3) (il_of a3) ((-20)) (A2 := (-20)) (by decide) (20) (A4 := 20) (by decide)) (va_cwS 3 hts gX10_second_X10_in rfl rfl rfl (by decide +kernel) ⟨by rw [hR]; exact Nat.le_of_ble_eq_true rfl, by rw [hR]; exact Nat.le_of_ble_eq_true rfl⟩) ⟨gPre_blind, gS_pre C h _⟩ rfl rfl hl.1 rfl (lv_room (Nat.le_of_ble_eq_true rfl)) dX10_second_32 ⟨Nat.zero_le _, Nat.zero_le _⟩) h (fun r_16 v_18 w_19 g_20 H locs p_17 h => ?_)
      obtain ⟨p_17, rfl, rfl, rfl⟩ := p_17
      rcases p_17 with ⟨rfl, t_21⟩ | ⟨rfl, t_21⟩
      · skip
        refine lv_if_ne (tgt := 40) hx hb dX10_second_35 (by decide) (fun _ => ?_) (fun c_22 => absurd c_22 (by decide))
        refine lv_aload_n hx hb dX10_second_40 rfl (lv_at hl 0 rfl) ?_
        refine g_get (ci := 10) (x := .ref (G.2.2 (108))) C h 106 (by decide) rfl rfl hi10 1 (by decide) f13 rfl rfl dX10_second_41 ?_
        refine lv_bipush (v := 6) hx hb dX10_second_44 (by decide) ?_
        refine lv_iload_n hx hb dX10_second_46 rfl (lv_at hl 1 rfl) ?_
        refine lv_imul hx hb dX10_second_47 ?_
        refine lv_topi (fun x_23 e_24 => ?_)
        have i_25 : x_23.toInt = 6 * A1 := ia_mul e_24 (by decide) a1 (by omega) (by omega)
        refine lv_iload_n hx hb dX10_second_48 rfl (lv_at hl 2 rfl) ?_
        refine lv_iadd hx hb dX10_second_49 ?_
        refine lv_topi (fun x_26 e_27 => ?_)
        have i_28 : x_26.toInt = (6 * A1) + A2 := ia_add e_27 i_25 a2 (by omega) (by omega)
        refine lv_iload_n hx hb dX10_second_50 rfl (lv_at hl 3 rfl) ?_
        refine g_iast C h 108 (by decide) (by decide) (n := 18) (by decide) (vp_of i_28 (by omega) (by omega)) dX10_second_51 (fun H locs h => ?_)
        obtain ⟨v_29, hv_29⟩ : ∃ z, z = gu v 108 ((x_26 : Int32).toNatClampNeg) p3 := ⟨_, rfl⟩
        have h : gS (gA G) G s v_29 w sg H locs := by rw [hv_29]; exact h
        have u_30 : mI v_29 := by rw [hv_29]; exact mi
        have u_31 : fM 108 109 0 0 v w v_29 w := by rw [hv_29]; exact (fM_v fM_rf (by decide))
        refine lv_iconst (v := 1) hx hb dX10_second_52 (by decide) ?_
        exact ret 1 v_29 w sg _ _ _ _ dX10_second_53 h ⟨⟨u_30, u_31, Or.inl ⟨rfl, by unfold rF2; omega, (by rw [hv_29] <;> exact (gu_cg rfl rfl ((cl_nat i_28).trans (by omega)) rfl))⟩⟩, rfl, rfl⟩
      · skip
        refine lv_if_ne (tgt := 40) hx hb dX10_second_35 (by decide) (fun c_32 => absurd (by decide) c_32) (fun _ => ?_)
        refine lv_iconst (v := (-1)) hx hb dX10_second_38 (by decide) ?_
        exact ret (-1) v w sg _ _ _ _ dX10_second_39 h ⟨⟨mi, fM_rf, Or.inr ⟨rfl, by unfold rF2; omega, rfl⟩⟩, rfl, rfl⟩
    · skip
      refine lv_if_eq (tgt := 38) hx hb dX10_second_21 (by decide) (fun _ => ?_) (fun c_33 => absurd (by decide) c_33)
      refine lv_iconst (v := (-1)) hx hb dX10_second_38 (by decide) ?_
      exact ret (-1) v w sg _ _ _ _ dX10_second_39 h ⟨⟨mi, fM_rf, Or.inr ⟨rfl, by unfold rF2; omega, rfl⟩⟩, rfl, rfl⟩
  · skip
    refine lv_if_eq (tgt := 38) hx hb dX10_second_9 (by decide) (fun _ => ?_) (fun c_34 => absurd (by decide) c_34)
    refine lv_iconst (v := (-1)) hx hb dX10_second_38 (by decide) ?_
    exact ret (-1) v w sg _ _ _ _ dX10_second_39 h ⟨⟨mi, fM_rf, Or.inr ⟨rfl, by unfold rF2; omega, rfl⟩⟩, rfl, rfl⟩

set_option maxHeartbeats 4000000 in
set_option maxRecDepth 100000 in
theorem c_X10_products (l : Launch) (G : gG) (v : Nat → Nat → Int32) (w : Nat → Nat → Int64) (sg : Nat → Nat) (p1 : Int32) {A1 : Int} (a1 : p1.toInt = A1) (p2 : Int32) {A2 : Int} (a2 : p2.toInt = A2) (p3 : Int32) {A3 : Int} (a3 : p3.toInt = A3) (p4 : Int32) {A4 : Int} (a4 : p4.toInt = A4) (b1 : 0 ≤ A1 ∧ A1 ≤ 2) (mi : mI v) : Met l yX10_products wsX10_products ({ frames := 0, cells := 0, slots := 0, locals := 0 }) (gPre G v w sg [.ref (G.2.2 (106)), .int (p1), .int (p2), .int (p3), .int (p4)]) (gQi G (fun r v' w' sg' => (r = pr6 (fun j => v 108 (6 * A1.toNat + j)) p2 p3 p4) ∧ v = v' ∧ w = w' ∧ sg = sg')) 0 0 (gA G) := by
  refine gM_ofi (cc := cX10_products) (maxL := 6) (by decide) rfl (Nat.le_of_ble_eq_true rfl) ?_
  intro p e R s m args below meth c Q ls C hR ret h hl
  have hx := C.1.1
  have hb := C.1.2.1
  have hown := C.1.2.2.2.1
  have hts := C.1.2.2.2.2
  have hl : lv_has ls 6 [(0, .ref (G.2.2 (106))), (1, .int (p1)), (2, .int (p2)), (3, .int (p3)), (4, .int (p4))] := hl
  have q1 := i_rng p1; rw [a1] at q1
  have q2 := i_rng p2; rw [a2] at q2
  have q3 := i_rng p3; rw [a3] at q3
  have q4 := i_rng p4; rw [a4] at q4
  have z_0 : (0 : Int32).toInt = 0 := by decide
  have z_1 : (1 : Int32).toInt = 1 := by decide
  have z_2 : (2 : Int32).toInt = 2 := by decide
  have z_3 : (3 : Int32).toInt = 3 := by decide
  have z_4 : (4 : Int32).toInt = 4 := by decide
  have z_5 : (5 : Int32).toInt = 5 := by decide
  have z_6 : (6 : Int32).toInt = 6 := by decide
  have f13 : Cond.fieldLink RX10 13 "WindHallModel" "b" "[I" ∈ wsX10_products := by decide +kernel
  have hi10 : ∀ x ∈ u_ws RX10 TX10 42, x ∈ wsX10_products := fun x q => List.mem_cons_of_mem _ (List.mem_append_right _ q)
  have o_1 := mi
  obtain ⟨I7, I10, I18, I22, I27, I29, I32, Is, I35, Ia, Iar, Isz, Ian⟩ := o_1
  refine lv_bipush (v := 6) hx hb dX10_products_0 (by decide) ?_
  refine lv_iload_n hx hb dX10_products_2 rfl (lv_at hl 1 rfl) ?_
  refine lv_imul hx hb dX10_products_3 ?_
  refine lv_topi (fun x_2 e_3 => ?_)
  have i_4 : x_2.toInt = 6 * A1 := ia_mul e_3 (by decide) a1 (by omega) (by omega)
  refine lv_istore (lv' := [(5, .int (x_2)), (0, .ref (G.2.2 (106))), (1, .int (p1)), (2, .int (p2)), (3, .int (p3)), (4, .int (p4))]) hx hb dX10_products_4 hl (by decide) rfl (fun ls hl => ?_)
  refine lv_aload_n hx hb dX10_products_6 rfl (lv_at hl 1 rfl) ?_
  refine g_get (ci := 10) (x := .ref (G.2.2 (108))) C h 106 (by decide) rfl rfl hi10 1 (by decide) f13 rfl rfl dX10_products_7 ?_
  refine lv_iload hx hb dX10_products_10 (lv_at hl 0 rfl) ?_
  refine g_iald C h 108 (by decide) (by decide) (n := 18) (by decide) (vp_of i_4 (by omega) (by omega)) dX10_products_12 ?_
  refine lv_topi (fun x_5 e_6 => ?_)
  have hr_x_5 : x_5 = v 108 (6 * A1.toNat + 0) := by rw [e_6, cl_nat i_4, show ((6 * A1)).toNat = 6 * A1.toNat + 0 by omega]
  clear e_6
  refine lv_iload_n hx hb dX10_products_13 rfl (lv_at hl 3 rfl) ?_
  refine lv_imul hx hb dX10_products_14 ?_
  refine lv_topi (fun x_7 e_8 => ?_)
  refine lv_iload_n hx hb dX10_products_15 rfl (lv_at hl 3 rfl) ?_
  refine lv_imul hx hb dX10_products_16 ?_
  refine lv_topi (fun x_9 e_10 => ?_)
  refine lv_aload_n hx hb dX10_products_17 rfl (lv_at hl 1 rfl) ?_
  refine g_get (ci := 10) (x := .ref (G.2.2 (108))) C h 106 (by decide) rfl rfl hi10 1 (by decide) f13 rfl rfl dX10_products_18 ?_
  refine lv_iload hx hb dX10_products_21 (lv_at hl 0 rfl) ?_
  refine lv_iconst (v := 1) hx hb dX10_products_23 (by decide) ?_
  refine lv_iadd hx hb dX10_products_24 ?_
  refine lv_topi (fun x_11 e_12 => ?_)
  have i_13 : x_11.toInt = (6 * A1) + 1 := ia_add e_12 i_4 (by decide) (by omega) (by omega)
  refine g_iald C h 108 (by decide) (by decide) (n := 18) (by decide) (vp_of i_13 (by omega) (by omega)) dX10_products_25 ?_
  refine lv_topi (fun x_14 e_15 => ?_)
  have hr_x_14 : x_14 = v 108 (6 * A1.toNat + 1) := by rw [e_15, cl_nat i_13, show (((6 * A1) + 1)).toNat = 6 * A1.toNat + 1 by omega]
  clear e_15
  refine lv_iload_n hx hb dX10_products_26 rfl (lv_at hl 3 rfl) ?_
  refine lv_imul hx hb dX10_products_27 ?_
  refine lv_topi (fun x_16 e_17 => ?_)
  refine lv_iload_n hx hb dX10_products_28 rfl (lv_at hl 4 rfl) ?_
  refine lv_imul hx hb dX10_products_29 ?_
  refine lv_topi (fun x_18 e_19 => ?_)
  refine lv_iadd hx hb dX10_products_30 ?_
  refine lv_topi (fun x_20 e_21 => ?_)
  refine lv_aload_n hx hb dX10_products_31 rfl (lv_at hl 1 rfl) ?_
  refine g_get (ci := 10) (x := .ref (G.2.2 (108))) C h 106 (by decide) rfl rfl hi10 1 (by decide) f13 rfl rfl dX10_products_32 ?_
  refine lv_iload hx hb dX10_products_35 (lv_at hl 0 rfl) ?_
  refine lv_iconst (v := 2) hx hb dX10_products_37 (by decide) ?_
  refine lv_iadd hx hb dX10_products_38 ?_
  refine lv_topi (fun x_22 e_23 => ?_)
  have i_24 : x_22.toInt = (6 * A1) + 2 := ia_add e_23 i_4 (by decide) (by omega) (by omega)
  refine g_iald C h 108 (by decide) (by decide) (n := 18) (by decide) (vp_of i_24 (by omega) (by omega)) dX10_products_39 ?_
  refine lv_topi (fun x_25 e_26 => ?_)
  have hr_x_25 : x_25 = v 108 (6 * A1.toNat + 2) := by rw [e_26, cl_nat i_24, show (((6 * A1) + 2)).toNat = 6 * A1.toNat + 2 by omega]
  clear e_26
  refine lv_iload_n hx hb dX10_products_40 rfl (lv_at hl 3 rfl) ?_
  refine lv_imul hx hb dX10_products_41 ?_
  refine lv_topi (fun x_27 e_28 => ?_)
  refine lv_iload hx hb dX10_products_42 (lv_at hl 5 rfl) ?_
  refine lv_imul hx hb dX10_products_44 ?_
  refine lv_topi (fun x_29 e_30 => ?_)
  refine lv_iadd hx hb dX10_products_45 ?_
  refine lv_topi (fun x_31 e_32 => ?_)
  refine lv_aload_n hx hb dX10_products_46 rfl (lv_at hl 1 rfl) ?_
  refine g_get (ci := 10) (x := .ref (G.2.2 (108))) C h 106 (by decide) rfl rfl hi10 1 (by decide) f13 rfl rfl dX10_products_47 ?_
  refine lv_iload hx hb dX10_products_50 (lv_at hl 0 rfl) ?_
  refine lv_iconst (v := 3) hx hb dX10_products_52 (by decide) ?_
  refine lv_iadd hx hb dX10_products_53 ?_
  refine lv_topi (fun x_33 e_34 => ?_)
  have i_35 : x_33.toInt = (6 * A1) + 3 := ia_add e_34 i_4 (by decide) (by omega) (by omega)
  refine g_iald C h 108 (by decide) (by decide) (n := 18) (by decide) (vp_of i_35 (by omega) (by omega)) dX10_products_54 ?_
  refine lv_topi (fun x_36 e_37 => ?_)
  have hr_x_36 : x_36 = v 108 (6 * A1.toNat + 3) := by rw [e_37, cl_nat i_35, show (((6 * A1) + 3)).toNat = 6 * A1.toNat + 3 by omega]
  clear e_37
  refine lv_iload_n hx hb dX10_products_55 rfl (lv_at hl 4 rfl) ?_
  refine lv_imul hx hb dX10_products_56 ?_
  refine lv_topi (fun x_38 e_39 => ?_)
  refine lv_iload_n hx hb dX10_products_57 rfl (lv_at hl 4 rfl) ?_
  refine lv_imul hx hb dX10_products_58 ?_
  refine lv_topi (fun x_40 e_41 => ?_)
  refine lv_iadd hx hb dX10_products_59 ?_
  refine lv_topi (fun x_42 e_43 => ?_)
  refine lv_aload_n hx hb dX10_products_60 rfl (lv_at hl 1 rfl) ?_
  refine g_get (ci := 10) (x := .ref (G.2.2 (108))) C h 106 (by decide) rfl rfl hi10 1 (by decide) f13 rfl rfl dX10_products_61 ?_
  refine lv_iload hx hb dX10_products_64 (lv_at hl 0 rfl) ?_
  refine lv_iconst (v := 4) hx hb dX10_products_66 (by decide) ?_
  refine lv_iadd hx hb dX10_products_67 ?_
  refine lv_topi (fun x_44 e_45 => ?_)
  have i_46 : x_44.toInt = (6 * A1) + 4 := ia_add e_45 i_4 (by decide) (by omega) (by omega)
  refine g_iald C h 108 (by decide) (by decide) (n := 18) (by decide) (vp_of i_46 (by omega) (by omega)) dX10_products_68 ?_
  refine lv_topi (fun x_47 e_48 => ?_)
  have hr_x_47 : x_47 = v 108 (6 * A1.toNat + 4) := by rw [e_48, cl_nat i_46, show (((6 * A1) + 4)).toNat = 6 * A1.toNat + 4 by omega]
  clear e_48
  refine lv_iload_n hx hb dX10_products_69 rfl (lv_at hl 4 rfl) ?_
  refine lv_imul hx hb dX10_products_70 ?_
  refine lv_topi (fun x_49 e_50 => ?_)
  refine lv_iload hx hb dX10_products_71 (lv_at hl 5 rfl) ?_
  refine lv_imul hx hb dX10_products_73 ?_
  refine lv_topi (fun x_51 e_52 => ?_)
  refine lv_iadd hx hb dX10_products_74 ?_
  refine lv_topi (fun x_53 e_54 => ?_)
  refine lv_aload_n hx hb dX10_products_75 rfl (lv_at hl 1 rfl) ?_
  refine g_get (ci := 10) (x := .ref (G.2.2 (108))) C h 106 (by decide) rfl rfl hi10 1 (by decide) f13 rfl rfl dX10_products_76 ?_
  refine lv_iload hx hb dX10_products_79 (lv_at hl 0 rfl) ?_
  refine lv_iconst (v := 5) hx hb dX10_products_81 (by decide) ?_
  refine lv_iadd hx hb dX10_products_82 ?_
  refine lv_topi (fun x_55 e_56 => ?_)
  have i_57 : x_55.toInt = (6 * A1) + 5 := ia_add e_56 i_4 (by decide) (by omega) (by omega)
  refine g_iald C h 108 (by decide) (by decide) (n := 18) (by decide) (vp_of i_57 (by omega) (by omega)) dX10_products_83 ?_
  refine lv_topi (fun x_58 e_59 => ?_)
  have hr_x_58 : x_58 = v 108 (6 * A1.toNat + 5) := by rw [e_59, cl_nat i_57, show (((6 * A1) + 5)).toNat = 6 * A1.toNat + 5 by omega]
  clear e_59
  refine lv_iload hx hb dX10_products_84 (lv_at hl 5 rfl) ?_
  refine lv_imul hx hb dX10_products_86 ?_
  refine lv_topi (fun x_60 e_61 => ?_)
  refine lv_iload hx hb dX10_products_87 (lv_at hl 5 rfl) ?_
  refine lv_imul hx hb dX10_products_89 ?_
  refine lv_topi (fun x_62 e_63 => ?_)
  refine lv_iadd hx hb dX10_products_90 ?_
  refine lv_topi (fun x_64 e_65 => ?_)
  exact ret x_64 v w sg _ _ _ _ dX10_products_91 h ⟨(by subst_vars; rfl), rfl, rfl, rfl⟩

set_option maxHeartbeats 4000000 in
set_option maxRecDepth 100000 in
theorem c_X10_readingOf (l : Launch) (G : gG) (v : Nat → Nat → Int32) (w : Nat → Nat → Int64) (sg : Nat → Nat) (p1 : Int32) {A1 : Int} (a1 : p1.toInt = A1) (p2 : Int32) {A2 : Int} (a2 : p2.toInt = A2) (p3 : Int32) {A3 : Int} (a3 : p3.toInt = A3) (p4 : Int32) {A4 : Int} (a4 : p4.toInt = A4) (b1 : 0 ≤ A1 ∧ A1 ≤ 2) (mi : mI v) : Met l yX10_readingOf wsX10_readingOf ({ frames := 1, cells := 0, slots := 0, locals := 25 }) (gPre G v w sg [.ref (G.2.2 (106)), .int (p1), .int (p2), .int (p3), .int (p4)]) (gQi G (fun r v' w' sg' => (r = rd9 (fun j => v 107 (3 * A1.toNat + j)) (fun j => v 108 (6 * A1.toNat + j)) p2 p3 p4) ∧ v = v' ∧ w = w' ∧ sg = sg')) 0 0 (gA G) := by
  refine gM_ofi (cc := cX10_readingOf) (maxL := 5) (by decide) rfl (Nat.le_of_ble_eq_true rfl) ?_
  intro p e R s m args below meth c Q ls C hR ret h hl
  have hx := C.1.1
  have hb := C.1.2.1
  have hown := C.1.2.2.2.1
  have hts := C.1.2.2.2.2
  have hl : lv_has ls 5 [(0, .ref (G.2.2 (106))), (1, .int (p1)), (2, .int (p2)), (3, .int (p3)), (4, .int (p4))] := hl
  have q1 := i_rng p1; rw [a1] at q1
  have q2 := i_rng p2; rw [a2] at q2
  have q3 := i_rng p3; rw [a3] at q3
  have q4 := i_rng p4; rw [a4] at q4
  have z_0 : (0 : Int32).toInt = 0 := by decide
  have z_1 : (1 : Int32).toInt = 1 := by decide
  have z_2 : (2 : Int32).toInt = 2 := by decide
  have z_3 : (3 : Int32).toInt = 3 := by decide
  have z_100 : (100 : Int32).toInt = 100 := by decide
  have f7 : Cond.fieldLink RX10 7 "WindHallModel" "a" "[I" ∈ wsX10_readingOf := by decide +kernel
  have hi10 : ∀ x ∈ u_ws RX10 TX10 42, x ∈ wsX10_readingOf := fun x q => List.mem_cons_of_mem _ (List.mem_append_right _ q)
  have o_1 := mi
  obtain ⟨I7, I10, I18, I22, I27, I29, I32, Is, I35, Ia, Iar, Isz, Ian⟩ := o_1
  refine lv_bipush (v := 100) hx hb dX10_readingOf_0 (by decide) ?_
  refine lv_aload_n hx hb dX10_readingOf_2 rfl (lv_at hl 0 rfl) ?_
  refine g_get (ci := 10) (x := .ref (G.2.2 (107))) C h 106 (by decide) rfl rfl hi10 0 (by decide) f7 rfl rfl dX10_readingOf_3 ?_
  refine lv_iconst (v := 3) hx hb dX10_readingOf_6 (by decide) ?_
  refine lv_iload_n hx hb dX10_readingOf_7 rfl (lv_at hl 1 rfl) ?_
  refine lv_imul hx hb dX10_readingOf_8 ?_
  refine lv_topi (fun x_2 e_3 => ?_)
  have i_4 : x_2.toInt = 3 * A1 := ia_mul e_3 (by decide) a1 (by omega) (by omega)
  refine g_iald C h 107 (by decide) (by decide) (n := 9) (by decide) (vp_of i_4 (by omega) (by omega)) dX10_readingOf_9 ?_
  refine lv_topi (fun x_5 e_6 => ?_)
  have hr_x_5 : x_5 = v 107 (3 * A1.toNat + 0) := by rw [e_6, cl_nat i_4, show ((3 * A1)).toNat = 3 * A1.toNat + 0 by omega]
  clear e_6
  refine lv_iload_n hx hb dX10_readingOf_10 rfl (lv_at hl 2 rfl) ?_
  refine lv_imul hx hb dX10_readingOf_11 ?_
  refine lv_topi (fun x_7 e_8 => ?_)
  refine lv_aload_n hx hb dX10_readingOf_12 rfl (lv_at hl 0 rfl) ?_
  refine g_get (ci := 10) (x := .ref (G.2.2 (107))) C h 106 (by decide) rfl rfl hi10 0 (by decide) f7 rfl rfl dX10_readingOf_13 ?_
  refine lv_iconst (v := 3) hx hb dX10_readingOf_16 (by decide) ?_
  refine lv_iload_n hx hb dX10_readingOf_17 rfl (lv_at hl 1 rfl) ?_
  refine lv_imul hx hb dX10_readingOf_18 ?_
  refine lv_topi (fun x_9 e_10 => ?_)
  have i_11 : x_9.toInt = 3 * A1 := ia_mul e_10 (by decide) a1 (by omega) (by omega)
  refine lv_iconst (v := 1) hx hb dX10_readingOf_19 (by decide) ?_
  refine lv_iadd hx hb dX10_readingOf_20 ?_
  refine lv_topi (fun x_12 e_13 => ?_)
  have i_14 : x_12.toInt = (3 * A1) + 1 := ia_add e_13 i_11 (by decide) (by omega) (by omega)
  refine g_iald C h 107 (by decide) (by decide) (n := 9) (by decide) (vp_of i_14 (by omega) (by omega)) dX10_readingOf_21 ?_
  refine lv_topi (fun x_15 e_16 => ?_)
  have hr_x_15 : x_15 = v 107 (3 * A1.toNat + 1) := by rw [e_16, cl_nat i_14, show (((3 * A1) + 1)).toNat = 3 * A1.toNat + 1 by omega]
  clear e_16
  refine lv_iload_n hx hb dX10_readingOf_22 rfl (lv_at hl 3 rfl) ?_
  refine lv_imul hx hb dX10_readingOf_23 ?_
  refine lv_topi (fun x_17 e_18 => ?_)
  refine lv_iadd hx hb dX10_readingOf_24 ?_
  refine lv_topi (fun x_19 e_20 => ?_)
  refine lv_aload_n hx hb dX10_readingOf_25 rfl (lv_at hl 0 rfl) ?_
  refine g_get (ci := 10) (x := .ref (G.2.2 (107))) C h 106 (by decide) rfl rfl hi10 0 (by decide) f7 rfl rfl dX10_readingOf_26 ?_
  refine lv_iconst (v := 3) hx hb dX10_readingOf_29 (by decide) ?_
  refine lv_iload_n hx hb dX10_readingOf_30 rfl (lv_at hl 1 rfl) ?_
  refine lv_imul hx hb dX10_readingOf_31 ?_
  refine lv_topi (fun x_21 e_22 => ?_)
  have i_23 : x_21.toInt = 3 * A1 := ia_mul e_22 (by decide) a1 (by omega) (by omega)
  refine lv_iconst (v := 2) hx hb dX10_readingOf_32 (by decide) ?_
  refine lv_iadd hx hb dX10_readingOf_33 ?_
  refine lv_topi (fun x_24 e_25 => ?_)
  have i_26 : x_24.toInt = (3 * A1) + 2 := ia_add e_25 i_23 (by decide) (by omega) (by omega)
  refine g_iald C h 107 (by decide) (by decide) (n := 9) (by decide) (vp_of i_26 (by omega) (by omega)) dX10_readingOf_34 ?_
  refine lv_topi (fun x_27 e_28 => ?_)
  have hr_x_27 : x_27 = v 107 (3 * A1.toNat + 2) := by rw [e_28, cl_nat i_26, show (((3 * A1) + 2)).toNat = 3 * A1.toNat + 2 by omega]
  clear e_28
  refine lv_iload hx hb dX10_readingOf_35 (lv_at hl 4 rfl) ?_
  refine lv_imul hx hb dX10_readingOf_37 ?_
  refine lv_topi (fun x_29 e_30 => ?_)
  refine lv_iadd hx hb dX10_readingOf_38 ?_
  refine lv_topi (fun x_31 e_32 => ?_)
  refine lv_imul hx hb dX10_readingOf_39 ?_
  refine lv_topi (fun x_33 e_34 => ?_)
  refine lv_aload_n hx hb dX10_readingOf_40 rfl (lv_at hl 0 rfl) ?_
  refine lv_iload_n hx hb dX10_readingOf_41 rfl (lv_at hl 1 rfl) ?_
  refine lv_iload_n hx hb dX10_readingOf_42 rfl (lv_at hl 2 rfl) ?_
  refine lv_iload_n hx hb dX10_readingOf_43 rfl (lv_at hl 3 rfl) ?_
  refine lv_iload hx hb dX10_readingOf_44 (lv_at hl 4 rfl) ?_
  refine g_calli C (va_runV (As := [.int (p1), .int (p2), .int (p3), .int (p4)]) (rest := [.int (x_33)]) C.1 (c_X10_products l G v w sg p1 (A1 := A1) a1 p2 (A2 := A2) a2 p3 (A3 := A3) a3 p4 (A4 := A4) a4 (by omega) mi) (cwV 4 hts gX10_readingOf_X10_products rfl rfl rfl (by decide +kernel) ⟨by rw [hR]; exact Nat.le_of_ble_eq_true rfl, by rw [hR]; exact Nat.le_of_ble_eq_true rfl⟩) ⟨gPre_blind, g_recv C h 106 (by decide) (ci := 10) rfl rfl, gS_pre C h _⟩ rfl rfl hl.1 rfl (lv_room (Nat.le_of_ble_eq_true rfl)) dX10_readingOf_46 ⟨Nat.zero_le _, Nat.zero_le _⟩) h (fun r_35 v_37 w_38 g_39 H locs p_36 h => ?_)
  obtain ⟨p_36, rfl, rfl, rfl⟩ := p_36
  refine lv_iadd hx hb dX10_readingOf_49 ?_
  refine lv_topi (fun x_40 e_41 => ?_)
  exact ret x_40 v w sg _ _ _ _ dX10_readingOf_50 h ⟨(by subst_vars; rfl), rfl, rfl, rfl⟩

set_option maxHeartbeats 4000000 in
set_option maxRecDepth 100000 in
theorem c_X10_reading (l : Launch) (G : gG) (v : Nat → Nat → Int32) (w : Nat → Nat → Int64) (sg : Nat → Nat) (p1 : Int32) {A1 : Int} (a1 : p1.toInt = A1) (p2 : Int32) {A2 : Int} (a2 : p2.toInt = A2) (p3 : Int32) {A3 : Int} (a3 : p3.toInt = A3) (p4 : Int32) {A4 : Int} (a4 : p4.toInt = A4) (mi : mI v) : Met l yX10_reading wsX10_reading ({ frames := 2, cells := 0, slots := 0, locals := 49 }) (gPre G v w sg [.ref (G.2.2 (106)), .int (p1), .int (p2), .int (p3), .int (p4)]) (gQi G (fun r v' w' sg' => ((rF4 A1 A2 A3 A4 ∧ r = rd9 (fun j => v 107 (3 * A1.toNat + j)) (fun j => v 108 (6 * A1.toNat + j)) p2 p3 p4) ∨ (¬ rF4 A1 A2 A3 A4 ∧ r = 9999999)) ∧ v = v' ∧ w = w' ∧ sg = sg')) 0 0 (gA G) := by
  refine gM_ofi (cc := cX10_reading) (maxL := 5) (by decide) rfl (Nat.le_of_ble_eq_true rfl) ?_
  intro p e R s m args below meth c Q ls C hR ret h hl
  have hx := C.1.1
  have hb := C.1.2.1
  have hown := C.1.2.2.2.1
  have hts := C.1.2.2.2.2
  have hl : lv_has ls 5 [(0, .ref (G.2.2 (106))), (1, .int (p1)), (2, .int (p2)), (3, .int (p3)), (4, .int (p4))] := hl
  have q1 := i_rng p1; rw [a1] at q1
  have q2 := i_rng p2; rw [a2] at q2
  have q3 := i_rng p3; rw [a3] at q3
  have q4 := i_rng p4; rw [a4] at q4
  have z_0 : (0 : Int32).toInt = 0 := by decide
  have z_1 : (1 : Int32).toInt = 1 := by decide
  have z_9999999 : (9999999 : Int32).toInt = 9999999 := by decide
  have k122 : (Cond.constantLong RX10 122 (2)).before args s = true := hts _ (by decide +kernel)
  have k145 : (Cond.constant RX10 145 (9999999)).before args s = true := hts _ (by decide +kernel)
  have o_1 := mi
  obtain ⟨I7, I10, I18, I22, I27, I29, I32, Is, I35, Ia, Iar, Isz, Ian⟩ := o_1
  refine lv_iload_n hx hb dX10_reading_0 rfl (lv_at hl 1 rfl) ?_
  refine lv_i2l (v := (p1 : Int32).toInt64) hx hb dX10_reading_1 rfl ?_
  refine lv_lconst (v := 0) hx hb dX10_reading_2 (by decide) ?_
  refine lv_ldc2 hx hb hown k122 dX10_reading_3 ?_
  refine g_calli C (va_runS (As := [.long ((p1 : Int32).toInt64), .long (0), .long (2)]) (rest := []) C.1 (c_X10_in l G v w sg ((p1 : Int32).toInt64) (A0 := A1) (il_of a1) (0) (A2 := 0) (by decide) (2) (A4 := 2) (by decide)) (va_cwS 3 hts gX10_reading_X10_in rfl rfl rfl (by decide +kernel) ⟨by rw [hR]; exact Nat.le_of_ble_eq_true rfl, by rw [hR]; exact Nat.le_of_ble_eq_true rfl⟩) ⟨gPre_blind, gS_pre C h _⟩ rfl rfl hl.1 rfl (lv_room (Nat.le_of_ble_eq_true rfl)) dX10_reading_6 ⟨Nat.zero_le _, Nat.zero_le _⟩) h (fun r_2 v_4 w_5 g_6 H locs p_3 h => ?_)
  obtain ⟨p_3, rfl, rfl, rfl⟩ := p_3
  rcases p_3 with ⟨rfl, t_7⟩ | ⟨rfl, t_7⟩
  · skip
    refine lv_if_eq (tgt := 46) hx hb dX10_reading_9 (by decide) (fun c_8 => absurd c_8 (by decide)) (fun _ => ?_)
    refine lv_iload_n hx hb dX10_reading_12 rfl (lv_at hl 2 rfl) ?_
    refine g_calli C (va_runS (As := [.int (p2)]) (rest := []) C.1 (c_X10_isLoad l G v w sg p2 (A0 := A2) a2) (va_cwS 1 hts gX10_reading_X10_isLoad rfl rfl rfl (by decide +kernel) ⟨by rw [hR]; exact Nat.le_of_ble_eq_true rfl, by rw [hR]; exact Nat.le_of_ble_eq_true rfl⟩) ⟨gPre_blind, gS_pre C h _⟩ rfl rfl hl.1 rfl (lv_room (Nat.le_of_ble_eq_true rfl)) dX10_reading_13 ⟨Nat.zero_le _, Nat.zero_le _⟩) h (fun r_9 v_11 w_12 g_13 H locs p_10 h => ?_)
    obtain ⟨p_10, rfl, rfl, rfl⟩ := p_10
    rcases p_10 with ⟨rfl, t_14⟩ | ⟨rfl, t_14⟩
    · skip
      refine lv_if_eq (tgt := 46) hx hb dX10_reading_16 (by decide) (fun c_15 => absurd c_15 (by decide)) (fun _ => ?_)
      refine lv_iload_n hx hb dX10_reading_19 rfl (lv_at hl 3 rfl) ?_
      refine g_calli C (va_runS (As := [.int (p3)]) (rest := []) C.1 (c_X10_isLoad l G v w sg p3 (A0 := A3) a3) (va_cwS 1 hts gX10_reading_X10_isLoad rfl rfl rfl (by decide +kernel) ⟨by rw [hR]; exact Nat.le_of_ble_eq_true rfl, by rw [hR]; exact Nat.le_of_ble_eq_true rfl⟩) ⟨gPre_blind, gS_pre C h _⟩ rfl rfl hl.1 rfl (lv_room (Nat.le_of_ble_eq_true rfl)) dX10_reading_20 ⟨Nat.zero_le _, Nat.zero_le _⟩) h (fun r_16 v_18 w_19 g_20 H locs p_17 h => ?_)
      obtain ⟨p_17, rfl, rfl, rfl⟩ := p_17
      rcases p_17 with ⟨rfl, t_21⟩ | ⟨rfl, t_21⟩
      · skip
        refine lv_if_eq (tgt := 46) hx hb dX10_reading_23 (by decide) (fun c_22 => absurd c_22 (by decide)) (fun _ => ?_)
        refine lv_iload hx hb dX10_reading_26 (lv_at hl 4 rfl) ?_
        refine g_calli C (va_runS (As := [.int (p4)]) (rest := []) C.1 (c_X10_isLoad l G v w sg p4 (A0 := A4) a4) (va_cwS 1 hts gX10_reading_X10_isLoad rfl rfl rfl (by decide +kernel) ⟨by rw [hR]; exact Nat.le_of_ble_eq_true rfl, by rw [hR]; exact Nat.le_of_ble_eq_true rfl⟩) ⟨gPre_blind, gS_pre C h _⟩ rfl rfl hl.1 rfl (lv_room (Nat.le_of_ble_eq_true rfl)) dX10_reading_28 ⟨Nat.zero_le _, Nat.zero_le _⟩) h (fun r_23 v_25 w_26 g_27 H locs p_24 h => ?_)
        obtain ⟨p_24, rfl, rfl, rfl⟩ := p_24
        rcases p_24 with ⟨rfl, t_28⟩ | ⟨rfl, t_28⟩
        · skip
          refine lv_if_eq (tgt := 46) hx hb dX10_reading_31 (by decide) (fun c_29 => absurd c_29 (by decide)) (fun _ => ?_)
          refine lv_aload_n hx hb dX10_reading_34 rfl (lv_at hl 0 rfl) ?_
          refine lv_iload_n hx hb dX10_reading_35 rfl (lv_at hl 1 rfl) ?_
          refine lv_iload_n hx hb dX10_reading_36 rfl (lv_at hl 2 rfl) ?_
          refine lv_iload_n hx hb dX10_reading_37 rfl (lv_at hl 3 rfl) ?_
          refine lv_iload hx hb dX10_reading_38 (lv_at hl 4 rfl) ?_
          refine g_calli C (va_runV (As := [.int (p1), .int (p2), .int (p3), .int (p4)]) (rest := []) C.1 (c_X10_readingOf l G v w sg p1 (A1 := A1) a1 p2 (A2 := A2) a2 p3 (A3 := A3) a3 p4 (A4 := A4) a4 (by omega) mi) (cwV 4 hts gX10_reading_X10_readingOf rfl rfl rfl (by decide +kernel) ⟨by rw [hR]; exact Nat.le_of_ble_eq_true rfl, by rw [hR]; exact Nat.le_of_ble_eq_true rfl⟩) ⟨gPre_blind, g_recv C h 106 (by decide) (ci := 10) rfl rfl, gS_pre C h _⟩ rfl rfl hl.1 rfl (lv_room (Nat.le_of_ble_eq_true rfl)) dX10_reading_40 ⟨Nat.zero_le _, Nat.zero_le _⟩) h (fun r_30 v_32 w_33 g_34 H locs p_31 h => ?_)
          obtain ⟨p_31, rfl, rfl, rfl⟩ := p_31
          refine lv_goto (tgt := 48) hx hb dX10_reading_43 (by decide) ?_
          exact ret r_30 v w sg _ _ _ _ dX10_reading_48 h ⟨Or.inl ⟨by unfold rF4; omega, p_31⟩, rfl, rfl, rfl⟩
        · skip
          refine lv_if_eq (tgt := 46) hx hb dX10_reading_31 (by decide) (fun _ => ?_) (fun c_35 => absurd (by decide) c_35)
          refine lv_ldc hx hb hown k145 dX10_reading_46 ?_
          exact ret 9999999 v w sg _ _ _ _ dX10_reading_48 h ⟨Or.inr ⟨by unfold rF4; omega, rfl⟩, rfl, rfl, rfl⟩
      · skip
        refine lv_if_eq (tgt := 46) hx hb dX10_reading_23 (by decide) (fun _ => ?_) (fun c_36 => absurd (by decide) c_36)
        refine lv_ldc hx hb hown k145 dX10_reading_46 ?_
        exact ret 9999999 v w sg _ _ _ _ dX10_reading_48 h ⟨Or.inr ⟨by unfold rF4; omega, rfl⟩, rfl, rfl, rfl⟩
    · skip
      refine lv_if_eq (tgt := 46) hx hb dX10_reading_16 (by decide) (fun _ => ?_) (fun c_37 => absurd (by decide) c_37)
      refine lv_ldc hx hb hown k145 dX10_reading_46 ?_
      exact ret 9999999 v w sg _ _ _ _ dX10_reading_48 h ⟨Or.inr ⟨by unfold rF4; omega, rfl⟩, rfl, rfl, rfl⟩
  · skip
    refine lv_if_eq (tgt := 46) hx hb dX10_reading_9 (by decide) (fun _ => ?_) (fun c_38 => absurd (by decide) c_38)
    refine lv_ldc hx hb hown k145 dX10_reading_46 ?_
    exact ret 9999999 v w sg _ _ _ _ dX10_reading_48 h ⟨Or.inr ⟨by unfold rF4; omega, rfl⟩, rfl, rfl, rfl⟩
