set_option maxHeartbeats 4000000 in
set_option maxRecDepth 100000 in
theorem c_X4_term_12 (l : Launch) (G : gG) (v : Nat → Nat → Int32) (w : Nat → Nat → Int64) (sg : Nat → Nat) (p1 : Int32) {A1 : Int} (a1 : p1.toInt = A1) (p2 : Int32) {A2 : Int} (a2 : p2.toInt = A2) (p3 : Int32) {A3 : Int} (a3 : p3.toInt = A3) (b1 : 0 ≤ A1 ∧ A1 ≤ 2) (b2 : 0 ≤ A2 ∧ A2 ≤ 2) (ci : cI v) : Met l yX4_term wsX4_term ({ frames := 0, cells := 0, slots := 0, locals := 0 }) (gPre G v w sg [.ref (G.2.2 (12)), .int (p1), .int (p2), .int (p3)]) (gQl G (fun r v' w' sg' => (r = tmQ w 14 17 A3 A1.toNat A2.toNat ∧ (A2 ≠ A3 → r = w (14 + A1.toNat) A2.toNat)) ∧ v = v' ∧ w = w' ∧ sg = sg')) 0 0 (gA G) := by
  refine gM_ofl (cc := cX4_term) (maxL := 4) (by decide) rfl (Nat.le_of_ble_eq_true rfl) ?_
  intro p e R s m args below meth c Q ls C hR ret h hl
  have hx := C.1.1
  have hb := C.1.2.1
  have hown := C.1.2.2.2.1
  have hts := C.1.2.2.2.2
  have hl : lv_has ls 4 [(0, .ref (G.2.2 (12))), (1, .int (p1)), (2, .int (p2)), (3, .int (p3))] := hl
  have q1 := i_rng p1; rw [a1] at q1
  have q2 := i_rng p2; rw [a2] at q2
  have q3 := i_rng p3; rw [a3] at q3
  have z_0 : (0 : Int32).toInt = 0 := by decide
  have z_1 : (1 : Int32).toInt = 1 := by decide
  have f11 : Cond.fieldLink RX4 11 "WindHall$Equations" "left" "[[J" ∈ wsX4_term := by decide +kernel
  have hi4 : ∀ x ∈ u_ws RX4 TX4 2, x ∈ wsX4_term := fun x q => List.mem_cons_of_mem _ (List.mem_append_right _ q)
  have f16 : Cond.fieldLink RX4 16 "WindHall$Equations" "right" "[J" ∈ wsX4_term := by decide +kernel
  have o_1 := ci
  obtain ⟨K1, K2, K3, K4, K5, K6, K7, Ks, K9, Ka, Kr, Kz⟩ := o_1
  refine lv_iload_n hx hb dX4_term_0 rfl (lv_at hl 2 rfl) ?_
  refine lv_iload_n hx hb dX4_term_1 rfl (lv_at hl 3 rfl) ?_
  refine lv_icmp_ne (tgt := 14) hx hb dX4_term_2 (by decide) (fun c_2 => ?_) (fun c_2 => ?_)
  · have j_3 : ¬ (A2 = A3) := fun q => c_2 ((i_eq a2 a3).mpr q)
    refine lv_aload_n hx hb dX4_term_14 rfl (lv_at hl 0 rfl) ?_
    refine g_get (ci := 4) (x := .ref (G.2.2 (13))) C h 12 (by decide) rfl rfl hi4 0 (by decide) f11 rfl rfl dX4_term_15 ?_
    refine lv_iload_n hx hb dX4_term_18 rfl (lv_at hl 1 rfl) ?_
    refine g_aald (ty := .array .long) C h 13 (by decide) 1 (by decide) (n := 3) (by decide) rfl rfl (vp_of a1 (by omega) (by omega)) dX4_term_19 ?_
    obtain ⟨q_4, q_4_e, q_4_i, q_4_l⟩ := g_row sg (b := 13) (n := 3) (i := p1) (by decide) (by decide) a1 (by omega) (by omega)
    rw [q_4_e]
    refine lv_iload_n hx hb dX4_term_20 rfl (lv_at hl 2 rfl) ?_
    refine g_lald C h q_4 (by omega) (g_kd 14 3 2 rfl q_4_l) (n := 3) (g_ln 14 3 3 rfl q_4_l) (vp_of a2 (by omega) (by omega)) dX4_term_21 ?_
    refine lv_topl (fun x_5 e_6 => ?_)
    exact ret x_5 v w sg _ _ _ _ dX4_term_22 h ⟨⟨by rw [e_6, cl_nat a2, show q_4 = 14 + A1.toNat by omega]; unfold tmQ; rw [if_neg (by omega)], fun _ => by rw [e_6, cl_nat a2, show q_4 = 14 + A1.toNat by omega]⟩, rfl, rfl, rfl⟩
  · have j_3 : A2 = A3 := (i_eq a2 a3).mp c_2
    refine lv_aload_n hx hb dX4_term_5 rfl (lv_at hl 0 rfl) ?_
    refine g_get (ci := 4) (x := .ref (G.2.2 (17))) C h 12 (by decide) rfl rfl hi4 1 (by decide) f16 rfl rfl dX4_term_6 ?_
    refine lv_iload_n hx hb dX4_term_9 rfl (lv_at hl 1 rfl) ?_
    refine g_lald C h 17 (by decide) (by decide) (n := 3) (by decide) (vp_of a1 (by omega) (by omega)) dX4_term_10 ?_
    refine lv_topl (fun x_7 e_8 => ?_)
    refine lv_goto (tgt := 22) hx hb dX4_term_11 (by decide) ?_
    exact ret x_7 v w sg _ _ _ _ dX4_term_22 h ⟨⟨by rw [e_8, cl_nat a1]; unfold tmQ; rw [if_pos (by omega)], fun q => absurd (by omega) q⟩, rfl, rfl, rfl⟩

set_option maxHeartbeats 4000000 in
set_option maxRecDepth 100000 in
theorem c_X4_determinant_12 (l : Launch) (G : gG) (v : Nat → Nat → Int32) (w : Nat → Nat → Int64) (sg : Nat → Nat) (p1 : Int32) {A1 : Int} (a1 : p1.toInt = A1) (ci : cI v) : Met l yX4_determinant wsX4_determinant ({ frames := 1, cells := 0, slots := 0, locals := 23 }) (gPre G v w sg [.ref (G.2.2 (12)), .int (p1)]) (gQl G (fun r v' w' sg' => (r = dsN (tmQ w 14 17 A1) 3 ∧ (A1 < 0 → bL w → -6000000 ≤ r.toInt ∧ r.toInt ≤ 6000000)) ∧ v = v' ∧ w = w' ∧ sg = sg')) 0 0 (gA G) := by
  refine gM_ofl (cc := cX4_determinant) (maxL := 9) (by decide) rfl (Nat.le_of_ble_eq_true rfl) ?_
  intro p e R s m args below meth c Q ls C hR ret h hl
  have hx := C.1.1
  have hb := C.1.2.1
  have hown := C.1.2.2.2.1
  have hts := C.1.2.2.2.2
  have hl : lv_has ls 9 [(0, .ref (G.2.2 (12))), (1, .int (p1))] := hl
  have q1 := i_rng p1; rw [a1] at q1
  have z_0 : (0 : Int32).toInt = 0 := by decide
  have z_1 : (1 : Int32).toInt = 1 := by decide
  have z_2 : (2 : Int32).toInt = 2 := by decide
  have z_3 : (3 : Int32).toInt = 3 := by decide
  have o_1 := ci
  obtain ⟨K1, K2, K3, K4, K5, K6, K7, Ks, K9, Ka, Kr, Kz⟩ := o_1
  refine lv_lconst (v := 0) hx hb dX4_determinant_0 (by decide) ?_
  refine lv_lstore_n (lv' := [(2, .long (0)), (0, .ref (G.2.2 (12))), (1, .int (p1))]) hx hb dX4_determinant_1 rfl hl (by decide) rfl (fun ls hl => ?_)
  refine lv_iconst (v := 0) hx hb dX4_determinant_2 (by decide) ?_
  have J5_3 : ∀ (n : Nat) (y_2 : Int64) (y_3 : Int32) (H : Heap) (locs : List Loc) (ls : Array Slot), (3 - (y_3).toInt).toNat < n → (0 ≤ (y_3).toInt ∧ (y_3).toInt ≤ 3) → (dB (A1 < 0 ∧ bL w) (y_2).toInt (2000000 * (y_3).toInt)) → (y_2 = dsN (tmQ w 14 17 A1) ((y_3).toInt).toNat) → gS (gA G) G s v w sg H locs → lv_has ls 9 [(0, .ref (G.2.2 (12))), (1, .int (p1)), (2, .long (y_2)), (4, .int (y_3))] → W p l e R s m args below meth c H locs 0 0 Q (F0 m 5 ls []) := by
    intro n
    induction n with
    | zero => intro y_2 y_3 H locs ls hm; exact absurd hm (Nat.not_lt_zero _)
    | succ n ih5 =>
      intro y_2 y_3 H locs ls hm f_4 f_5 f_6 h hl
      refine lv_iload hx hb dX4_determinant_5 (lv_at hl 3 rfl) ?_
      refine lv_iconst (v := 3) hx hb dX4_determinant_7 (by decide) ?_
      refine lv_icmp_ge (tgt := 84) hx hb dX4_determinant_8 (by decide) (fun c_7 => ?_) (fun c_7 => ?_)
      · have j_8 : 3 ≤ (y_3).toInt := (i_le (by decide) rfl).mp c_7
        refine lv_lload_n hx hb dX4_determinant_84 rfl (lv_at hl 2 rfl) ?_
        exact ret y_2 v w sg _ _ _ _ dX4_determinant_85 h ⟨⟨(show ((y_3).toInt).toNat = 3 by omega) ▸ f_6, fun q1 q2 => by have := f_5 ⟨q1, q2⟩; omega⟩, rfl, rfl, rfl⟩
      · have j_8 : ¬ (3 ≤ (y_3).toInt) := fun q => c_7 ((i_le (by decide) rfl).mpr q)
        refine lv_iload hx hb dX4_determinant_11 (lv_at hl 3 rfl) ?_
        refine lv_iconst (v := 1) hx hb dX4_determinant_13 (by decide) ?_
        refine lv_iadd hx hb dX4_determinant_14 ?_
        refine lv_topi (fun x_9 e_10 => ?_)
        have i_11 : x_9.toInt = (y_3).toInt + 1 := ia_add e_10 rfl (by decide) (by omega) (by omega)
        refine lv_iconst (v := 3) hx hb dX4_determinant_15 (by decide) ?_
        refine lv_irem hx hb dX4_determinant_16 (by decide) ?_
        refine lv_topi (fun x_12 e_13 => ?_)
        have i_14 : x_12.toInt = ((y_3).toInt + 1) % 3 := ia_rem e_13 i_11 (by decide) (by omega) (by omega)
        refine lv_istore (lv' := [(5, .int (x_12)), (0, .ref (G.2.2 (12))), (1, .int (p1)), (2, .long (y_2)), (4, .int (y_3))]) hx hb dX4_determinant_17 hl (by decide) rfl (fun ls hl => ?_)
        refine lv_iload hx hb dX4_determinant_19 (lv_at hl 4 rfl) ?_
        refine lv_iconst (v := 2) hx hb dX4_determinant_21 (by decide) ?_
        refine lv_iadd hx hb dX4_determinant_22 ?_
        refine lv_topi (fun x_15 e_16 => ?_)
        have i_17 : x_15.toInt = (y_3).toInt + 2 := ia_add e_16 rfl (by decide) (by omega) (by omega)
        refine lv_iconst (v := 3) hx hb dX4_determinant_23 (by decide) ?_
        refine lv_irem hx hb dX4_determinant_24 (by decide) ?_
        refine lv_topi (fun x_18 e_19 => ?_)
        have i_20 : x_18.toInt = ((y_3).toInt + 2) % 3 := ia_rem e_19 i_17 (by decide) (by omega) (by omega)
        refine lv_istore (lv' := [(6, .int (x_18)), (5, .int (x_12)), (0, .ref (G.2.2 (12))), (1, .int (p1)), (2, .long (y_2)), (4, .int (y_3))]) hx hb dX4_determinant_25 hl (by decide) rfl (fun ls hl => ?_)
        refine lv_aload_n hx hb dX4_determinant_27 rfl (lv_at hl 2 rfl) ?_
        refine lv_iconst (v := 1) hx hb dX4_determinant_28 (by decide) ?_
        refine lv_iload hx hb dX4_determinant_29 (lv_at hl 1 rfl) ?_
        refine lv_iload_n hx hb dX4_determinant_31 rfl (lv_at hl 3 rfl) ?_
        refine g_calll C (va_runV (As := [.int (1), .int (x_12), .int (p1)]) (rest := []) C.1 (c_X4_term_12 l G v w sg (1) (A1 := 1) (by decide) x_12 (A2 := (((y_3).toInt + 1) % 3)) i_14 p1 (A3 := A1) a1 (by omega) (by omega) ci) (cwV 3 hts gX4_determinant_X4_term rfl rfl rfl (by decide +kernel) ⟨by rw [hR]; exact Nat.le_of_ble_eq_true rfl, by rw [hR]; exact Nat.le_of_ble_eq_true rfl⟩) ⟨gPre_blind, g_recv C h 12 (by decide) (ci := 4) rfl rfl, gS_pre C h _⟩ rfl rfl hl.1 rfl (lv_room (Nat.le_of_ble_eq_true rfl)) dX4_determinant_32 ⟨Nat.zero_le _, Nat.zero_le _⟩) h (fun r_21 v_23 w_24 g_25 H locs p_22 h => ?_)
        obtain ⟨p_22, rfl, rfl, rfl⟩ := p_22
        have t32 : dB (A1 < 0 ∧ bL w) (r_21).toInt 100 := fun ⟨q1, q2⟩ => by rw [p_22.2 (by omega)]; exact q2 _ _ (by omega) (by omega)
        have u32 : r_21 = (tmQ w 14 17 A1) 1 (((y_3 : Int32).toInt.toNat + 1) % 3) := by rw [p_22.1]; congr 1 <;> omega
        refine lv_aload_n hx hb dX4_determinant_35 rfl (lv_at hl 2 rfl) ?_
        refine lv_iconst (v := 2) hx hb dX4_determinant_36 (by decide) ?_
        refine lv_iload hx hb dX4_determinant_37 (lv_at hl 0 rfl) ?_
        refine lv_iload_n hx hb dX4_determinant_39 rfl (lv_at hl 3 rfl) ?_
        refine g_calll C (va_runV (As := [.int (2), .int (x_18), .int (p1)]) (rest := [.long (r_21)]) C.1 (c_X4_term_12 l G v w sg (2) (A1 := 2) (by decide) x_18 (A2 := (((y_3).toInt + 2) % 3)) i_20 p1 (A3 := A1) a1 (by omega) (by omega) ci) (cwV 3 hts gX4_determinant_X4_term rfl rfl rfl (by decide +kernel) ⟨by rw [hR]; exact Nat.le_of_ble_eq_true rfl, by rw [hR]; exact Nat.le_of_ble_eq_true rfl⟩) ⟨gPre_blind, g_recv C h 12 (by decide) (ci := 4) rfl rfl, gS_pre C h _⟩ rfl rfl hl.1 rfl (lv_room (Nat.le_of_ble_eq_true rfl)) dX4_determinant_40 ⟨Nat.zero_le _, Nat.zero_le _⟩) h (fun r_26 v_28 w_29 g_30 H locs p_27 h => ?_)
        obtain ⟨p_27, rfl, rfl, rfl⟩ := p_27
        have t40 : dB (A1 < 0 ∧ bL w) (r_26).toInt 100 := fun ⟨q1, q2⟩ => by rw [p_27.2 (by omega)]; exact q2 _ _ (by omega) (by omega)
        have u40 : r_26 = (tmQ w 14 17 A1) 2 (((y_3 : Int32).toInt.toNat + 2) % 3) := by rw [p_27.1]; congr 1 <;> omega
        refine lv_lmul hx hb dX4_determinant_43 ?_
        refine lv_topl (fun x_31 e_32 => ?_)
        refine lv_aload_n hx hb dX4_determinant_44 rfl (lv_at hl 2 rfl) ?_
        refine lv_iconst (v := 1) hx hb dX4_determinant_45 (by decide) ?_
        refine lv_iload hx hb dX4_determinant_46 (lv_at hl 0 rfl) ?_
        refine lv_iload_n hx hb dX4_determinant_48 rfl (lv_at hl 3 rfl) ?_
        refine g_calll C (va_runV (As := [.int (1), .int (x_18), .int (p1)]) (rest := [.long (x_31)]) C.1 (c_X4_term_12 l G v w sg (1) (A1 := 1) (by decide) x_18 (A2 := (((y_3).toInt + 2) % 3)) i_20 p1 (A3 := A1) a1 (by omega) (by omega) ci) (cwV 3 hts gX4_determinant_X4_term rfl rfl rfl (by decide +kernel) ⟨by rw [hR]; exact Nat.le_of_ble_eq_true rfl, by rw [hR]; exact Nat.le_of_ble_eq_true rfl⟩) ⟨gPre_blind, g_recv C h 12 (by decide) (ci := 4) rfl rfl, gS_pre C h _⟩ rfl rfl hl.1 rfl (lv_room (Nat.le_of_ble_eq_true rfl)) dX4_determinant_49 ⟨Nat.zero_le _, Nat.zero_le _⟩) h (fun r_33 v_35 w_36 g_37 H locs p_34 h => ?_)
        obtain ⟨p_34, rfl, rfl, rfl⟩ := p_34
        have t49 : dB (A1 < 0 ∧ bL w) (r_33).toInt 100 := fun ⟨q1, q2⟩ => by rw [p_34.2 (by omega)]; exact q2 _ _ (by omega) (by omega)
        have u49 : r_33 = (tmQ w 14 17 A1) 1 (((y_3 : Int32).toInt.toNat + 2) % 3) := by rw [p_34.1]; congr 1 <;> omega
        refine lv_aload_n hx hb dX4_determinant_52 rfl (lv_at hl 2 rfl) ?_
        refine lv_iconst (v := 2) hx hb dX4_determinant_53 (by decide) ?_
        refine lv_iload hx hb dX4_determinant_54 (lv_at hl 1 rfl) ?_
        refine lv_iload_n hx hb dX4_determinant_56 rfl (lv_at hl 3 rfl) ?_
        refine g_calll C (va_runV (As := [.int (2), .int (x_12), .int (p1)]) (rest := [.long (r_33), .long (x_31)]) C.1 (c_X4_term_12 l G v w sg (2) (A1 := 2) (by decide) x_12 (A2 := (((y_3).toInt + 1) % 3)) i_14 p1 (A3 := A1) a1 (by omega) (by omega) ci) (cwV 3 hts gX4_determinant_X4_term rfl rfl rfl (by decide +kernel) ⟨by rw [hR]; exact Nat.le_of_ble_eq_true rfl, by rw [hR]; exact Nat.le_of_ble_eq_true rfl⟩) ⟨gPre_blind, g_recv C h 12 (by decide) (ci := 4) rfl rfl, gS_pre C h _⟩ rfl rfl hl.1 rfl (lv_room (Nat.le_of_ble_eq_true rfl)) dX4_determinant_57 ⟨Nat.zero_le _, Nat.zero_le _⟩) h (fun r_38 v_40 w_41 g_42 H locs p_39 h => ?_)
        obtain ⟨p_39, rfl, rfl, rfl⟩ := p_39
        have t57 : dB (A1 < 0 ∧ bL w) (r_38).toInt 100 := fun ⟨q1, q2⟩ => by rw [p_39.2 (by omega)]; exact q2 _ _ (by omega) (by omega)
        have u57 : r_38 = (tmQ w 14 17 A1) 2 (((y_3 : Int32).toInt.toNat + 1) % 3) := by rw [p_39.1]; congr 1 <;> omega
        refine lv_lmul hx hb dX4_determinant_60 ?_
        refine lv_topl (fun x_43 e_44 => ?_)
        refine lv_lsub hx hb dX4_determinant_61 ?_
        refine lv_topl (fun x_45 e_46 => ?_)
        refine lv_lstore (lv' := [(7, .long (x_45)), (6, .int (x_18)), (5, .int (x_12)), (0, .ref (G.2.2 (12))), (1, .int (p1)), (2, .long (y_2)), (4, .int (y_3))]) hx hb dX4_determinant_62 hl (by decide) rfl (fun ls hl => ?_)
        refine lv_lload_n hx hb dX4_determinant_64 rfl (lv_at hl 5 rfl) ?_
        refine lv_aload_n hx hb dX4_determinant_65 rfl (lv_at hl 3 rfl) ?_
        refine lv_iconst (v := 0) hx hb dX4_determinant_66 (by decide) ?_
        refine lv_iload hx hb dX4_determinant_67 (lv_at hl 6 rfl) ?_
        refine lv_iload_n hx hb dX4_determinant_69 rfl (lv_at hl 4 rfl) ?_
        refine g_calll C (va_runV (As := [.int (0), .int (y_3), .int (p1)]) (rest := [.long (y_2)]) C.1 (c_X4_term_12 l G v w sg (0) (A1 := 0) (by decide) y_3 (A2 := (y_3).toInt) rfl p1 (A3 := A1) a1 (by omega) (by omega) ci) (cwV 3 hts gX4_determinant_X4_term rfl rfl rfl (by decide +kernel) ⟨by rw [hR]; exact Nat.le_of_ble_eq_true rfl, by rw [hR]; exact Nat.le_of_ble_eq_true rfl⟩) ⟨gPre_blind, g_recv C h 12 (by decide) (ci := 4) rfl rfl, gS_pre C h _⟩ rfl rfl hl.1 rfl (lv_room (Nat.le_of_ble_eq_true rfl)) dX4_determinant_70 ⟨Nat.zero_le _, Nat.zero_le _⟩) h (fun r_47 v_49 w_50 g_51 H locs p_48 h => ?_)
        obtain ⟨p_48, rfl, rfl, rfl⟩ := p_48
        have t70 : dB (A1 < 0 ∧ bL w) (r_47).toInt 100 := fun ⟨q1, q2⟩ => by rw [p_48.2 (by omega)]; exact q2 _ _ (by omega) (by omega)
        have u70 : r_47 = (tmQ w 14 17 A1) 0 (y_3 : Int32).toInt.toNat := by rw [p_48.1]; congr 1 <;> omega
        refine lv_lload hx hb dX4_determinant_73 (lv_at hl 0 rfl) ?_
        refine lv_lmul hx hb dX4_determinant_75 ?_
        refine lv_topl (fun x_52 e_53 => ?_)
        refine lv_ladd hx hb dX4_determinant_76 ?_
        refine lv_topl (fun x_54 e_55 => ?_)
        have hds := detStep e_32 e_44 e_46 e_53 e_55 t32 t40 t49 t57 t70 f_5 (by omega)
        have hE5 := e_55
        have hE4 := e_53
        have hE3 := e_46
        have hE1 := e_32
        have hE2 := e_44
        refine lv_lstore_n (lv' := [(2, .long (x_54)), (7, .long (x_45)), (6, .int (x_18)), (5, .int (x_12)), (0, .ref (G.2.2 (12))), (1, .int (p1)), (4, .int (y_3))]) hx hb dX4_determinant_77 rfl hl (by decide) rfl (fun ls hl => ?_)
        obtain ⟨x_56, e_57⟩ : ∃ y : Int32, y = y_3 + 1 := ⟨_, rfl⟩
        have i_58 : x_56.toInt = (y_3).toInt + 1 := ia_add e_57 rfl (by decide) (by omega) (by omega)
        refine lv_iinc (v := x_56) (lv' := [(4, .int (x_56)), (2, .long (x_54)), (7, .long (x_45)), (6, .int (x_18)), (5, .int (x_12)), (0, .ref (G.2.2 (12))), (1, .int (p1))]) hx hb dX4_determinant_78 hl (k := 6) rfl (by rw [e_57]; rfl) (by decide) rfl (fun ls hl => ?_)
        refine lv_goto (tgt := 5) hx hb dX4_determinant_81 (by decide) ?_
        exact ih5 x_54 x_56 _ _ _ (by omega) (by omega) (hds.le (by omega)) (ds_st f_6 (by omega) (by omega) hE5 hE4 hE3 hE1 hE2 u32 u40 u49 u57 u70) h (lv_sub hl [5, 6, 1, 0] rfl)
  refine lv_istore (lv' := [(4, .int (0)), (2, .long (0)), (0, .ref (G.2.2 (12))), (1, .int (p1))]) hx hb dX4_determinant_3 hl (by decide) rfl (fun ls hl => ?_)
  exact J5_3 _ 0 0 _ _ _ (Nat.lt_succ_self _) (by omega) (fun _ => by decide) rfl h (lv_sub hl [2, 3, 1, 0] rfl)

set_option maxHeartbeats 4000000 in
set_option maxRecDepth 100000 in
theorem c_X4_term_45 (l : Launch) (G : gG) (v : Nat → Nat → Int32) (w : Nat → Nat → Int64) (sg : Nat → Nat) (p1 : Int32) {A1 : Int} (a1 : p1.toInt = A1) (p2 : Int32) {A2 : Int} (a2 : p2.toInt = A2) (p3 : Int32) {A3 : Int} (a3 : p3.toInt = A3) (b1 : 0 ≤ A1 ∧ A1 ≤ 2) (b2 : 0 ≤ A2 ∧ A2 ≤ 2) (ci : cI v) : Met l yX4_term wsX4_term ({ frames := 0, cells := 0, slots := 0, locals := 0 }) (gPre G v w sg [.ref (G.2.2 (45)), .int (p1), .int (p2), .int (p3)]) (gQl G (fun r v' w' sg' => (r = tmQ w 47 50 A3 A1.toNat A2.toNat ∧ (A2 ≠ A3 → r = w (47 + A1.toNat) A2.toNat)) ∧ v = v' ∧ w = w' ∧ sg = sg')) 0 0 (gA G) := by
  refine gM_ofl (cc := cX4_term) (maxL := 4) (by decide) rfl (Nat.le_of_ble_eq_true rfl) ?_
  intro p e R s m args below meth c Q ls C hR ret h hl
  have hx := C.1.1
  have hb := C.1.2.1
  have hown := C.1.2.2.2.1
  have hts := C.1.2.2.2.2
  have hl : lv_has ls 4 [(0, .ref (G.2.2 (45))), (1, .int (p1)), (2, .int (p2)), (3, .int (p3))] := hl
  have q1 := i_rng p1; rw [a1] at q1
  have q2 := i_rng p2; rw [a2] at q2
  have q3 := i_rng p3; rw [a3] at q3
  have z_0 : (0 : Int32).toInt = 0 := by decide
  have z_1 : (1 : Int32).toInt = 1 := by decide
  have f11 : Cond.fieldLink RX4 11 "WindHall$Equations" "left" "[[J" ∈ wsX4_term := by decide +kernel
  have hi4 : ∀ x ∈ u_ws RX4 TX4 2, x ∈ wsX4_term := fun x q => List.mem_cons_of_mem _ (List.mem_append_right _ q)
  have f16 : Cond.fieldLink RX4 16 "WindHall$Equations" "right" "[J" ∈ wsX4_term := by decide +kernel
  have o_1 := ci
  obtain ⟨K1, K2, K3, K4, K5, K6, K7, Ks, K9, Ka, Kr, Kz⟩ := o_1
  refine lv_iload_n hx hb dX4_term_0 rfl (lv_at hl 2 rfl) ?_
  refine lv_iload_n hx hb dX4_term_1 rfl (lv_at hl 3 rfl) ?_
  refine lv_icmp_ne (tgt := 14) hx hb dX4_term_2 (by decide) (fun c_2 => ?_) (fun c_2 => ?_)
  · have j_3 : ¬ (A2 = A3) := fun q => c_2 ((i_eq a2 a3).mpr q)
    refine lv_aload_n hx hb dX4_term_14 rfl (lv_at hl 0 rfl) ?_
    refine g_get (ci := 4) (x := .ref (G.2.2 (46))) C h 45 (by decide) rfl rfl hi4 0 (by decide) f11 rfl rfl dX4_term_15 ?_
    refine lv_iload_n hx hb dX4_term_18 rfl (lv_at hl 1 rfl) ?_
    refine g_aald (ty := .array .long) C h 46 (by decide) 1 (by decide) (n := 3) (by decide) rfl rfl (vp_of a1 (by omega) (by omega)) dX4_term_19 ?_
    obtain ⟨q_4, q_4_e, q_4_i, q_4_l⟩ := g_row sg (b := 46) (n := 3) (i := p1) (by decide) (by decide) a1 (by omega) (by omega)
    rw [q_4_e]
    refine lv_iload_n hx hb dX4_term_20 rfl (lv_at hl 2 rfl) ?_
    refine g_lald C h q_4 (by omega) (g_kd 47 3 2 rfl q_4_l) (n := 3) (g_ln 47 3 3 rfl q_4_l) (vp_of a2 (by omega) (by omega)) dX4_term_21 ?_
    refine lv_topl (fun x_5 e_6 => ?_)
    exact ret x_5 v w sg _ _ _ _ dX4_term_22 h ⟨⟨by rw [e_6, cl_nat a2, show q_4 = 47 + A1.toNat by omega]; unfold tmQ; rw [if_neg (by omega)], fun _ => by rw [e_6, cl_nat a2, show q_4 = 47 + A1.toNat by omega]⟩, rfl, rfl, rfl⟩
  · have j_3 : A2 = A3 := (i_eq a2 a3).mp c_2
    refine lv_aload_n hx hb dX4_term_5 rfl (lv_at hl 0 rfl) ?_
    refine g_get (ci := 4) (x := .ref (G.2.2 (50))) C h 45 (by decide) rfl rfl hi4 1 (by decide) f16 rfl rfl dX4_term_6 ?_
    refine lv_iload_n hx hb dX4_term_9 rfl (lv_at hl 1 rfl) ?_
    refine g_lald C h 50 (by decide) (by decide) (n := 3) (by decide) (vp_of a1 (by omega) (by omega)) dX4_term_10 ?_
    refine lv_topl (fun x_7 e_8 => ?_)
    refine lv_goto (tgt := 22) hx hb dX4_term_11 (by decide) ?_
    exact ret x_7 v w sg _ _ _ _ dX4_term_22 h ⟨⟨by rw [e_8, cl_nat a1]; unfold tmQ; rw [if_pos (by omega)], fun q => absurd (by omega) q⟩, rfl, rfl, rfl⟩

set_option maxHeartbeats 4000000 in
set_option maxRecDepth 100000 in
theorem c_X4_determinant_45 (l : Launch) (G : gG) (v : Nat → Nat → Int32) (w : Nat → Nat → Int64) (sg : Nat → Nat) (p1 : Int32) {A1 : Int} (a1 : p1.toInt = A1) (ci : cI v) : Met l yX4_determinant wsX4_determinant ({ frames := 1, cells := 0, slots := 0, locals := 23 }) (gPre G v w sg [.ref (G.2.2 (45)), .int (p1)]) (gQl G (fun r v' w' sg' => (r = dsN (tmQ w 47 50 A1) 3) ∧ v = v' ∧ w = w' ∧ sg = sg')) 0 0 (gA G) := by
  refine gM_ofl (cc := cX4_determinant) (maxL := 9) (by decide) rfl (Nat.le_of_ble_eq_true rfl) ?_
  intro p e R s m args below meth c Q ls C hR ret h hl
  have hx := C.1.1
  have hb := C.1.2.1
  have hown := C.1.2.2.2.1
  have hts := C.1.2.2.2.2
  have hl : lv_has ls 9 [(0, .ref (G.2.2 (45))), (1, .int (p1))] := hl
  have q1 := i_rng p1; rw [a1] at q1
  have z_0 : (0 : Int32).toInt = 0 := by decide
  have z_1 : (1 : Int32).toInt = 1 := by decide
  have z_2 : (2 : Int32).toInt = 2 := by decide
  have z_3 : (3 : Int32).toInt = 3 := by decide
  have o_1 := ci
  obtain ⟨K1, K2, K3, K4, K5, K6, K7, Ks, K9, Ka, Kr, Kz⟩ := o_1
  refine lv_lconst (v := 0) hx hb dX4_determinant_0 (by decide) ?_
  refine lv_lstore_n (lv' := [(2, .long (0)), (0, .ref (G.2.2 (45))), (1, .int (p1))]) hx hb dX4_determinant_1 rfl hl (by decide) rfl (fun ls hl => ?_)
  refine lv_iconst (v := 0) hx hb dX4_determinant_2 (by decide) ?_
  have J5_3 : ∀ (n : Nat) (y_2 : Int64) (y_3 : Int32) (H : Heap) (locs : List Loc) (ls : Array Slot), (3 - (y_3).toInt).toNat < n → (0 ≤ (y_3).toInt ∧ (y_3).toInt ≤ 3) → (y_2 = dsN (tmQ w 47 50 A1) ((y_3).toInt).toNat) → gS (gA G) G s v w sg H locs → lv_has ls 9 [(0, .ref (G.2.2 (45))), (1, .int (p1)), (2, .long (y_2)), (4, .int (y_3))] → W p l e R s m args below meth c H locs 0 0 Q (F0 m 5 ls []) := by
    intro n
    induction n with
    | zero => intro y_2 y_3 H locs ls hm; exact absurd hm (Nat.not_lt_zero _)
    | succ n ih5 =>
      intro y_2 y_3 H locs ls hm f_4 f_5 h hl
      refine lv_iload hx hb dX4_determinant_5 (lv_at hl 3 rfl) ?_
      refine lv_iconst (v := 3) hx hb dX4_determinant_7 (by decide) ?_
      refine lv_icmp_ge (tgt := 84) hx hb dX4_determinant_8 (by decide) (fun c_6 => ?_) (fun c_6 => ?_)
      · have j_7 : 3 ≤ (y_3).toInt := (i_le (by decide) rfl).mp c_6
        refine lv_lload_n hx hb dX4_determinant_84 rfl (lv_at hl 2 rfl) ?_
        exact ret y_2 v w sg _ _ _ _ dX4_determinant_85 h ⟨((show ((y_3).toInt).toNat = 3 by omega) ▸ f_5), rfl, rfl, rfl⟩
      · have j_7 : ¬ (3 ≤ (y_3).toInt) := fun q => c_6 ((i_le (by decide) rfl).mpr q)
        refine lv_iload hx hb dX4_determinant_11 (lv_at hl 3 rfl) ?_
        refine lv_iconst (v := 1) hx hb dX4_determinant_13 (by decide) ?_
        refine lv_iadd hx hb dX4_determinant_14 ?_
        refine lv_topi (fun x_8 e_9 => ?_)
        have i_10 : x_8.toInt = (y_3).toInt + 1 := ia_add e_9 rfl (by decide) (by omega) (by omega)
        refine lv_iconst (v := 3) hx hb dX4_determinant_15 (by decide) ?_
        refine lv_irem hx hb dX4_determinant_16 (by decide) ?_
        refine lv_topi (fun x_11 e_12 => ?_)
        have i_13 : x_11.toInt = ((y_3).toInt + 1) % 3 := ia_rem e_12 i_10 (by decide) (by omega) (by omega)
        refine lv_istore (lv' := [(5, .int (x_11)), (0, .ref (G.2.2 (45))), (1, .int (p1)), (2, .long (y_2)), (4, .int (y_3))]) hx hb dX4_determinant_17 hl (by decide) rfl (fun ls hl => ?_)
        refine lv_iload hx hb dX4_determinant_19 (lv_at hl 4 rfl) ?_
        refine lv_iconst (v := 2) hx hb dX4_determinant_21 (by decide) ?_
        refine lv_iadd hx hb dX4_determinant_22 ?_
        refine lv_topi (fun x_14 e_15 => ?_)
        have i_16 : x_14.toInt = (y_3).toInt + 2 := ia_add e_15 rfl (by decide) (by omega) (by omega)
        refine lv_iconst (v := 3) hx hb dX4_determinant_23 (by decide) ?_
        refine lv_irem hx hb dX4_determinant_24 (by decide) ?_
        refine lv_topi (fun x_17 e_18 => ?_)
        have i_19 : x_17.toInt = ((y_3).toInt + 2) % 3 := ia_rem e_18 i_16 (by decide) (by omega) (by omega)
        refine lv_istore (lv' := [(6, .int (x_17)), (5, .int (x_11)), (0, .ref (G.2.2 (45))), (1, .int (p1)), (2, .long (y_2)), (4, .int (y_3))]) hx hb dX4_determinant_25 hl (by decide) rfl (fun ls hl => ?_)
        refine lv_aload_n hx hb dX4_determinant_27 rfl (lv_at hl 2 rfl) ?_
        refine lv_iconst (v := 1) hx hb dX4_determinant_28 (by decide) ?_
        refine lv_iload hx hb dX4_determinant_29 (lv_at hl 1 rfl) ?_
        refine lv_iload_n hx hb dX4_determinant_31 rfl (lv_at hl 3 rfl) ?_
        refine g_calll C (va_runV (As := [.int (1), .int (x_11), .int (p1)]) (rest := []) C.1 (c_X4_term_45 l G v w sg (1) (A1 := 1) (by decide) x_11 (A2 := (((y_3).toInt + 1) % 3)) i_13 p1 (A3 := A1) a1 (by omega) (by omega) ci) (cwV 3 hts gX4_determinant_X4_term rfl rfl rfl (by decide +kernel) ⟨by rw [hR]; exact Nat.le_of_ble_eq_true rfl, by rw [hR]; exact Nat.le_of_ble_eq_true rfl⟩) ⟨gPre_blind, g_recv C h 45 (by decide) (ci := 4) rfl rfl, gS_pre C h _⟩ rfl rfl hl.1 rfl (lv_room (Nat.le_of_ble_eq_true rfl)) dX4_determinant_32 ⟨Nat.zero_le _, Nat.zero_le _⟩) h (fun r_20 v_22 w_23 g_24 H locs p_21 h => ?_)
        obtain ⟨p_21, rfl, rfl, rfl⟩ := p_21
        have u32 : r_20 = (tmQ w 47 50 A1) 1 (((y_3 : Int32).toInt.toNat + 1) % 3) := by rw [p_21.1]; congr 1 <;> omega
        refine lv_aload_n hx hb dX4_determinant_35 rfl (lv_at hl 2 rfl) ?_
        refine lv_iconst (v := 2) hx hb dX4_determinant_36 (by decide) ?_
        refine lv_iload hx hb dX4_determinant_37 (lv_at hl 0 rfl) ?_
        refine lv_iload_n hx hb dX4_determinant_39 rfl (lv_at hl 3 rfl) ?_
        refine g_calll C (va_runV (As := [.int (2), .int (x_17), .int (p1)]) (rest := [.long (r_20)]) C.1 (c_X4_term_45 l G v w sg (2) (A1 := 2) (by decide) x_17 (A2 := (((y_3).toInt + 2) % 3)) i_19 p1 (A3 := A1) a1 (by omega) (by omega) ci) (cwV 3 hts gX4_determinant_X4_term rfl rfl rfl (by decide +kernel) ⟨by rw [hR]; exact Nat.le_of_ble_eq_true rfl, by rw [hR]; exact Nat.le_of_ble_eq_true rfl⟩) ⟨gPre_blind, g_recv C h 45 (by decide) (ci := 4) rfl rfl, gS_pre C h _⟩ rfl rfl hl.1 rfl (lv_room (Nat.le_of_ble_eq_true rfl)) dX4_determinant_40 ⟨Nat.zero_le _, Nat.zero_le _⟩) h (fun r_25 v_27 w_28 g_29 H locs p_26 h => ?_)
        obtain ⟨p_26, rfl, rfl, rfl⟩ := p_26
        have u40 : r_25 = (tmQ w 47 50 A1) 2 (((y_3 : Int32).toInt.toNat + 2) % 3) := by rw [p_26.1]; congr 1 <;> omega
        refine lv_lmul hx hb dX4_determinant_43 ?_
        refine lv_topl (fun x_30 e_31 => ?_)
        refine lv_aload_n hx hb dX4_determinant_44 rfl (lv_at hl 2 rfl) ?_
        refine lv_iconst (v := 1) hx hb dX4_determinant_45 (by decide) ?_
        refine lv_iload hx hb dX4_determinant_46 (lv_at hl 0 rfl) ?_
        refine lv_iload_n hx hb dX4_determinant_48 rfl (lv_at hl 3 rfl) ?_
        refine g_calll C (va_runV (As := [.int (1), .int (x_17), .int (p1)]) (rest := [.long (x_30)]) C.1 (c_X4_term_45 l G v w sg (1) (A1 := 1) (by decide) x_17 (A2 := (((y_3).toInt + 2) % 3)) i_19 p1 (A3 := A1) a1 (by omega) (by omega) ci) (cwV 3 hts gX4_determinant_X4_term rfl rfl rfl (by decide +kernel) ⟨by rw [hR]; exact Nat.le_of_ble_eq_true rfl, by rw [hR]; exact Nat.le_of_ble_eq_true rfl⟩) ⟨gPre_blind, g_recv C h 45 (by decide) (ci := 4) rfl rfl, gS_pre C h _⟩ rfl rfl hl.1 rfl (lv_room (Nat.le_of_ble_eq_true rfl)) dX4_determinant_49 ⟨Nat.zero_le _, Nat.zero_le _⟩) h (fun r_32 v_34 w_35 g_36 H locs p_33 h => ?_)
        obtain ⟨p_33, rfl, rfl, rfl⟩ := p_33
        have u49 : r_32 = (tmQ w 47 50 A1) 1 (((y_3 : Int32).toInt.toNat + 2) % 3) := by rw [p_33.1]; congr 1 <;> omega
        refine lv_aload_n hx hb dX4_determinant_52 rfl (lv_at hl 2 rfl) ?_
        refine lv_iconst (v := 2) hx hb dX4_determinant_53 (by decide) ?_
        refine lv_iload hx hb dX4_determinant_54 (lv_at hl 1 rfl) ?_
        refine lv_iload_n hx hb dX4_determinant_56 rfl (lv_at hl 3 rfl) ?_
        refine g_calll C (va_runV (As := [.int (2), .int (x_11), .int (p1)]) (rest := [.long (r_32), .long (x_30)]) C.1 (c_X4_term_45 l G v w sg (2) (A1 := 2) (by decide) x_11 (A2 := (((y_3).toInt + 1) % 3)) i_13 p1 (A3 := A1) a1 (by omega) (by omega) ci) (cwV 3 hts gX4_determinant_X4_term rfl rfl rfl (by decide +kernel) ⟨by rw [hR]; exact Nat.le_of_ble_eq_true rfl, by rw [hR]; exact Nat.le_of_ble_eq_true rfl⟩) ⟨gPre_blind, g_recv C h 45 (by decide) (ci := 4) rfl rfl, gS_pre C h _⟩ rfl rfl hl.1 rfl (lv_room (Nat.le_of_ble_eq_true rfl)) dX4_determinant_57 ⟨Nat.zero_le _, Nat.zero_le _⟩) h (fun r_37 v_39 w_40 g_41 H locs p_38 h => ?_)
        obtain ⟨p_38, rfl, rfl, rfl⟩ := p_38
        have u57 : r_37 = (tmQ w 47 50 A1) 2 (((y_3 : Int32).toInt.toNat + 1) % 3) := by rw [p_38.1]; congr 1 <;> omega
        refine lv_lmul hx hb dX4_determinant_60 ?_
        refine lv_topl (fun x_42 e_43 => ?_)
        refine lv_lsub hx hb dX4_determinant_61 ?_
        refine lv_topl (fun x_44 e_45 => ?_)
        refine lv_lstore (lv' := [(7, .long (x_44)), (6, .int (x_17)), (5, .int (x_11)), (0, .ref (G.2.2 (45))), (1, .int (p1)), (2, .long (y_2)), (4, .int (y_3))]) hx hb dX4_determinant_62 hl (by decide) rfl (fun ls hl => ?_)
        refine lv_lload_n hx hb dX4_determinant_64 rfl (lv_at hl 5 rfl) ?_
        refine lv_aload_n hx hb dX4_determinant_65 rfl (lv_at hl 3 rfl) ?_
        refine lv_iconst (v := 0) hx hb dX4_determinant_66 (by decide) ?_
        refine lv_iload hx hb dX4_determinant_67 (lv_at hl 6 rfl) ?_
        refine lv_iload_n hx hb dX4_determinant_69 rfl (lv_at hl 4 rfl) ?_
        refine g_calll C (va_runV (As := [.int (0), .int (y_3), .int (p1)]) (rest := [.long (y_2)]) C.1 (c_X4_term_45 l G v w sg (0) (A1 := 0) (by decide) y_3 (A2 := (y_3).toInt) rfl p1 (A3 := A1) a1 (by omega) (by omega) ci) (cwV 3 hts gX4_determinant_X4_term rfl rfl rfl (by decide +kernel) ⟨by rw [hR]; exact Nat.le_of_ble_eq_true rfl, by rw [hR]; exact Nat.le_of_ble_eq_true rfl⟩) ⟨gPre_blind, g_recv C h 45 (by decide) (ci := 4) rfl rfl, gS_pre C h _⟩ rfl rfl hl.1 rfl (lv_room (Nat.le_of_ble_eq_true rfl)) dX4_determinant_70 ⟨Nat.zero_le _, Nat.zero_le _⟩) h (fun r_46 v_48 w_49 g_50 H locs p_47 h => ?_)
        obtain ⟨p_47, rfl, rfl, rfl⟩ := p_47
        have u70 : r_46 = (tmQ w 47 50 A1) 0 (y_3 : Int32).toInt.toNat := by rw [p_47.1]; congr 1 <;> omega
        refine lv_lload hx hb dX4_determinant_73 (lv_at hl 0 rfl) ?_
        refine lv_lmul hx hb dX4_determinant_75 ?_
        refine lv_topl (fun x_51 e_52 => ?_)
        refine lv_ladd hx hb dX4_determinant_76 ?_
        refine lv_topl (fun x_53 e_54 => ?_)
        have hE5 := e_54
        have hE4 := e_52
        have hE3 := e_45
        have hE1 := e_31
        have hE2 := e_43
        refine lv_lstore_n (lv' := [(2, .long (x_53)), (7, .long (x_44)), (6, .int (x_17)), (5, .int (x_11)), (0, .ref (G.2.2 (45))), (1, .int (p1)), (4, .int (y_3))]) hx hb dX4_determinant_77 rfl hl (by decide) rfl (fun ls hl => ?_)
        obtain ⟨x_55, e_56⟩ : ∃ y : Int32, y = y_3 + 1 := ⟨_, rfl⟩
        have i_57 : x_55.toInt = (y_3).toInt + 1 := ia_add e_56 rfl (by decide) (by omega) (by omega)
        refine lv_iinc (v := x_55) (lv' := [(4, .int (x_55)), (2, .long (x_53)), (7, .long (x_44)), (6, .int (x_17)), (5, .int (x_11)), (0, .ref (G.2.2 (45))), (1, .int (p1))]) hx hb dX4_determinant_78 hl (k := 6) rfl (by rw [e_56]; rfl) (by decide) rfl (fun ls hl => ?_)
        refine lv_goto (tgt := 5) hx hb dX4_determinant_81 (by decide) ?_
        exact ih5 x_53 x_55 _ _ _ (by omega) (by omega) (ds_st f_5 (by omega) (by omega) hE5 hE4 hE3 hE1 hE2 u32 u40 u49 u57 u70) h (lv_sub hl [5, 6, 1, 0] rfl)
  refine lv_istore (lv' := [(4, .int (0)), (2, .long (0)), (0, .ref (G.2.2 (45))), (1, .int (p1))]) hx hb dX4_determinant_3 hl (by decide) rfl (fun ls hl => ?_)
  exact J5_3 _ 0 0 _ _ _ (Nat.lt_succ_self _) (by omega) rfl h (lv_sub hl [2, 3, 1, 0] rfl)

set_option maxHeartbeats 4000000 in
set_option maxRecDepth 100000 in
theorem c_X0_productsOf (l : Launch) (G : gG) (v : Nat → Nat → Int32) (w : Nat → Nat → Int64) (sg : Nat → Nat) (p1 : Int32) {A1 : Int} (a1 : p1.toInt = A1) (p2 : Int32) {A2 : Int} (a2 : p2.toInt = A2) (p3 : Int32) {A3 : Int} (a3 : p3.toInt = A3) (p4 : Int32) {A4 : Int} (a4 : p4.toInt = A4) (b1 : 0 ≤ A1 ∧ A1 ≤ 2) (ci : cI v) : Met l yX0_productsOf wsX0_productsOf ({ frames := 0, cells := 0, slots := 0, locals := 0 }) (gPre G v w sg [.ref (G.2.2 (1)), .int (p1), .int (p2), .int (p3), .int (p4)]) (gQi G (fun r v' w' sg' => (r = pr6 (v (7 + A1.toNat)) p2 p3 p4) ∧ v = v' ∧ w = w' ∧ sg = sg')) 0 0 (gA G) := by
  refine gM_ofi (cc := cX0_productsOf) (maxL := 6) (by decide) rfl (Nat.le_of_ble_eq_true rfl) ?_
  intro p e R s m args below meth c Q ls C hR ret h hl
  have hx := C.1.1
  have hb := C.1.2.1
  have hown := C.1.2.2.2.1
  have hts := C.1.2.2.2.2
  have hl : lv_has ls 6 [(0, .ref (G.2.2 (1))), (1, .int (p1)), (2, .int (p2)), (3, .int (p3)), (4, .int (p4))] := hl
  have q1 := i_rng p1; rw [a1] at q1
  have q2 := i_rng p2; rw [a2] at q2
  have q3 := i_rng p3; rw [a3] at q3
  have q4 := i_rng p4; rw [a4] at q4
  have z_0 : (0 : Int32).toInt = 0 := by decide
  have z_1 : (1 : Int32).toInt = 1 := by decide
  have z_2 : (2 : Int32).toInt = 2 := by decide
  have z_3 : (3 : Int32).toInt = 3 := by decide
  have z_4 : (4 : Int32).toInt = 4 := by decide
  have z_5 : (5 : Int32).toInt = 5 := by decide
  have f18 : Cond.fieldLink RX0 18 "WindHall$Balance" "second" "[[I" ∈ wsX0_productsOf := by decide +kernel
  have hi0 : ∀ x ∈ u_ws RX0 TX0 7, x ∈ wsX0_productsOf := fun x q => List.mem_cons_of_mem _ (List.mem_append_right _ q)
  have o_1 := ci
  obtain ⟨K1, K2, K3, K4, K5, K6, K7, Ks, K9, Ka, Kr, Kz⟩ := o_1
  refine lv_aload_n hx hb dX0_productsOf_0 rfl (lv_at hl 0 rfl) ?_
  refine g_get (ci := 0) (x := .ref (G.2.2 (6))) C h 1 (by decide) rfl rfl hi0 1 (by decide) f18 rfl rfl dX0_productsOf_1 ?_
  refine lv_iload_n hx hb dX0_productsOf_4 rfl (lv_at hl 1 rfl) ?_
  refine g_aald (ty := .array .int) C h 6 (by decide) 0 (by decide) (n := 3) (by decide) rfl rfl (vp_of a1 (by omega) (by omega)) dX0_productsOf_5 ?_
  obtain ⟨q_2, q_2_e, q_2_i, q_2_l⟩ := g_row sg (b := 6) (n := 3) (i := p1) (by decide) (by decide) a1 (by omega) (by omega)
  rw [q_2_e]
  refine lv_astore (lv' := [(5, .ref (G.2.2 (q_2))), (0, .ref (G.2.2 (1))), (1, .int (p1)), (2, .int (p2)), (3, .int (p3)), (4, .int (p4))]) hx hb dX0_productsOf_6 hl (by decide) rfl (fun ls hl => ?_)
  refine lv_aload hx hb dX0_productsOf_8 (lv_at hl 0 rfl) ?_
  refine lv_iconst (v := 0) hx hb dX0_productsOf_10 (by decide) ?_
  refine g_iald C h q_2 (by omega) (g_kd 7 3 1 rfl q_2_l) (n := 6) (g_ln 7 3 6 rfl q_2_l) (vp_of (I := 0) (by decide) (by decide) (by decide)) dX0_productsOf_11 ?_
  refine lv_topi (fun x_3 e_4 => ?_)
  refine lv_iload_n hx hb dX0_productsOf_12 rfl (lv_at hl 3 rfl) ?_
  refine lv_imul hx hb dX0_productsOf_13 ?_
  refine lv_topi (fun x_5 e_6 => ?_)
  refine lv_iload_n hx hb dX0_productsOf_14 rfl (lv_at hl 3 rfl) ?_
  refine lv_imul hx hb dX0_productsOf_15 ?_
  refine lv_topi (fun x_7 e_8 => ?_)
  refine lv_aload hx hb dX0_productsOf_16 (lv_at hl 0 rfl) ?_
  refine lv_iconst (v := 1) hx hb dX0_productsOf_18 (by decide) ?_
  refine g_iald C h q_2 (by omega) (g_kd 7 3 1 rfl q_2_l) (n := 6) (g_ln 7 3 6 rfl q_2_l) (vp_of (I := 1) (by decide) (by decide) (by decide)) dX0_productsOf_19 ?_
  refine lv_topi (fun x_9 e_10 => ?_)
  refine lv_iload_n hx hb dX0_productsOf_20 rfl (lv_at hl 3 rfl) ?_
  refine lv_imul hx hb dX0_productsOf_21 ?_
  refine lv_topi (fun x_11 e_12 => ?_)
  refine lv_iload_n hx hb dX0_productsOf_22 rfl (lv_at hl 4 rfl) ?_
  refine lv_imul hx hb dX0_productsOf_23 ?_
  refine lv_topi (fun x_13 e_14 => ?_)
  refine lv_iadd hx hb dX0_productsOf_24 ?_
  refine lv_topi (fun x_15 e_16 => ?_)
  refine lv_aload hx hb dX0_productsOf_25 (lv_at hl 0 rfl) ?_
  refine lv_iconst (v := 2) hx hb dX0_productsOf_27 (by decide) ?_
  refine g_iald C h q_2 (by omega) (g_kd 7 3 1 rfl q_2_l) (n := 6) (g_ln 7 3 6 rfl q_2_l) (vp_of (I := 2) (by decide) (by decide) (by decide)) dX0_productsOf_28 ?_
  refine lv_topi (fun x_17 e_18 => ?_)
  refine lv_iload_n hx hb dX0_productsOf_29 rfl (lv_at hl 3 rfl) ?_
  refine lv_imul hx hb dX0_productsOf_30 ?_
  refine lv_topi (fun x_19 e_20 => ?_)
  refine lv_iload hx hb dX0_productsOf_31 (lv_at hl 5 rfl) ?_
  refine lv_imul hx hb dX0_productsOf_33 ?_
  refine lv_topi (fun x_21 e_22 => ?_)
  refine lv_iadd hx hb dX0_productsOf_34 ?_
  refine lv_topi (fun x_23 e_24 => ?_)
  refine lv_aload hx hb dX0_productsOf_35 (lv_at hl 0 rfl) ?_
  refine lv_iconst (v := 3) hx hb dX0_productsOf_37 (by decide) ?_
  refine g_iald C h q_2 (by omega) (g_kd 7 3 1 rfl q_2_l) (n := 6) (g_ln 7 3 6 rfl q_2_l) (vp_of (I := 3) (by decide) (by decide) (by decide)) dX0_productsOf_38 ?_
  refine lv_topi (fun x_25 e_26 => ?_)
  refine lv_iload_n hx hb dX0_productsOf_39 rfl (lv_at hl 4 rfl) ?_
  refine lv_imul hx hb dX0_productsOf_40 ?_
  refine lv_topi (fun x_27 e_28 => ?_)
  refine lv_iload_n hx hb dX0_productsOf_41 rfl (lv_at hl 4 rfl) ?_
  refine lv_imul hx hb dX0_productsOf_42 ?_
  refine lv_topi (fun x_29 e_30 => ?_)
  refine lv_iadd hx hb dX0_productsOf_43 ?_
  refine lv_topi (fun x_31 e_32 => ?_)
  refine lv_aload hx hb dX0_productsOf_44 (lv_at hl 0 rfl) ?_
  refine lv_iconst (v := 4) hx hb dX0_productsOf_46 (by decide) ?_
  refine g_iald C h q_2 (by omega) (g_kd 7 3 1 rfl q_2_l) (n := 6) (g_ln 7 3 6 rfl q_2_l) (vp_of (I := 4) (by decide) (by decide) (by decide)) dX0_productsOf_47 ?_
  refine lv_topi (fun x_33 e_34 => ?_)
  refine lv_iload_n hx hb dX0_productsOf_48 rfl (lv_at hl 4 rfl) ?_
  refine lv_imul hx hb dX0_productsOf_49 ?_
  refine lv_topi (fun x_35 e_36 => ?_)
  refine lv_iload hx hb dX0_productsOf_50 (lv_at hl 5 rfl) ?_
  refine lv_imul hx hb dX0_productsOf_52 ?_
  refine lv_topi (fun x_37 e_38 => ?_)
  refine lv_iadd hx hb dX0_productsOf_53 ?_
  refine lv_topi (fun x_39 e_40 => ?_)
  refine lv_aload hx hb dX0_productsOf_54 (lv_at hl 0 rfl) ?_
  refine lv_iconst (v := 5) hx hb dX0_productsOf_56 (by decide) ?_
  refine g_iald C h q_2 (by omega) (g_kd 7 3 1 rfl q_2_l) (n := 6) (g_ln 7 3 6 rfl q_2_l) (vp_of (I := 5) (by decide) (by decide) (by decide)) dX0_productsOf_57 ?_
  refine lv_topi (fun x_41 e_42 => ?_)
  refine lv_iload hx hb dX0_productsOf_58 (lv_at hl 5 rfl) ?_
  refine lv_imul hx hb dX0_productsOf_60 ?_
  refine lv_topi (fun x_43 e_44 => ?_)
  refine lv_iload hx hb dX0_productsOf_61 (lv_at hl 5 rfl) ?_
  refine lv_imul hx hb dX0_productsOf_63 ?_
  refine lv_topi (fun x_45 e_46 => ?_)
  refine lv_iadd hx hb dX0_productsOf_64 ?_
  refine lv_topi (fun x_47 e_48 => ?_)
  exact ret x_47 v w sg _ _ _ _ dX0_productsOf_65 h ⟨(by rw [show 7 + A1.toNat = q_2 by omega]; subst_vars; rfl), rfl, rfl, rfl⟩

set_option maxHeartbeats 4000000 in
set_option maxRecDepth 100000 in
theorem c_X0_readingOf (l : Launch) (G : gG) (v : Nat → Nat → Int32) (w : Nat → Nat → Int64) (sg : Nat → Nat) (p1 : Int32) {A1 : Int} (a1 : p1.toInt = A1) (p2 : Int32) {A2 : Int} (a2 : p2.toInt = A2) (p3 : Int32) {A3 : Int} (a3 : p3.toInt = A3) (p4 : Int32) {A4 : Int} (a4 : p4.toInt = A4) (b1 : 0 ≤ A1 ∧ A1 ≤ 2) (ci : cI v) : Met l yX0_readingOf wsX0_readingOf ({ frames := 1, cells := 0, slots := 0, locals := 25 }) (gPre G v w sg [.ref (G.2.2 (1)), .int (p1), .int (p2), .int (p3), .int (p4)]) (gQi G (fun r v' w' sg' => (r = rd9 (v (3 + A1.toNat)) (v (7 + A1.toNat)) p2 p3 p4) ∧ v = v' ∧ w = w' ∧ sg = sg')) 0 0 (gA G) := by
  refine gM_ofi (cc := cX0_readingOf) (maxL := 6) (by decide) rfl (Nat.le_of_ble_eq_true rfl) ?_
  intro p e R s m args below meth c Q ls C hR ret h hl
  have hx := C.1.1
  have hb := C.1.2.1
  have hown := C.1.2.2.2.1
  have hts := C.1.2.2.2.2
  have hl : lv_has ls 6 [(0, .ref (G.2.2 (1))), (1, .int (p1)), (2, .int (p2)), (3, .int (p3)), (4, .int (p4))] := hl
  have q1 := i_rng p1; rw [a1] at q1
  have q2 := i_rng p2; rw [a2] at q2
  have q3 := i_rng p3; rw [a3] at q3
  have q4 := i_rng p4; rw [a4] at q4
  have z_0 : (0 : Int32).toInt = 0 := by decide
  have z_1 : (1 : Int32).toInt = 1 := by decide
  have z_2 : (2 : Int32).toInt = 2 := by decide
  have z_100 : (100 : Int32).toInt = 100 := by decide
  have f11 : Cond.fieldLink RX0 11 "WindHall$Balance" "first" "[[I" ∈ wsX0_readingOf := by decide +kernel
  have hi0 : ∀ x ∈ u_ws RX0 TX0 7, x ∈ wsX0_readingOf := fun x q => List.mem_cons_of_mem _ (List.mem_append_right _ q)
  have o_1 := ci
  obtain ⟨K1, K2, K3, K4, K5, K6, K7, Ks, K9, Ka, Kr, Kz⟩ := o_1
  refine lv_aload_n hx hb dX0_readingOf_0 rfl (lv_at hl 0 rfl) ?_
  refine g_get (ci := 0) (x := .ref (G.2.2 (2))) C h 1 (by decide) rfl rfl hi0 0 (by decide) f11 rfl rfl dX0_readingOf_1 ?_
  refine lv_iload_n hx hb dX0_readingOf_4 rfl (lv_at hl 1 rfl) ?_
  refine g_aald (ty := .array .int) C h 2 (by decide) 0 (by decide) (n := 3) (by decide) rfl rfl (vp_of a1 (by omega) (by omega)) dX0_readingOf_5 ?_
  obtain ⟨q_2, q_2_e, q_2_i, q_2_l⟩ := g_row sg (b := 2) (n := 3) (i := p1) (by decide) (by decide) a1 (by omega) (by omega)
  rw [q_2_e]
  refine lv_astore (lv' := [(5, .ref (G.2.2 (q_2))), (0, .ref (G.2.2 (1))), (1, .int (p1)), (2, .int (p2)), (3, .int (p3)), (4, .int (p4))]) hx hb dX0_readingOf_6 hl (by decide) rfl (fun ls hl => ?_)
  refine lv_bipush (v := 100) hx hb dX0_readingOf_8 (by decide) ?_
  refine lv_aload hx hb dX0_readingOf_10 (lv_at hl 0 rfl) ?_
  refine lv_iconst (v := 0) hx hb dX0_readingOf_12 (by decide) ?_
  refine g_iald C h q_2 (by omega) (g_kd 3 3 1 rfl q_2_l) (n := 3) (g_ln 3 3 3 rfl q_2_l) (vp_of (I := 0) (by decide) (by decide) (by decide)) dX0_readingOf_13 ?_
  refine lv_topi (fun x_3 e_4 => ?_)
  refine lv_iload_n hx hb dX0_readingOf_14 rfl (lv_at hl 3 rfl) ?_
  refine lv_imul hx hb dX0_readingOf_15 ?_
  refine lv_topi (fun x_5 e_6 => ?_)
  refine lv_aload hx hb dX0_readingOf_16 (lv_at hl 0 rfl) ?_
  refine lv_iconst (v := 1) hx hb dX0_readingOf_18 (by decide) ?_
  refine g_iald C h q_2 (by omega) (g_kd 3 3 1 rfl q_2_l) (n := 3) (g_ln 3 3 3 rfl q_2_l) (vp_of (I := 1) (by decide) (by decide) (by decide)) dX0_readingOf_19 ?_
  refine lv_topi (fun x_7 e_8 => ?_)
  refine lv_iload_n hx hb dX0_readingOf_20 rfl (lv_at hl 4 rfl) ?_
  refine lv_imul hx hb dX0_readingOf_21 ?_
  refine lv_topi (fun x_9 e_10 => ?_)
  refine lv_iadd hx hb dX0_readingOf_22 ?_
  refine lv_topi (fun x_11 e_12 => ?_)
  refine lv_aload hx hb dX0_readingOf_23 (lv_at hl 0 rfl) ?_
  refine lv_iconst (v := 2) hx hb dX0_readingOf_25 (by decide) ?_
  refine g_iald C h q_2 (by omega) (g_kd 3 3 1 rfl q_2_l) (n := 3) (g_ln 3 3 3 rfl q_2_l) (vp_of (I := 2) (by decide) (by decide) (by decide)) dX0_readingOf_26 ?_
  refine lv_topi (fun x_13 e_14 => ?_)
  refine lv_iload hx hb dX0_readingOf_27 (lv_at hl 5 rfl) ?_
  refine lv_imul hx hb dX0_readingOf_29 ?_
  refine lv_topi (fun x_15 e_16 => ?_)
  refine lv_iadd hx hb dX0_readingOf_30 ?_
  refine lv_topi (fun x_17 e_18 => ?_)
  refine lv_imul hx hb dX0_readingOf_31 ?_
  refine lv_topi (fun x_19 e_20 => ?_)
  refine lv_aload_n hx hb dX0_readingOf_32 rfl (lv_at hl 1 rfl) ?_
  refine lv_iload_n hx hb dX0_readingOf_33 rfl (lv_at hl 2 rfl) ?_
  refine lv_iload_n hx hb dX0_readingOf_34 rfl (lv_at hl 3 rfl) ?_
  refine lv_iload_n hx hb dX0_readingOf_35 rfl (lv_at hl 4 rfl) ?_
  refine lv_iload hx hb dX0_readingOf_36 (lv_at hl 5 rfl) ?_
  refine g_calli C (va_runV (As := [.int (p1), .int (p2), .int (p3), .int (p4)]) (rest := [.int (x_19)]) C.1 (c_X0_productsOf l G v w sg p1 (A1 := A1) a1 p2 (A2 := A2) a2 p3 (A3 := A3) a3 p4 (A4 := A4) a4 (by omega) ci) (cwV 4 hts gX0_readingOf_X0_productsOf rfl rfl rfl (by decide +kernel) ⟨by rw [hR]; exact Nat.le_of_ble_eq_true rfl, by rw [hR]; exact Nat.le_of_ble_eq_true rfl⟩) ⟨gPre_blind, g_recv C h 1 (by decide) (ci := 0) rfl rfl, gS_pre C h _⟩ rfl rfl hl.1 rfl (lv_room (Nat.le_of_ble_eq_true rfl)) dX0_readingOf_38 ⟨Nat.zero_le _, Nat.zero_le _⟩) h (fun r_21 v_23 w_24 g_25 H locs p_22 h => ?_)
  obtain ⟨p_22, rfl, rfl, rfl⟩ := p_22
  refine lv_iadd hx hb dX0_readingOf_41 ?_
  refine lv_topi (fun x_26 e_27 => ?_)
  exact ret x_26 v w sg _ _ _ _ dX0_readingOf_42 h ⟨(by rw [show 3 + A1.toNat = q_2 by omega]; subst_vars; rfl), rfl, rfl, rfl⟩

set_option maxHeartbeats 4000000 in
set_option maxRecDepth 100000 in
theorem c_X0_setLeft (l : Launch) (G : gG) (v : Nat → Nat → Int32) (w : Nat → Nat → Int64) (sg : Nat → Nat) (ci : cI v) : Met l yX0_setLeft wsX0_setLeft ({ frames := 0, cells := 0, slots := 0, locals := 0 }) (gPre G v w sg [.ref (G.2.2 (1))]) (gQv G (fun v' w' sg' => (cI v ∧ fC 1 18 v w v w' ∧ bL w' ∧ lfE v w') ∧ v = v' ∧ sg = sg')) 0 0 (gA G) := by
  refine gM_ofv (cc := cX0_setLeft) (maxL := 3) (by decide) rfl (Nat.le_of_ble_eq_true rfl) ?_
  intro p e R s m args below meth c Q ls C hR ret h hl
  have hx := C.1.1
  have hb := C.1.2.1
  have hown := C.1.2.2.2.1
  have hts := C.1.2.2.2.2
  have hl : lv_has ls 3 [(0, .ref (G.2.2 (1)))] := hl
  have z_0 : (0 : Int32).toInt = 0 := by decide
  have z_1 : (1 : Int32).toInt = 1 := by decide
  have z_3 : (3 : Int32).toInt = 3 := by decide
  have f38 : Cond.fieldLink RX0 38 "WindHall$Balance" "equations" "LWindHall$Equations;" ∈ wsX0_setLeft := by decide +kernel
  have hi0 : ∀ x ∈ u_ws RX0 TX0 7, x ∈ wsX0_setLeft := fun x q => List.mem_cons_of_mem _ (List.mem_append_left _ (List.mem_append_right _ q))
  have f67 : Cond.fieldLink RX0 67 "WindHall$Equations" "left" "[[J" ∈ wsX0_setLeft := by decide +kernel
  have hi4 : ∀ x ∈ u_ws RX4 TX4 2, x ∈ wsX0_setLeft := fun x q => List.mem_cons_of_mem _ (List.mem_append_right _ q)
  have f11 : Cond.fieldLink RX0 11 "WindHall$Balance" "first" "[[I" ∈ wsX0_setLeft := by decide +kernel
  have o_1 := ci
  obtain ⟨K1, K2, K3, K4, K5, K6, K7, Ks, K9, Ka, Kr, Kz⟩ := o_1
  refine lv_iconst (v := 0) hx hb dX0_setLeft_0 (by decide) ?_
  have J2_3 : ∀ (n : Nat) (y_2 : Int32) (w_3 : Nat → Nat → Int64) (H : Heap) (locs : List Loc) (ls : Array Slot), (3 - (y_2).toInt).toNat < n → (cI v) → (fC 1 18 v w v w_3) → (0 ≤ (y_2).toInt ∧ (y_2).toInt ≤ 3) → (bP w_3 (y_2).toInt 0) → (lfP v w_3 (y_2).toInt 0) → gS (gA G) G s v w_3 sg H locs → lv_has ls 3 [(0, .ref (G.2.2 (1))), (1, .int (y_2))] → W p l e R s m args below meth c H locs 0 0 Q (F0 m 2 ls []) := by
    intro n
    induction n with
    | zero => intro y_2 w_3 H locs ls hm; exact absurd hm (Nat.not_lt_zero _)
    | succ n ih2 =>
      intro y_2 w_3 H locs ls hm u_4 u_5 f_6 f_7 f_8 h hl
      have o_9 := u_4
      obtain ⟨K1, K2, K3, K4, K5, K6, K7, Ks, K9, Ka, Kr, Kz⟩ := o_9
      refine lv_iload_n hx hb dX0_setLeft_2 rfl (lv_at hl 1 rfl) ?_
      refine lv_iconst (v := 3) hx hb dX0_setLeft_3 (by decide) ?_
      refine lv_icmp_ge (tgt := 46) hx hb dX0_setLeft_4 (by decide) (fun c_10 => ?_) (fun c_10 => ?_)
      · have j_11 : 3 ≤ (y_2).toInt := (i_le (by decide) rfl).mp c_10
        exact ret v w_3 sg _ _ _ _ dX0_setLeft_46 h ⟨⟨u_4, u_5, ⟨fun i j hi hj => f_7 i j hi hj (by omega), fun i j hi hj => f_8 i j hi hj (by omega)⟩⟩, rfl, rfl⟩
      · have j_11 : ¬ (3 ≤ (y_2).toInt) := fun q => c_10 ((i_le (by decide) rfl).mpr q)
        refine lv_iconst (v := 0) hx hb dX0_setLeft_7 (by decide) ?_
        have J9_13 : ∀ (n : Nat) (y_12 : Int32) (w_13 : Nat → Nat → Int64) (H : Heap) (locs : List Loc) (ls : Array Slot), (3 - (y_12).toInt).toNat < n → (cI v) → (fC 1 18 v w v w_13) → (0 ≤ (y_12).toInt ∧ (y_12).toInt ≤ 3) → (bP w_13 (y_2).toInt (y_12).toInt) → (lfP v w_13 (y_2).toInt (y_12).toInt) → gS (gA G) G s v w_13 sg H locs → lv_has ls 3 [(0, .ref (G.2.2 (1))), (1, .int (y_2)), (2, .int (y_12))] → W p l e R s m args below meth c H locs 0 0 Q (F0 m 9 ls []) := by
          intro n
          induction n with
          | zero => intro y_12 w_13 H locs ls hm; exact absurd hm (Nat.not_lt_zero _)
          | succ n ih9 =>
            intro y_12 w_13 H locs ls hm u_14 u_15 f_16 f_17 f_18 h hl
            have o_19 := u_14
            obtain ⟨K1, K2, K3, K4, K5, K6, K7, Ks, K9, Ka, Kr, Kz⟩ := o_19
            refine lv_iload_n hx hb dX0_setLeft_9 rfl (lv_at hl 2 rfl) ?_
            refine lv_iconst (v := 3) hx hb dX0_setLeft_10 (by decide) ?_
            refine lv_icmp_ge (tgt := 40) hx hb dX0_setLeft_11 (by decide) (fun c_20 => ?_) (fun c_20 => ?_)
            · have j_21 : 3 ≤ (y_12).toInt := (i_le (by decide) rfl).mp c_20
              obtain ⟨x_22, e_23⟩ : ∃ y : Int32, y = y_2 + 1 := ⟨_, rfl⟩
              have i_24 : x_22.toInt = (y_2).toInt + 1 := ia_add e_23 rfl (by decide) (by omega) (by omega)
              refine lv_iinc (v := x_22) (lv' := [(1, .int (x_22)), (0, .ref (G.2.2 (1))), (2, .int (y_12))]) hx hb dX0_setLeft_40 hl (k := 1) rfl (by rw [e_23]; rfl) (by decide) rfl (fun ls hl => ?_)
              refine lv_goto (tgt := 2) hx hb dX0_setLeft_43 (by decide) ?_
              exact ih2 x_22 w_13 _ _ _ (by omega) u_14 u_15 (by omega) (f_17.next (by omega) (by omega) rfl) (f_18.next (by omega) (by omega) rfl) h (lv_sub hl [1, 0] rfl)
            · have j_21 : ¬ (3 ≤ (y_12).toInt) := fun q => c_20 ((i_le (by decide) rfl).mpr q)
              refine lv_aload_n hx hb dX0_setLeft_14 rfl (lv_at hl 0 rfl) ?_
              refine g_get (ci := 0) (x := .ref (G.2.2 (12))) C h 1 (by decide) rfl rfl hi0 6 (by decide) f38 rfl rfl dX0_setLeft_15 ?_
              refine g_get (ci := 4) (x := .ref (G.2.2 (13))) C h 12 (by decide) rfl rfl hi4 0 (by decide) f67 rfl rfl dX0_setLeft_18 ?_
              refine lv_iload_n hx hb dX0_setLeft_21 rfl (lv_at hl 1 rfl) ?_
              refine g_aald (ty := .array .long) C h 13 (by decide) 1 (by decide) (n := 3) (by decide) rfl rfl (vp_of rfl (by omega) (by omega)) dX0_setLeft_22 ?_
              obtain ⟨q_25, q_25_e, q_25_i, q_25_l⟩ := g_row sg (b := 13) (n := 3) (i := y_2) (by decide) (by decide) rfl (by omega) (by omega)
              rw [q_25_e]
              refine lv_iload_n hx hb dX0_setLeft_23 rfl (lv_at hl 2 rfl) ?_
              refine lv_aload_n hx hb dX0_setLeft_24 rfl (lv_at hl 0 rfl) ?_
              refine g_get (ci := 0) (x := .ref (G.2.2 (2))) C h 1 (by decide) rfl rfl hi0 0 (by decide) f11 rfl rfl dX0_setLeft_25 ?_
              refine lv_iload_n hx hb dX0_setLeft_28 rfl (lv_at hl 1 rfl) ?_
              refine g_aald (ty := .array .int) C h 2 (by decide) 0 (by decide) (n := 3) (by decide) rfl rfl (vp_of rfl (by omega) (by omega)) dX0_setLeft_29 ?_
              obtain ⟨q_26, q_26_e, q_26_i, q_26_l⟩ := g_row sg (b := 2) (n := 3) (i := y_2) (by decide) (by decide) rfl (by omega) (by omega)
              rw [q_26_e]
              refine lv_iload_n hx hb dX0_setLeft_30 rfl (lv_at hl 2 rfl) ?_
              refine g_iald C h q_26 (by omega) (g_kd 3 3 1 rfl q_26_l) (n := 3) (g_ln 3 3 3 rfl q_26_l) (vp_of rfl (by omega) (by omega)) dX0_setLeft_31 ?_
              refine lv_topi (fun x_27 e_28 => ?_)
              have hxb := Ka (y_2 : Int32).toInt.toNat (y_12 : Int32).toNatClampNeg (by omega) (by have := cl_of (i := y_12) rfl (by omega); omega)
              rw [show 3 + (y_2 : Int32).toInt.toNat = q_26 by omega, ← e_28, ← il_of (x := x_27) rfl] at hxb
              have hxv : (x_27 : Int32).toInt64 = (v (3 + (y_2 : Int32).toInt.toNat) (y_12 : Int32).toNatClampNeg).toInt64 := by rw [e_28, show 3 + (y_2 : Int32).toInt.toNat = q_26 by omega]
              have q_29 := i_rng x_27
              refine lv_i2l (v := (x_27 : Int32).toInt64) hx hb dX0_setLeft_32 rfl ?_
              refine g_last C h q_25 (by omega) (g_kd 14 3 2 rfl q_25_l) (n := 3) (g_ln 14 3 3 rfl q_25_l) (vp_of rfl (by omega) (by omega)) dX0_setLeft_33 (fun H locs h => ?_)
              obtain ⟨w_30, hw_30⟩ : ∃ z, z = gul w_13 q_25 ((y_12 : Int32).toNatClampNeg) ((x_27 : Int32).toInt64) := ⟨_, rfl⟩
              have h : gS (gA G) G s v w_30 sg H locs := by rw [hw_30]; exact h
              have u_31 : fC 1 18 v w v w_30 := by rw [hw_30]; exact (fC_w u_15 (by omega))
              obtain ⟨x_32, e_33⟩ : ∃ y : Int32, y = y_12 + 1 := ⟨_, rfl⟩
              have i_34 : x_32.toInt = (y_12).toInt + 1 := ia_add e_33 rfl (by decide) (by omega) (by omega)
              refine lv_iinc (v := x_32) (lv' := [(2, .int (x_32)), (0, .ref (G.2.2 (1))), (1, .int (y_2))]) hx hb dX0_setLeft_34 hl (k := 2) rfl (by rw [e_33]; rfl) (by decide) rfl (fun ls hl => ?_)
              refine lv_goto (tgt := 9) hx hb dX0_setLeft_37 (by decide) ?_
              exact ih9 x_32 w_30 _ _ _ (by omega) u_14 u_31 (by omega) (by rw [hw_30]; exact f_17.st (by omega) rfl (by omega) trivial hxb (by omega)) (by rw [hw_30]; exact f_18.st (by omega) rfl (by omega) hxv (by omega)) h (lv_sub hl [1, 2, 0] rfl)
        refine lv_istore_n (lv' := [(2, .int (0)), (0, .ref (G.2.2 (1))), (1, .int (y_2))]) hx hb dX0_setLeft_8 rfl hl (by decide) rfl (fun ls hl => ?_)
        exact J9_13 _ 0 w_3 _ _ _ (Nat.lt_succ_self _) u_4 u_5 (by omega) (f_7.eq (by decide)) (f_8.eq (by decide)) h (lv_sub hl [1, 2, 0] rfl)
  refine lv_istore_n (lv' := [(1, .int (0)), (0, .ref (G.2.2 (1)))]) hx hb dX0_setLeft_1 rfl hl (by decide) rfl (fun ls hl => ?_)
  exact J2_3 _ 0 w _ _ _ (Nat.lt_succ_self _) ci fC_rf (by omega) (fun i j _ _ q => by omega) (fun i j _ _ q => by omega) h (lv_sub hl [1, 0] rfl)

set_option maxHeartbeats 4000000 in
set_option maxRecDepth 100000 in
theorem c_X0_nearestLoad (l : Launch) (G : gG) (v : Nat → Nat → Int32) (w : Nat → Nat → Int64) (sg : Nat → Nat) (p0 : Int64) {A0 : Int} (a0 : p0.toInt = A0) (p2 : Int64) {A2 : Int} (a2 : p2.toInt = A2) (b0 : -1000000000000 ≤ A0 ∧ A0 ≤ 1000000000000) (b2 : -600000000 ≤ A2 ∧ A2 ≤ 600000000) (ci : cI v) : Met l yX0_nearestLoad wsX0_nearestLoad ({ frames := 1, cells := 0, slots := 0, locals := 25 }) (gPre G v w sg [.long (p0), .long (p2)]) (gQi G (fun r v' w' sg' => ((A2 = 0 ∧ r = 0) ∨ (A2 ≠ 0 ∧ r.toInt = nrI A0 A2)) ∧ v = v' ∧ w = w' ∧ sg = sg')) 0 0 (gA G) := by
  refine gM_ofi (cc := cX0_nearestLoad) (maxL := 6) (by decide) rfl (Nat.le_of_ble_eq_true rfl) ?_
  intro p e R s m args below meth c Q ls C hR ret h hl
  have hx := C.1.1
  have hb := C.1.2.1
  have hown := C.1.2.2.2.1
  have hts := C.1.2.2.2.2
  have hl : lv_has ls 6 [(0, .long (p0)), (2, .long (p2))] := hl
  have q0 := l_rng p0; rw [a0] at q0
  have q2 := l_rng p2; rw [a2] at q2
  have y50 : (50 : Int64).toInt = 50 := by decide
  have ym50 : ((-50) : Int64).toInt = -50 := by decide
  have z_0 : (0 : Int32).toInt = 0 := by decide
  have z_1 : (1 : Int32).toInt = 1 := by decide
  have k79 : (Cond.constantLong RX0 79 (2)).before args s = true := hts _ (by decide +kernel)
  have k87 : (Cond.constantLong RX0 87 (-50)).before args s = true := hts _ (by decide +kernel)
  have k89 : (Cond.constantLong RX0 89 (50)).before args s = true := hts _ (by decide +kernel)
  have o_1 := ci
  obtain ⟨K1, K2, K3, K4, K5, K6, K7, Ks, K9, Ka, Kr, Kz⟩ := o_1
  refine lv_lload_n hx hb dX0_nearestLoad_0 rfl (lv_at hl 1 rfl) ?_
  refine lv_lconst (v := 0) hx hb dX0_nearestLoad_1 (by decide) ?_
  refine W.lcmp hx hb dX0_nearestLoad_2 ?_
  refine lv_if_ne (tgt := 8) hx hb dX0_nearestLoad_3 (by decide) (fun c_2 => ?_) (fun c_2 => ?_)
  · have j_3 : ¬ (A2 = 0) := fun q => c_2 ((l_eq0 a2 (by decide)).mpr q)
    refine lv_ldc2 hx hb hown k79 dX0_nearestLoad_8 ?_
    refine lv_lload_n hx hb dX0_nearestLoad_11 rfl (lv_at hl 0 rfl) ?_
    refine lv_lmul hx hb dX0_nearestLoad_12 ?_
    refine lv_topl (fun x_4 e_5 => ?_)
    have i_6 : x_4.toInt = 2 * A0 := la_mul e_5 (by decide) a0 (by omega) (by omega)
    refine lv_lload_n hx hb dX0_nearestLoad_13 rfl (lv_at hl 1 rfl) ?_
    refine lv_ladd hx hb dX0_nearestLoad_14 ?_
    refine lv_topl (fun x_7 e_8 => ?_)
    have i_9 : x_7.toInt = (2 * A0) + A2 := la_add e_8 i_6 a2 (by omega) (by omega)
    refine lv_ldc2 hx hb hown k79 dX0_nearestLoad_15 ?_
    refine lv_lload_n hx hb dX0_nearestLoad_18 rfl (lv_at hl 1 rfl) ?_
    refine lv_lmul hx hb dX0_nearestLoad_19 ?_
    refine lv_topl (fun x_10 e_11 => ?_)
    have i_12 : x_10.toInt = 2 * A2 := la_mul e_11 (by decide) a2 (by omega) (by omega)
    refine g_calll C (va_runS (As := [.long (x_7), .long (x_10)]) (rest := []) C.1 (c_J9_floorDiv_f86c9 l G v w sg x_7 (A0 := ((2 * A0) + A2)) i_9 x_10 (A2 := (2 * A2)) i_12 (by omega)) (va_cwS 2 hts gX0_nearestLoad_J9_floorDiv_f86c9 rfl rfl rfl (by decide +kernel) ⟨by rw [hR]; exact Nat.le_of_ble_eq_true rfl, by rw [hR]; exact Nat.le_of_ble_eq_true rfl⟩) ⟨gPre_blind, gS_pre C h _⟩ rfl rfl hl.1 rfl (lv_room (Nat.le_of_ble_eq_true rfl)) dX0_nearestLoad_20 ⟨Nat.zero_le _, Nat.zero_le _⟩) h (fun r_13 v_15 w_16 g_17 H locs p_14 h => ?_)
    obtain ⟨p_14, rfl, rfl, rfl⟩ := p_14
    have hfd := p_14 (by omega)
    refine lv_lstore (lv' := [(4, .long (r_13)), (0, .long (p0)), (2, .long (p2))]) hx hb dX0_nearestLoad_23 hl (by decide) rfl (fun ls hl => ?_)
    refine lv_ldc2 hx hb hown k87 dX0_nearestLoad_25 ?_
    refine lv_ldc2 hx hb hown k89 dX0_nearestLoad_28 ?_
    refine lv_lload hx hb dX0_nearestLoad_31 (lv_at hl 0 rfl) ?_
    refine va_mmin_long hx hb (C.1.2.2.1.trans hl.1.symm) hown (hts (.methodLink RX0 91 Lib.MathLoose.min_long.x) (by decide +kernel)) (hts (.static Lib.MathLoose.min_long.x) (by decide +kernel)) (hts (.initialized "java/lang/Math") (by decide +kernel)) (hts (.code Lib.MathLoose.min_long.x Lib.MathLoose.min_long.code 4 (some .long)) (by decide +kernel)) (by rw [hR]; exact Nat.le_of_ble_eq_true rfl) (by rw [hR]; exact Nat.le_of_ble_eq_true rfl) (Nat.zero_le _) (Nat.zero_le _) dX0_nearestLoad_33 ?_
    refine lv_topl (fun x_18 e_19 => ?_)
    have hmn := lmin_D e_19
    refine va_mmax_long hx hb (C.1.2.2.1.trans hl.1.symm) hown (hts (.methodLink RX0 94 Lib.MathLoose.max_long.x) (by decide +kernel)) (hts (.static Lib.MathLoose.max_long.x) (by decide +kernel)) (hts (.initialized "java/lang/Math") (by decide +kernel)) (hts (.code Lib.MathLoose.max_long.x Lib.MathLoose.max_long.code 4 (some .long)) (by decide +kernel)) (by rw [hR]; exact Nat.le_of_ble_eq_true rfl) (by rw [hR]; exact Nat.le_of_ble_eq_true rfl) (Nat.zero_le _) (Nat.zero_le _) dX0_nearestLoad_36 ?_
    refine lv_topl (fun x_20 e_21 => ?_)
    have hmx := lmax_D e_21
    refine lv_l2i hx hb dX0_nearestLoad_39 rfl ?_
    refine lv_topi (fun x_22 e_23 => ?_)
    have hli := l2i_I e_23 rfl (by omega) (by omega)
    exact ret x_22 v w sg _ _ _ _ dX0_nearestLoad_40 h ⟨Or.inr ⟨by omega, by unfold nrI clI; rw [← hfd]; split <;> (try split) <;> omega⟩, rfl, rfl, rfl⟩
  · have j_3 : A2 = 0 := (l_eq0 a2 (by decide)).mp c_2
    refine lv_iconst (v := 0) hx hb dX0_nearestLoad_6 (by decide) ?_
    exact ret 0 v w sg _ _ _ _ dX0_nearestLoad_7 h ⟨Or.inl ⟨by omega, rfl⟩, rfl, rfl, rfl⟩

set_option maxHeartbeats 4000000 in
set_option maxRecDepth 100000 in
theorem c_X0_goRound (l : Launch) (G : gG) (v : Nat → Nat → Int32) (w : Nat → Nat → Int64) (sg : Nat → Nat) (p1 : Int64) {A1 : Int} (a1 : p1.toInt = A1) (b1 : -600000000 ≤ A1 ∧ A1 ≤ 600000000) (bz : A1 ≠ 0) (bl : bL w) (hg : gvB v) (hd : ldB v) (h2 : sdB v) (ci : cI v) : Met l yX0_goRound wsX0_goRound ({ frames := 2, cells := 0, slots := 0, locals := 51 }) (gPre G v w sg [.ref (G.2.2 (1)), .long (p1)]) (gQi G (fun r v' w' sg' => (cI v' ∧ fC 1 18 v w v' w' ∧ fBk v v' ∧ (r.toInt = 0 ∨ r.toInt = 1) ∧ v' = va_up v 10 (flN (nlC w' A1) (v 10) 3) ∧ rtP v w' 3 ∧ wO w w' ∧ chP (nlC w' A1) (v 10) 3 r.toInt) ∧ sg = sg')) 0 0 (gA G) := by
  refine gM_ofz (cc := cX0_goRound) (maxL := 6) (by decide) rfl (Nat.le_of_ble_eq_true rfl) ?_
  intro p e R s m args below meth c Q ls C hR ret h hl
  have hx := C.1.1
  have hb := C.1.2.1
  have hown := C.1.2.2.2.1
  have hts := C.1.2.2.2.2
  have hl : lv_has ls 6 [(0, .ref (G.2.2 (1))), (1, .long (p1))] := hl
  have q1 := l_rng p1; rw [a1] at q1
  have z_0 : (0 : Int32).toInt = 0 := by decide
  have z_1 : (1 : Int32).toInt = 1 := by decide
  have z_2 : (2 : Int32).toInt = 2 := by decide
  have z_3 : (3 : Int32).toInt = 3 := by decide
  have f38 : Cond.fieldLink RX0 38 "WindHall$Balance" "equations" "LWindHall$Equations;" ∈ wsX0_goRound := by decide +kernel
  have hi0 : ∀ x ∈ u_ws RX0 TX0 7, x ∈ wsX0_goRound := fun x q => List.mem_cons_of_mem _ (List.mem_append_left _ (List.mem_append_right _ q))
  have f21 : Cond.fieldLink RX0 21 "WindHall$Balance" "load" "[I" ∈ wsX0_goRound := by decide +kernel
  have f71 : Cond.fieldLink RX0 71 "WindHall$Equations" "right" "[J" ∈ wsX0_goRound := by decide +kernel
  have hi4 : ∀ x ∈ u_ws RX4 TX4 2, x ∈ wsX0_goRound := fun x q => List.mem_cons_of_mem _ (List.mem_append_right _ q)
  have f32 : Cond.fieldLink RX0 32 "WindHall$Balance" "given" "[I" ∈ wsX0_goRound := by decide +kernel
  have o_1 := ci
  obtain ⟨K1, K2, K3, K4, K5, K6, K7, Ks, K9, Ka, Kr, Kz⟩ := o_1
  refine lv_iconst (v := 0) hx hb dX0_goRound_0 (by decide) ?_
  have J2_3 : ∀ (n : Nat) (y_2 : Int32) (w_3 : Nat → Nat → Int64) (H : Heap) (locs : List Loc) (ls : Array Slot), (3 - (y_2).toInt).toNat < n → (cI v) → (fC 1 18 v w v w_3) → (fBk v v) → (0 ≤ (y_2).toInt ∧ (y_2).toInt ≤ 3) → (rtP v w_3 (y_2).toInt) → (wO w w_3) → gS (gA G) G s v w_3 sg H locs → lv_has ls 6 [(0, .ref (G.2.2 (1))), (1, .long (p1)), (3, .int (y_2))] → W p l e R s m args below meth c H locs 0 0 Q (F0 m 2 ls []) := by
    intro n
    induction n with
    | zero => intro y_2 w_3 H locs ls hm; exact absurd hm (Nat.not_lt_zero _)
    | succ n ih2 =>
      intro y_2 w_3 H locs ls hm u_4 u_5 u_6 f_7 f_8 f_9 h hl
      have o_10 := u_4
      obtain ⟨K1, K2, K3, K4, K5, K6, K7, Ks, K9, Ka, Kr, Kz⟩ := o_10
      refine lv_iload_n hx hb dX0_goRound_2 rfl (lv_at hl 2 rfl) ?_
      refine lv_iconst (v := 3) hx hb dX0_goRound_3 (by decide) ?_
      refine lv_icmp_ge (tgt := 53) hx hb dX0_goRound_4 (by decide) (fun c_11 => ?_) (fun c_11 => ?_)
      · have j_12 : 3 ≤ (y_2).toInt := (i_le (by decide) rfl).mp c_11
        have hrt : rtP v w_3 3 := (show (y_2).toInt = 3 by omega) ▸ f_8
        have hwo := f_9
        have hB53 := dsH_of bl hrt hwo hg hd h2
        refine lv_iconst (v := 0) hx hb dX0_goRound_53 (by decide) ?_
        refine lv_istore_n (lv' := [(3, .int (0)), (0, .ref (G.2.2 (1))), (1, .long (p1))]) hx hb dX0_goRound_54 rfl hl (by decide) rfl (fun ls hl => ?_)
        refine lv_iconst (v := 0) hx hb dX0_goRound_55 (by decide) ?_
        have J58_15 : ∀ (n : Nat) (y_13 : Int32) (y_14 : Int32) (v_15 : Nat → Nat → Int32) (H : Heap) (locs : List Loc) (ls : Array Slot), (3 - (y_14).toInt).toNat < n → (cI v_15) → (fC 1 18 v w v_15 w_3) → (fBk v v_15) → (0 ≤ (y_14).toInt ∧ (y_14).toInt ≤ 3) → (v_15 = va_up v 10 (flN (nlC w_3 A1) (v 10) (y_14).toInt)) → (chP (nlC w_3 A1) (v 10) (y_14).toInt (y_13).toInt) → ((y_13).toInt = 0 ∨ (y_13).toInt = 1) → gS (gA G) G s v_15 w_3 sg H locs → lv_has ls 6 [(0, .ref (G.2.2 (1))), (1, .long (p1)), (3, .int (y_13)), (4, .int (y_14))] → W p l e R s m args below meth c H locs 0 0 Q (F0 m 58 ls []) := by
          intro n
          induction n with
          | zero => intro y_13 y_14 v_15 H locs ls hm; exact absurd hm (Nat.not_lt_zero _)
          | succ n ih58 =>
            intro y_13 y_14 v_15 H locs ls hm u_16 u_17 u_18 f_19 f_20 f_21 f_22 h hl
            have o_23 := u_16
            obtain ⟨K1, K2, K3, K4, K5, K6, K7, Ks, K9, Ka, Kr, Kz⟩ := o_23
            refine lv_iload hx hb dX0_goRound_58 (lv_at hl 3 rfl) ?_
            refine lv_iconst (v := 3) hx hb dX0_goRound_60 (by decide) ?_
            refine lv_icmp_ge (tgt := 116) hx hb dX0_goRound_61 (by decide) (fun c_24 => ?_) (fun c_24 => ?_)
            · have j_25 : 3 ≤ (y_14).toInt := (i_le (by decide) rfl).mp c_24
              refine lv_iload_n hx hb dX0_goRound_116 rfl (lv_at hl 2 rfl) ?_
              exact ret y_13 v_15 w_3 sg _ _ _ _ (nb_of (by omega)) dX0_goRound_117 h ⟨⟨u_16, u_17, u_18, ⟨by omega, f_20.trans (by rw [show (y_14).toInt = 3 by omega]), hrt, hwo, (show (y_14).toInt = 3 by omega) ▸ f_21⟩⟩, rfl⟩
            · have j_25 : ¬ (3 ≤ (y_14).toInt) := fun q => c_24 ((i_le (by decide) rfl).mpr q)
              refine lv_aload_n hx hb dX0_goRound_64 rfl (lv_at hl 0 rfl) ?_
              refine g_get (ci := 0) (x := .ref (G.2.2 (12))) C h 1 (by decide) rfl rfl hi0 6 (by decide) f38 rfl rfl dX0_goRound_65 ?_
              refine lv_iload hx hb dX0_goRound_68 (lv_at hl 3 rfl) ?_
              refine g_calll C (va_runV (As := [.int (y_14)]) (rest := []) C.1 (c_X4_determinant_12 l G v_15 w_3 sg y_14 (A1 := (y_14).toInt) rfl u_16) (cwV 1 hts gX0_goRound_X4_determinant rfl rfl rfl (by decide +kernel) ⟨by rw [hR]; exact Nat.le_of_ble_eq_true rfl, by rw [hR]; exact Nat.le_of_ble_eq_true rfl⟩) ⟨gPre_blind, g_recv C h 12 (by decide) (ci := 4) rfl rfl, gS_pre C h _⟩ rfl rfl hl.1 rfl (lv_room (Nat.le_of_ble_eq_true rfl)) dX0_goRound_70 ⟨Nat.zero_le _, Nat.zero_le _⟩) h (fun r_26 v_28 w_29 g_30 H locs p_27 h => ?_)
              obtain ⟨p_27, rfl, rfl, rfl⟩ := p_27
              have hr70 : r_26 = dsN (tmQ w_3 14 17 (((y_14 : Int32).toInt.toNat : Nat) : Int)) 3 := by rw [p_27.1, show (y_14 : Int32).toInt = (((y_14 : Int32).toInt.toNat : Nat) : Int) by omega]; simp
              have hb70 := hB53 (y_14 : Int32).toInt.toNat (by omega)
              rw [← hr70] at hb70
              unfold bdl at hb70
              refine lv_lload_n hx hb dX0_goRound_73 rfl (lv_at hl 1 rfl) ?_
              refine g_calli C (va_runS (As := [.long (r_26), .long (p1)]) (rest := []) C.1 (c_X0_nearestLoad l G v_15 w_3 sg r_26 (A0 := (r_26).toInt) rfl p1 (A2 := A1) a1 (by omega) (by omega) u_16) (va_cwS 2 hts gX0_goRound_X0_nearestLoad rfl rfl rfl (by decide +kernel) ⟨by rw [hR]; exact Nat.le_of_ble_eq_true rfl, by rw [hR]; exact Nat.le_of_ble_eq_true rfl⟩) ⟨gPre_blind, gS_pre C h _⟩ rfl rfl hl.1 rfl (lv_room (Nat.le_of_ble_eq_true rfl)) dX0_goRound_74 ⟨Nat.zero_le _, Nat.zero_le _⟩) h (fun r_31 v_33 w_34 g_35 H locs p_32 h => ?_)
              obtain ⟨p_32, rfl, rfl, rfl⟩ := p_32
              have hnr : r_31 = nlC w_3 A1 (y_14 : Int32).toInt.toNat := nl_of p_32 bz hr70
              refine lv_istore (lv' := [(5, .int (r_31)), (0, .ref (G.2.2 (1))), (1, .long (p1)), (3, .int (y_13)), (4, .int (y_14))]) hx hb dX0_goRound_77 hl (by decide) rfl (fun ls hl => ?_)
              refine lv_iload_n hx hb dX0_goRound_79 rfl (lv_at hl 3 rfl) ?_
              have J100_36 : ∀ (y_36 : Int32) (H : Heap) (locs : List Loc) (ls : Array Slot), ((y_36).toInt = 0 ∨ (y_36).toInt = 1) → (chP (nlC w_3 A1) (v 10) ((y_14 : Int32).toInt + 1) (y_36).toInt) → gS (gA G) G s v_15 w_3 sg H locs → lv_has ls 6 [(0, .ref (G.2.2 (1))), (1, .long (p1)), (3, .int (y_13)), (4, .int (y_14)), (5, .int (r_31))] → W p l e R s m args below meth c H locs 0 0 Q (F0 m 100 ls [.int (y_36)]) := by
                intro y_36 H locs ls f_37 f_38 h hl
                refine lv_istore_n (lv' := [(3, .int (y_36)), (0, .ref (G.2.2 (1))), (1, .long (p1)), (4, .int (y_14)), (5, .int (r_31))]) hx hb dX0_goRound_100 rfl hl (by decide) rfl (fun ls hl => ?_)
                refine lv_aload_n hx hb dX0_goRound_101 rfl (lv_at hl 1 rfl) ?_
                refine g_get (ci := 0) (x := .ref (G.2.2 (10))) C h 1 (by decide) rfl rfl hi0 2 (by decide) f21 rfl rfl dX0_goRound_102 ?_
                refine lv_iload hx hb dX0_goRound_105 (lv_at hl 3 rfl) ?_
                refine lv_iload hx hb dX0_goRound_107 (lv_at hl 4 rfl) ?_
                refine g_iast C h 10 (by decide) (by decide) (n := 3) (by decide) (vp_of rfl (by omega) (by omega)) dX0_goRound_109 (fun H locs h => ?_)
                obtain ⟨v_39, hv_39⟩ : ∃ z, z = gu v_15 10 ((y_14 : Int32).toNatClampNeg) r_31 := ⟨_, rfl⟩
                have h : gS (gA G) G s v_39 w_3 sg H locs := by rw [hv_39]; exact h
                have u_40 : cI v_39 := by rw [hv_39]; exact (cI_o u_16 (by decide))
                have u_41 : fC 1 18 v w v_39 w_3 := by rw [hv_39]; exact (fC_v u_17 (by decide))
                have u_42 : fBk v v_39 := by rw [hv_39]; exact (fBk_v u_18 (by omega))
                obtain ⟨x_43, e_44⟩ : ∃ y : Int32, y = y_14 + 1 := ⟨_, rfl⟩
                have i_45 : x_43.toInt = (y_14).toInt + 1 := ia_add e_44 rfl (by decide) (by omega) (by omega)
                refine lv_iinc (v := x_43) (lv' := [(4, .int (x_43)), (3, .int (y_36)), (0, .ref (G.2.2 (1))), (1, .long (p1)), (5, .int (r_31))]) hx hb dX0_goRound_110 hl (k := 3) rfl (by rw [e_44]; rfl) (by decide) rfl (fun ls hl => ?_)
                refine lv_goto (tgt := 58) hx hb dX0_goRound_113 (by decide) ?_
                exact ih58 y_36 x_43 v_39 _ _ _ (by omega) u_40 u_41 u_42 (by omega) (hv_39.trans (rn_st f_20 rfl (by omega) (by omega) hnr)) (by rw [show (x_43 : Int32).toInt = (y_14 : Int32).toInt + 1 by omega]; exact f_38) (by omega) h (lv_sub hl [2, 3, 1, 0] rfl)
              have J95_45 : ∀ (H : Heap) (locs : List Loc) (ls : Array Slot), (chP (nlC w_3 A1) (v 10) ((y_14 : Int32).toInt + 1) 1) → gS (gA G) G s v_15 w_3 sg H locs → lv_has ls 6 [(0, .ref (G.2.2 (1))), (1, .long (p1)), (3, .int (y_13)), (4, .int (y_14)), (5, .int (r_31))] → W p l e R s m args below meth c H locs 0 0 Q (F0 m 95 ls []) := by
                intro  H locs ls f_46 h hl
                refine lv_iconst (v := 1) hx hb dX0_goRound_95 (by decide) ?_
                refine lv_goto (tgt := 100) hx hb dX0_goRound_96 (by decide) ?_
                exact J100_36 1 _ _ _ (by omega) (by first | exact f_46 | exact f_21.eqs (by omega) (by omega) rfl (by rw [← hnr, ← hx91]; exact i_ext (by omega))) h (lv_sub hl [0, 1, 2, 3, 4] rfl)
              refine lv_if_ne (tgt := 95) hx hb dX0_goRound_80 (by decide) (fun c_47 => ?_) (fun c_47 => ?_)
              · have j_48 : ¬ ((y_13).toInt = 0) := fun q => c_47 ((i_eq rfl (by decide)).mpr q)
                exact J95_45  _ _ _ (by first | exact f_21.up (by omega) (by omega) | exact chP.ne (by omega) rfl (by rw [← hnr, ← hx91]; intro q; have hqi := congrArg Int32.toInt q; omega)) h (lv_sub hl [1, 2, 3, 4, 0] rfl)
              · have j_48 : (y_13).toInt = 0 := (i_eq rfl (by decide)).mp c_47
                refine lv_iload hx hb dX0_goRound_83 (lv_at hl 0 rfl) ?_
                refine lv_aload_n hx hb dX0_goRound_85 rfl (lv_at hl 1 rfl) ?_
                refine g_get (ci := 0) (x := .ref (G.2.2 (10))) C h 1 (by decide) rfl rfl hi0 2 (by decide) f21 rfl rfl dX0_goRound_86 ?_
                refine lv_iload hx hb dX0_goRound_89 (lv_at hl 4 rfl) ?_
                refine g_iald C h 10 (by decide) (by decide) (n := 3) (by decide) (vp_of rfl (by omega) (by omega)) dX0_goRound_91 ?_
                refine lv_topi (fun x_49 e_50 => ?_)
                have hx91 : x_49 = v 10 (y_14 : Int32).toInt.toNat := ld_rd f_20 e_50 rfl (by omega)
                refine lv_icmp_eq (tgt := 99) hx hb dX0_goRound_92 (by decide) (fun c_51 => ?_) (fun c_51 => ?_)
                · have j_52 : (r_31).toInt = (x_49).toInt := (i_eq rfl rfl).mp c_51
                  refine lv_iconst (v := 0) hx hb dX0_goRound_99 (by decide) ?_
                  exact J100_36 0 _ _ _ (by omega) (by first | exact {F95_0} | exact f_21.eqs (by omega) (by omega) rfl (by rw [← hnr, ← hx91]; exact i_ext (by omega))) h (lv_sub hl [1, 2, 3, 4, 0] rfl)
                · have j_52 : ¬ ((r_31).toInt = (x_49).toInt) := fun q => c_51 ((i_eq rfl rfl).mpr q)
                  exact J95_45  _ _ _ (by first | exact f_21.up (by omega) (by omega) | exact chP.ne (by omega) rfl (by rw [← hnr, ← hx91]; intro q; have hqi := congrArg Int32.toInt q; omega)) h (lv_sub hl [1, 2, 3, 4, 0] rfl)
        refine lv_istore (lv' := [(4, .int (0)), (3, .int (0)), (0, .ref (G.2.2 (1))), (1, .long (p1))]) hx hb dX0_goRound_56 hl (by decide) rfl (fun ls hl => ?_)
        exact J58_15 _ 0 0 v _ _ _ (Nat.lt_succ_self _) u_4 u_5 u_6 (by omega) (by rw [fl_0 (by decide), up_id]) (chP_0 rfl) (by omega) h (lv_sub hl [2, 3, 1, 0] rfl)
      · have j_12 : ¬ (3 ≤ (y_2).toInt) := fun q => c_11 ((i_le (by decide) rfl).mpr q)
        refine lv_aload_n hx hb dX0_goRound_7 rfl (lv_at hl 0 rfl) ?_
        refine g_get (ci := 0) (x := .ref (G.2.2 (12))) C h 1 (by decide) rfl rfl hi0 6 (by decide) f38 rfl rfl dX0_goRound_8 ?_
        refine g_get (ci := 4) (x := .ref (G.2.2 (17))) C h 12 (by decide) rfl rfl hi4 1 (by decide) f71 rfl rfl dX0_goRound_11 ?_
        refine lv_iload_n hx hb dX0_goRound_14 rfl (lv_at hl 2 rfl) ?_
        refine lv_aload_n hx hb dX0_goRound_15 rfl (lv_at hl 0 rfl) ?_
        refine g_get (ci := 0) (x := .ref (G.2.2 (11))) C h 1 (by decide) rfl rfl hi0 5 (by decide) f32 rfl rfl dX0_goRound_16 ?_
        refine lv_iload_n hx hb dX0_goRound_19 rfl (lv_at hl 2 rfl) ?_
        refine g_iald C h 11 (by decide) (by decide) (n := 3) (by decide) (vp_of rfl (by omega) (by omega)) dX0_goRound_20 ?_
        refine lv_topi (fun x_53 e_54 => ?_)
        have hx20 : x_53 = v 11 (y_2 : Int32).toInt.toNat := e_54
        refine lv_aload_n hx hb dX0_goRound_21 rfl (lv_at hl 0 rfl) ?_
        refine lv_iload_n hx hb dX0_goRound_22 rfl (lv_at hl 2 rfl) ?_
        refine lv_aload_n hx hb dX0_goRound_23 rfl (lv_at hl 0 rfl) ?_
        refine g_get (ci := 0) (x := .ref (G.2.2 (10))) C h 1 (by decide) rfl rfl hi0 2 (by decide) f21 rfl rfl dX0_goRound_24 ?_
        refine lv_iconst (v := 0) hx hb dX0_goRound_27 (by decide) ?_
        refine g_iald C h 10 (by decide) (by decide) (n := 3) (by decide) (vp_of (I := 0) (by decide) (by decide) (by decide)) dX0_goRound_28 ?_
        refine lv_topi (fun x_55 e_56 => ?_)
        have hx28 : x_55 = v 10 0 := e_56
        refine lv_aload_n hx hb dX0_goRound_29 rfl (lv_at hl 0 rfl) ?_
        refine g_get (ci := 0) (x := .ref (G.2.2 (10))) C h 1 (by decide) rfl rfl hi0 2 (by decide) f21 rfl rfl dX0_goRound_30 ?_
        refine lv_iconst (v := 1) hx hb dX0_goRound_33 (by decide) ?_
        refine g_iald C h 10 (by decide) (by decide) (n := 3) (by decide) (vp_of (I := 1) (by decide) (by decide) (by decide)) dX0_goRound_34 ?_
        refine lv_topi (fun x_57 e_58 => ?_)
        have hx34 : x_57 = v 10 1 := e_58
        refine lv_aload_n hx hb dX0_goRound_35 rfl (lv_at hl 0 rfl) ?_
        refine g_get (ci := 0) (x := .ref (G.2.2 (10))) C h 1 (by decide) rfl rfl hi0 2 (by decide) f21 rfl rfl dX0_goRound_36 ?_
        refine lv_iconst (v := 2) hx hb dX0_goRound_39 (by decide) ?_
        refine g_iald C h 10 (by decide) (by decide) (n := 3) (by decide) (vp_of (I := 2) (by decide) (by decide) (by decide)) dX0_goRound_40 ?_
        refine lv_topi (fun x_59 e_60 => ?_)
        have hx40 : x_59 = v 10 2 := e_60
        refine g_calli C (va_runV (As := [.int (y_2), .int (x_55), .int (x_57), .int (x_59)]) (rest := [.int (x_53), .int (y_2), .ref (G.2.2 (17))]) C.1 (c_X0_productsOf l G v w_3 sg y_2 (A1 := (y_2).toInt) rfl x_55 (A2 := (x_55).toInt) rfl x_57 (A3 := (x_57).toInt) rfl x_59 (A4 := (x_59).toInt) rfl (by omega) u_4) (cwV 4 hts gX0_goRound_X0_productsOf rfl rfl rfl (by decide +kernel) ⟨by rw [hR]; exact Nat.le_of_ble_eq_true rfl, by rw [hR]; exact Nat.le_of_ble_eq_true rfl⟩) ⟨gPre_blind, g_recv C h 1 (by decide) (ci := 0) rfl rfl, gS_pre C h _⟩ rfl rfl hl.1 rfl (lv_room (Nat.le_of_ble_eq_true rfl)) dX0_goRound_41 ⟨Nat.zero_le _, Nat.zero_le _⟩) h (fun r_61 v_63 w_64 g_65 H locs p_62 h => ?_)
        obtain ⟨p_62, rfl, rfl, rfl⟩ := p_62
        have hpr : r_61 = pr6 (v (7 + (y_2 : Int32).toInt.toNat)) (v 10 0) (v 10 1) (v 10 2) := by rw [p_62, hx28, hx34, hx40]
        refine lv_isub hx hb dX0_goRound_44 ?_
        refine lv_topi (fun x_66 e_67 => ?_)
        have hs45 : x_66 = v 11 (y_2 : Int32).toInt.toNat - pr6 (v (7 + (y_2 : Int32).toInt.toNat)) (v 10 0) (v 10 1) (v 10 2) := by rw [e_67, hx20, hpr]
        have q_68 := i_rng x_66
        refine lv_i2l (v := (x_66 : Int32).toInt64) hx hb dX0_goRound_45 rfl ?_
        refine g_last C h 17 (by decide) (by decide) (n := 3) (by decide) (vp_of rfl (by omega) (by omega)) dX0_goRound_46 (fun H locs h => ?_)
        obtain ⟨w_69, hw_69⟩ : ∃ z, z = gul w_3 17 ((y_2 : Int32).toNatClampNeg) ((x_66 : Int32).toInt64) := ⟨_, rfl⟩
        have h : gS (gA G) G s v w_69 sg H locs := by rw [hw_69]; exact h
        have u_70 : fC 1 18 v w v w_69 := by rw [hw_69]; exact (fC_w u_5 (by decide))
        obtain ⟨x_71, e_72⟩ : ∃ y : Int32, y = y_2 + 1 := ⟨_, rfl⟩
        have i_73 : x_71.toInt = (y_2).toInt + 1 := ia_add e_72 rfl (by decide) (by omega) (by omega)
        refine lv_iinc (v := x_71) (lv' := [(3, .int (x_71)), (0, .ref (G.2.2 (1))), (1, .long (p1))]) hx hb dX0_goRound_47 hl (k := 2) rfl (by rw [e_72]; rfl) (by decide) rfl (fun ls hl => ?_)
        refine lv_goto (tgt := 2) hx hb dX0_goRound_50 (by decide) ?_
        exact ih2 x_71 w_69 _ _ _ (by omega) u_4 u_70 u_6 (by omega) (rt_st f_8 hw_69 rfl (by omega) (by omega) (congrArg Int32.toInt64 hs45)) (wO_st f_9 hw_69) h (lv_sub hl [1, 2, 0] rfl)
  refine lv_istore_n (lv' := [(3, .int (0)), (0, .ref (G.2.2 (1))), (1, .long (p1))]) hx hb dX0_goRound_1 rfl hl (by decide) rfl (fun ls hl => ?_)
  exact J2_3 _ 0 w _ _ _ (Nat.lt_succ_self _) ci fC_rf fBk_rf (by omega) rtP_0 wO_rf h (lv_sub hl [1, 2, 0] rfl)

set_option maxHeartbeats 4000000 in
set_option maxRecDepth 100000 in
theorem c_X0_greatestDistance (l : Launch) (G : gG) (v : Nat → Nat → Int32) (w : Nat → Nat → Int64) (sg : Nat → Nat) (ci : cI v) : Met l yX0_greatestDistance wsX0_greatestDistance ({ frames := 2, cells := 0, slots := 0, locals := 50 }) (gPre G v w sg [.ref (G.2.2 (1))]) (gQi G (fun r v' w' sg' => (r = awN (dC v) 3) ∧ v = v' ∧ w = w' ∧ sg = sg')) 0 0 (gA G) := by
  refine gM_ofi (cc := cX0_greatestDistance) (maxL := 4) (by decide) rfl (Nat.le_of_ble_eq_true rfl) ?_
  intro p e R s m args below meth c Q ls C hR ret h hl
  have hx := C.1.1
  have hb := C.1.2.1
  have hown := C.1.2.2.2.1
  have hts := C.1.2.2.2.2
  have hl : lv_has ls 4 [(0, .ref (G.2.2 (1)))] := hl
  have z_0 : (0 : Int32).toInt = 0 := by decide
  have z_1 : (1 : Int32).toInt = 1 := by decide
  have z_2 : (2 : Int32).toInt = 2 := by decide
  have z_3 : (3 : Int32).toInt = 3 := by decide
  have f32 : Cond.fieldLink RX0 32 "WindHall$Balance" "given" "[I" ∈ wsX0_greatestDistance := by decide +kernel
  have hi0 : ∀ x ∈ u_ws RX0 TX0 7, x ∈ wsX0_greatestDistance := fun x q => List.mem_cons_of_mem _ (List.mem_append_right _ q)
  have f21 : Cond.fieldLink RX0 21 "WindHall$Balance" "load" "[I" ∈ wsX0_greatestDistance := by decide +kernel
  have o_1 := ci
  obtain ⟨K1, K2, K3, K4, K5, K6, K7, Ks, K9, Ka, Kr, Kz⟩ := o_1
  refine lv_iconst (v := 0) hx hb dX0_greatestDistance_0 (by decide) ?_
  refine lv_istore_n (lv' := [(1, .int (0)), (0, .ref (G.2.2 (1)))]) hx hb dX0_greatestDistance_1 rfl hl (by decide) rfl (fun ls hl => ?_)
  refine lv_iconst (v := 0) hx hb dX0_greatestDistance_2 (by decide) ?_
  have J4_3 : ∀ (n : Nat) (y_2 : Int32) (y_3 : Int32) (H : Heap) (locs : List Loc) (ls : Array Slot), (3 - (y_3).toInt).toNat < n → (0 ≤ (y_3).toInt ∧ (y_3).toInt ≤ 3) → (y_2 = awN (dC v) ((y_3).toInt).toNat) → gS (gA G) G s v w sg H locs → lv_has ls 4 [(0, .ref (G.2.2 (1))), (1, .int (y_2)), (2, .int (y_3))] → W p l e R s m args below meth c H locs 0 0 Q (F0 m 4 ls []) := by
    intro n
    induction n with
    | zero => intro y_2 y_3 H locs ls hm; exact absurd hm (Nat.not_lt_zero _)
    | succ n ih4 =>
      intro y_2 y_3 H locs ls hm f_4 f_5 h hl
      refine lv_iload_n hx hb dX0_greatestDistance_4 rfl (lv_at hl 2 rfl) ?_
      refine lv_iconst (v := 3) hx hb dX0_greatestDistance_5 (by decide) ?_
      refine lv_icmp_ge (tgt := 55) hx hb dX0_greatestDistance_6 (by decide) (fun c_6 => ?_) (fun c_6 => ?_)
      · have j_7 : 3 ≤ (y_3).toInt := (i_le (by decide) rfl).mp c_6
        refine lv_iload_n hx hb dX0_greatestDistance_55 rfl (lv_at hl 1 rfl) ?_
        exact ret y_2 v w sg _ _ _ _ dX0_greatestDistance_56 h ⟨((show ((y_3).toInt).toNat = 3 by omega) ▸ f_5), rfl, rfl, rfl⟩
      · have j_7 : ¬ (3 ≤ (y_3).toInt) := fun q => c_6 ((i_le (by decide) rfl).mpr q)
        refine lv_aload_n hx hb dX0_greatestDistance_9 rfl (lv_at hl 0 rfl) ?_
        refine g_get (ci := 0) (x := .ref (G.2.2 (11))) C h 1 (by decide) rfl rfl hi0 5 (by decide) f32 rfl rfl dX0_greatestDistance_10 ?_
        refine lv_iload_n hx hb dX0_greatestDistance_13 rfl (lv_at hl 2 rfl) ?_
        refine g_iald C h 11 (by decide) (by decide) (n := 3) (by decide) (vp_of rfl (by omega) (by omega)) dX0_greatestDistance_14 ?_
        refine lv_topi (fun x_8 e_9 => ?_)
        have hx14 : x_8 = v 11 (y_3 : Int32).toInt.toNat := e_9
        refine lv_aload_n hx hb dX0_greatestDistance_15 rfl (lv_at hl 0 rfl) ?_
        refine lv_iload_n hx hb dX0_greatestDistance_16 rfl (lv_at hl 2 rfl) ?_
        refine lv_aload_n hx hb dX0_greatestDistance_17 rfl (lv_at hl 0 rfl) ?_
        refine g_get (ci := 0) (x := .ref (G.2.2 (10))) C h 1 (by decide) rfl rfl hi0 2 (by decide) f21 rfl rfl dX0_greatestDistance_18 ?_
        refine lv_iconst (v := 0) hx hb dX0_greatestDistance_21 (by decide) ?_
        refine g_iald C h 10 (by decide) (by decide) (n := 3) (by decide) (vp_of (I := 0) (by decide) (by decide) (by decide)) dX0_greatestDistance_22 ?_
        refine lv_topi (fun x_10 e_11 => ?_)
        have hx22 : x_10 = v 10 0 := e_11
        refine lv_aload_n hx hb dX0_greatestDistance_23 rfl (lv_at hl 0 rfl) ?_
        refine g_get (ci := 0) (x := .ref (G.2.2 (10))) C h 1 (by decide) rfl rfl hi0 2 (by decide) f21 rfl rfl dX0_greatestDistance_24 ?_
        refine lv_iconst (v := 1) hx hb dX0_greatestDistance_27 (by decide) ?_
        refine g_iald C h 10 (by decide) (by decide) (n := 3) (by decide) (vp_of (I := 1) (by decide) (by decide) (by decide)) dX0_greatestDistance_28 ?_
        refine lv_topi (fun x_12 e_13 => ?_)
        have hx28 : x_12 = v 10 1 := e_13
        refine lv_aload_n hx hb dX0_greatestDistance_29 rfl (lv_at hl 0 rfl) ?_
        refine g_get (ci := 0) (x := .ref (G.2.2 (10))) C h 1 (by decide) rfl rfl hi0 2 (by decide) f21 rfl rfl dX0_greatestDistance_30 ?_
        refine lv_iconst (v := 2) hx hb dX0_greatestDistance_33 (by decide) ?_
        refine g_iald C h 10 (by decide) (by decide) (n := 3) (by decide) (vp_of (I := 2) (by decide) (by decide) (by decide)) dX0_greatestDistance_34 ?_
        refine lv_topi (fun x_14 e_15 => ?_)
        have hx34 : x_14 = v 10 2 := e_15
        refine g_calli C (va_runV (As := [.int (y_3), .int (x_10), .int (x_12), .int (x_14)]) (rest := [.int (x_8)]) C.1 (c_X0_readingOf l G v w sg y_3 (A1 := (y_3).toInt) rfl x_10 (A2 := (x_10).toInt) rfl x_12 (A3 := (x_12).toInt) rfl x_14 (A4 := (x_14).toInt) rfl (by omega) ci) (cwV 4 hts gX0_greatestDistance_X0_readingOf rfl rfl rfl (by decide +kernel) ⟨by rw [hR]; exact Nat.le_of_ble_eq_true rfl, by rw [hR]; exact Nat.le_of_ble_eq_true rfl⟩) ⟨gPre_blind, g_recv C h 1 (by decide) (ci := 0) rfl rfl, gS_pre C h _⟩ rfl rfl hl.1 rfl (lv_room (Nat.le_of_ble_eq_true rfl)) dX0_greatestDistance_35 ⟨Nat.zero_le _, Nat.zero_le _⟩) h (fun r_16 v_18 w_19 g_20 H locs p_17 h => ?_)
        obtain ⟨p_17, rfl, rfl, rfl⟩ := p_17
        have hrc := p_17
        rw [hx22, hx28, hx34] at hrc
        refine lv_isub hx hb dX0_greatestDistance_38 ?_
        refine lv_topi (fun x_21 e_22 => ?_)
        have hs39 : x_21 = dC v (y_3 : Int32).toInt.toNat := by rw [e_22, hx14, hrc]; rfl
        refine va_mabs hx hb (C.1.2.2.1.trans hl.1.symm) hown (hts (.methodLink RX0 100 Lib.Math.abs.name) (by decide +kernel)) (hts (.static Lib.Math.abs.name) (by decide +kernel)) (hts (.initialized "java/lang/Math") (by decide +kernel)) (hts (.code Lib.Math.abs.name Lib.Math.abs.code 1 (some .int)) (by decide +kernel)) (by rw [hR]; exact Nat.le_of_ble_eq_true rfl) (by rw [hR]; exact Nat.le_of_ble_eq_true rfl) (Nat.zero_le _) (Nat.zero_le _) dX0_greatestDistance_39 ?_
        refine lv_topi (fun x_23 e_24 => ?_)
        refine lv_istore_n (lv' := [(3, .int (x_23)), (0, .ref (G.2.2 (1))), (1, .int (y_2)), (2, .int (y_3))]) hx hb dX0_greatestDistance_42 rfl hl (by decide) rfl (fun ls hl => ?_)
        refine lv_iload_n hx hb dX0_greatestDistance_43 rfl (lv_at hl 2 rfl) ?_
        refine lv_iload_n hx hb dX0_greatestDistance_44 rfl (lv_at hl 0 rfl) ?_
        refine va_mmax hx hb (C.1.2.2.1.trans hl.1.symm) hown (hts (.methodLink RX0 104 Lib.Math.max.name) (by decide +kernel)) (hts (.static Lib.Math.max.name) (by decide +kernel)) (hts (.initialized "java/lang/Math") (by decide +kernel)) (hts (.code Lib.Math.max.name Lib.Math.max.code 2 (some .int)) (by decide +kernel)) (by rw [hR]; exact Nat.le_of_ble_eq_true rfl) (by rw [hR]; exact Nat.le_of_ble_eq_true rfl) (Nat.zero_le _) (Nat.zero_le _) dX0_greatestDistance_45 ?_
        refine lv_topi (fun x_25 e_26 => ?_)
        refine lv_istore_n (lv' := [(1, .int (x_25)), (3, .int (x_23)), (0, .ref (G.2.2 (1))), (2, .int (y_3))]) hx hb dX0_greatestDistance_48 rfl hl (by decide) rfl (fun ls hl => ?_)
        obtain ⟨x_27, e_28⟩ : ∃ y : Int32, y = y_3 + 1 := ⟨_, rfl⟩
        have i_29 : x_27.toInt = (y_3).toInt + 1 := ia_add e_28 rfl (by decide) (by omega) (by omega)
        refine lv_iinc (v := x_27) (lv' := [(2, .int (x_27)), (1, .int (x_25)), (3, .int (x_23)), (0, .ref (G.2.2 (1)))]) hx hb dX0_greatestDistance_49 hl (k := 3) rfl (by rw [e_28]; rfl) (by decide) rfl (fun ls hl => ?_)
        refine lv_goto (tgt := 4) hx hb dX0_greatestDistance_52 (by decide) ?_
        exact ih4 x_25 x_27 _ _ _ (by omega) (by omega) (aw_st f_5 (by omega) (by omega) e_26 e_24 hs39) h (lv_sub hl [3, 1, 0] rfl)
  refine lv_istore_n (lv' := [(2, .int (0)), (1, .int (0)), (0, .ref (G.2.2 (1)))]) hx hb dX0_greatestDistance_3 rfl hl (by decide) rfl (fun ls hl => ?_)
  exact J4_3 _ 0 0 _ _ _ (Nat.lt_succ_self _) (by omega) rfl h (lv_sub hl [2, 1, 0] rfl)

set_option maxHeartbeats 4000000 in
set_option maxRecDepth 100000 in
theorem c_X0_goBack (l : Launch) (G : gG) (v : Nat → Nat → Int32) (w : Nat → Nat → Int64) (sg : Nat → Nat) (p1 : Int32) {A1 : Int} (a1 : p1.toInt = A1) (p2 : Int32) {A2 : Int} (a2 : p2.toInt = A2) (p3 : Int32) {A3 : Int} (a3 : p3.toInt = A3) (p4 : Int32) {A4 : Int} (a4 : p4.toInt = A4) (b4 : 1 ≤ A4 ∧ A4 ≤ 50) (br : rF25 A1 A2 A3) (h2 : sdB v) (ci : cI v) : Met l yX0_goBack wsX0_goBack ({ frames := 3, cells := 0, slots := 0, locals := 76 }) (gPre G v w sg [.ref (G.2.2 (1)), .int (p1), .int (p2), .int (p3), .int (p4)]) (gQi G (fun r v' w' sg' => (cI v' ∧ fC 1 18 v w v' w' ∧ fBk v v' ∧ (((detC v).toInt = 0 ∧ r = -2 ∧ v' = v) ∨ ((detC v).toInt ≠ 0 ∧ bkF v p1 p2 p3 A4 r.toInt v'))) ∧ sg = sg')) 0 0 (gA G) := by
  refine gM_ofi (cc := cX0_goBack) (maxL := 8) (by decide) rfl (Nat.le_of_ble_eq_true rfl) ?_
  intro p e R s m args below meth c Q ls C hR ret h hl
  have hx := C.1.1
  have hb := C.1.2.1
  have hown := C.1.2.2.2.1
  have hts := C.1.2.2.2.2
  have hl : lv_has ls 8 [(0, .ref (G.2.2 (1))), (1, .int (p1)), (2, .int (p2)), (3, .int (p3)), (4, .int (p4))] := hl
  have q1 := i_rng p1; rw [a1] at q1
  have q2 := i_rng p2; rw [a2] at q2
  have q3 := i_rng p3; rw [a3] at q3
  have q4 := i_rng p4; rw [a4] at q4
  have z_m2 : ((-2) : Int32).toInt = (-2) := by decide
  have z_m1 : ((-1) : Int32).toInt = (-1) := by decide
  have z_0 : (0 : Int32).toInt = 0 := by decide
  have z_1 : (1 : Int32).toInt = 1 := by decide
  have f38 : Cond.fieldLink RX0 38 "WindHall$Balance" "equations" "LWindHall$Equations;" ∈ wsX0_goBack := by decide +kernel
  have hi0 : ∀ x ∈ u_ws RX0 TX0 7, x ∈ wsX0_goBack := fun x q => List.mem_cons_of_mem _ (List.mem_append_left _ (List.mem_append_right _ q))
  have f32 : Cond.fieldLink RX0 32 "WindHall$Balance" "given" "[I" ∈ wsX0_goBack := by decide +kernel
  have f21 : Cond.fieldLink RX0 21 "WindHall$Balance" "load" "[I" ∈ wsX0_goBack := by decide +kernel
  have f24 : Cond.fieldLink RX0 24 "WindHall$Balance" "still" "Z" ∈ wsX0_goBack := by decide +kernel
  have f28 : Cond.fieldLink RX0 28 "WindHall$Balance" "away" "I" ∈ wsX0_goBack := by decide +kernel
  have k57 : (Cond.constantLong RX0 57 (100)).before args s = true := hts _ (by decide +kernel)
  have o_1 := ci
  obtain ⟨K1, K2, K3, K4, K5, K6, K7, Ks, K9, Ka, Kr, Kz⟩ := o_1
  refine lv_aload_n hx hb dX0_goBack_0 rfl (lv_at hl 0 rfl) ?_
  refine g_callv C (va_runV (As := []) (rest := []) C.1 (c_X0_setLeft l G v w sg  ci) (cwV 0 hts gX0_goBack_X0_setLeft rfl rfl rfl (by decide +kernel) ⟨by rw [hR]; exact Nat.le_of_ble_eq_true rfl, by rw [hR]; exact Nat.le_of_ble_eq_true rfl⟩) ⟨gPre_blind, g_recv C h 1 (by decide) (ci := 0) rfl rfl, gS_pre C h _⟩ rfl rfl hl.1 rfl (lv_room (Nat.le_of_ble_eq_true rfl)) dX0_goBack_1 ⟨Nat.zero_le _, Nat.zero_le _⟩) h (fun v_4 w_5 g_6 H locs p_3 h => ?_)
  obtain ⟨p_3, rfl, rfl⟩ := p_3
  have u_7 : cI v := p_3.1
  have u_8 : fC 1 18 v w v w_5 := fC_tr fC_rf (fC_le p_3.2.1 (by decide))
  have u_9 : fBk v v := fBk_rf
  have o_10 := u_7
  obtain ⟨K1, K2, K3, K4, K5, K6, K7, Ks, K9, Ka, Kr, Kz⟩ := o_10
  have hbl := p_3.2.2.1
  have hlf := p_3.2.2.2
  refine lv_aload_n hx hb dX0_goBack_4 rfl (lv_at hl 0 rfl) ?_
  refine g_get (ci := 0) (x := .ref (G.2.2 (12))) C h 1 (by decide) rfl rfl hi0 6 (by decide) f38 rfl rfl dX0_goBack_5 ?_
  refine lv_iconst (v := (-1)) hx hb dX0_goBack_8 (by decide) ?_
  refine g_calll C (va_runV (As := [.int ((-1))]) (rest := []) C.1 (c_X4_determinant_12 l G v w_5 sg ((-1)) (A1 := (-1)) (by decide) u_7) (cwV 1 hts gX0_goBack_X4_determinant rfl rfl rfl (by decide +kernel) ⟨by rw [hR]; exact Nat.le_of_ble_eq_true rfl, by rw [hR]; exact Nat.le_of_ble_eq_true rfl⟩) ⟨gPre_blind, g_recv C h 12 (by decide) (ci := 4) rfl rfl, gS_pre C h _⟩ rfl rfl hl.1 rfl (lv_room (Nat.le_of_ble_eq_true rfl)) dX0_goBack_9 ⟨Nat.zero_le _, Nat.zero_le _⟩) h (fun r_11 v_13 w_14 g_15 H locs p_12 h => ?_)
  obtain ⟨p_12, rfl, rfl, rfl⟩ := p_12
  have hdb := p_12.2 (by decide) hbl
  have hdt : (r_11).toInt = (detC v).toInt := by rw [p_12.1, dt_eq hlf]
  refine lv_lstore (lv' := [(5, .long (r_11)), (0, .ref (G.2.2 (1))), (1, .int (p1)), (2, .int (p2)), (3, .int (p3)), (4, .int (p4))]) hx hb dX0_goBack_12 hl (by decide) rfl (fun ls hl => ?_)
  refine lv_lload hx hb dX0_goBack_14 (lv_at hl 0 rfl) ?_
  refine lv_lconst (v := 0) hx hb dX0_goBack_16 (by decide) ?_
  refine W.lcmp hx hb dX0_goBack_17 ?_
  refine lv_if_ne (tgt := 24) hx hb dX0_goBack_18 (by decide) (fun c_16 => ?_) (fun c_16 => ?_)
  · have j_17 : ¬ ((r_11).toInt = 0) := fun q => c_16 ((l_eq0 rfl (by decide)).mpr q)
    refine lv_aload_n hx hb dX0_goBack_24 rfl (lv_at hl 1 rfl) ?_
    refine g_get (ci := 0) (x := .ref (G.2.2 (11))) C h 1 (by decide) rfl rfl hi0 5 (by decide) f32 rfl rfl dX0_goBack_25 ?_
    refine lv_iload_n hx hb dX0_goBack_28 rfl (lv_at hl 2 rfl) ?_
    refine lv_iload_n hx hb dX0_goBack_29 rfl (lv_at hl 3 rfl) ?_
    refine lv_iload_n hx hb dX0_goBack_30 rfl (lv_at hl 4 rfl) ?_
    refine g_callv C (va_runSN (As := [.ref (G.2.2 (11)), .int (p1), .int (p2), .int (p3)]) (rest := []) C.1 (c_X9_setRow l G v w_5 sg 11 p1 (A1 := A1) a1 p2 (A2 := A2) a2 p3 (A3 := A3) a3 (by decide) (by decide) (by decide)) ⟨va_cnB 4 hts ggX0_goBack_X9_setRow rfl rfl rfl C.2.1.2.1 (hts (.initialized RX9) (by decide +kernel)) (by decide +kernel) ⟨by rw [hR]; exact Nat.le_of_ble_eq_true rfl, by rw [hR]; exact Nat.le_of_ble_eq_true rfl⟩, (hts (.static yX9_setRow) (by decide +kernel)), trivial⟩ ⟨gPre_blind, gS_pre C h _⟩ rfl rfl hl.1 rfl (lv_room (Nat.le_of_ble_eq_true rfl)) dX0_goBack_31 ⟨Nat.zero_le _, Nat.zero_le _⟩) h (fun v_20 w_21 g_22 H locs p_19 h => ?_)
    obtain ⟨p_19, rfl, rfl⟩ := p_19
    obtain ⟨v_23, hv_23⟩ : ∃ z, z = gu v 11 0 p1 := ⟨_, rfl⟩
    have u_24 : cI v_23 := by rw [hv_23]; exact (cI_o u_7 (by decide))
    have u_25 : fC 1 18 v w v_23 w_5 := by rw [hv_23]; exact (fC_v u_8 (by decide))
    have u_26 : fBk v v_23 := by rw [hv_23]; exact (fBk_v u_9 (by decide))
    obtain ⟨v_27, hv_27⟩ : ∃ z, z = gu v_23 11 1 p2 := ⟨_, rfl⟩
    have u_28 : cI v_27 := by rw [hv_27]; exact (cI_o u_24 (by decide))
    have u_29 : fC 1 18 v w v_27 w_5 := by rw [hv_27]; exact (fC_v u_25 (by decide))
    have u_30 : fBk v v_27 := by rw [hv_27]; exact (fBk_v u_26 (by decide))
    have hv_20 : v_20 = gu v_27 11 2 p3 := by rw [hv_27, hv_23]; exact p_19
    have u_31 : cI v_20 := by rw [hv_20]; exact (cI_o u_28 (by decide))
    have u_32 : fC 1 18 v w v_20 w_5 := by rw [hv_20]; exact (fC_v u_29 (by decide))
    have u_33 : fBk v v_20 := by rw [hv_20]; exact (fBk_v u_30 (by decide))
    refine lv_aload_n hx hb dX0_goBack_34 rfl (lv_at hl 1 rfl) ?_
    refine g_get (ci := 0) (x := .ref (G.2.2 (10))) C h 1 (by decide) rfl rfl hi0 2 (by decide) f21 rfl rfl dX0_goBack_35 ?_
    refine lv_iconst (v := 0) hx hb dX0_goBack_38 (by decide) ?_
    refine lv_iconst (v := 0) hx hb dX0_goBack_39 (by decide) ?_
    refine lv_iconst (v := 0) hx hb dX0_goBack_40 (by decide) ?_
    refine g_callv C (va_runSN (As := [.ref (G.2.2 (10)), .int (0), .int (0), .int (0)]) (rest := []) C.1 (c_X9_setRow l G v_20 w_5 sg 10 (0) (A1 := 0) (by decide) (0) (A2 := 0) (by decide) (0) (A3 := 0) (by decide) (by decide) (by decide) (by decide)) ⟨va_cnB 4 hts ggX0_goBack_X9_setRow rfl rfl rfl C.2.1.2.1 (hts (.initialized RX9) (by decide +kernel)) (by decide +kernel) ⟨by rw [hR]; exact Nat.le_of_ble_eq_true rfl, by rw [hR]; exact Nat.le_of_ble_eq_true rfl⟩, (hts (.static yX9_setRow) (by decide +kernel)), trivial⟩ ⟨gPre_blind, gS_pre C h _⟩ rfl rfl hl.1 rfl (lv_room (Nat.le_of_ble_eq_true rfl)) dX0_goBack_41 ⟨Nat.zero_le _, Nat.zero_le _⟩) h (fun v_36 w_37 g_38 H locs p_35 h => ?_)
    obtain ⟨p_35, rfl, rfl⟩ := p_35
    obtain ⟨v_39, hv_39⟩ : ∃ z, z = gu v_20 10 0 0 := ⟨_, rfl⟩
    have u_40 : cI v_39 := by rw [hv_39]; exact (cI_o u_31 (by decide))
    have u_41 : fC 1 18 v w v_39 w_5 := by rw [hv_39]; exact (fC_v u_32 (by decide))
    have u_42 : fBk v v_39 := by rw [hv_39]; exact (fBk_v u_33 (by decide))
    obtain ⟨v_43, hv_43⟩ : ∃ z, z = gu v_39 10 1 0 := ⟨_, rfl⟩
    have u_44 : cI v_43 := by rw [hv_43]; exact (cI_o u_40 (by decide))
    have u_45 : fC 1 18 v w v_43 w_5 := by rw [hv_43]; exact (fC_v u_41 (by decide))
    have u_46 : fBk v v_43 := by rw [hv_43]; exact (fBk_v u_42 (by decide))
    have hv_36 : v_36 = gu v_43 10 2 0 := by rw [hv_43, hv_39]; exact p_35
    have u_47 : cI v_36 := by rw [hv_36]; exact (cI_o u_44 (by decide))
    have u_48 : fC 1 18 v w v_36 w_5 := by rw [hv_36]; exact (fC_v u_45 (by decide))
    have u_49 : fBk v v_36 := by rw [hv_36]; exact (fBk_v u_46 (by decide))
    refine lv_aload_n hx hb dX0_goBack_44 rfl (lv_at hl 1 rfl) ?_
    refine lv_iconst (v := 0) hx hb dX0_goBack_45 (by decide) ?_
    refine g_put (ci := 0) (x := 0) (ty := .boolean) C h 1 (by decide) rfl rfl hi0 tyX0 tyX0_ok nmX0 3 (by decide) f24 rfl rfl (by decide +kernel) rfl rfl (Nat.le_of_ble_eq_true rfl) rfl dX0_goBack_46 (fun H locs h => ?_)
    obtain ⟨v_50, hv_50⟩ : ∃ z, z = gu v_36 1 3 0 := ⟨_, rfl⟩
    have h : gS (gA G) G s v_50 w_5 sg H locs := by rw [hv_50]; exact h
    have u_51 : cI v_50 := by rw [hv_50]; exact (cI_o u_47 (by decide))
    have u_52 : fC 1 18 v w v_50 w_5 := by rw [hv_50]; exact (fC_v u_48 (by decide))
    have u_53 : fBk v v_50 := by rw [hv_50]; exact (fBk_v u_49 (by decide))
    have hl10 : ∀ j, j < 3 → v_50 10 j = 0 := fun j hj => by rw [hv_50, hv_36, hv_43, hv_39, hv_20, hv_27, hv_23]; (rcases (show j = 0 ∨ j = 1 ∨ j = 2 by omega) with rfl | rfl | rfl <;> rfl)
    have hl11 : ∀ j, j < 3 → v_50 11 j = sel3 j p1 p2 p3 := fun j hj => by rw [hv_50, hv_36, hv_43, hv_39, hv_20, hv_27, hv_23]; (rcases (show j = 0 ∨ j = 1 ∨ j = 2 by omega) with rfl | rfl | rfl <;> rfl)
    have hl13 : (v_50 1 3).toInt = 0 := by rw [hv_50, hv_36, hv_43, hv_39, hv_20, hv_27, hv_23]; rfl
    unfold rF25 at br
    refine lv_iconst (v := 0) hx hb dX0_goBack_49 (by decide) ?_
    have J52_56 : ∀ (n : Nat) (y_54 : Int32) (v_55 : Nat → Nat → Int32) (w_56 : Nat → Nat → Int64) (H : Heap) (locs : List Loc) (ls : Array Slot), (A4 - (y_54).toInt).toNat < n → (cI v_55) → (fC 1 18 v w v_55 w_56) → (fBk v v_55) → (0 ≤ (y_54).toInt ∧ (y_54).toInt ≤ A4) → (bkI (nlV v p1 p2 p3) (y_54).toInt (v_55 10) (v_55 1 3).toInt) → (gbE v v_55 w_56 p1 p2 p3) → gS (gA G) G s v_55 w_56 sg H locs → lv_has ls 8 [(0, .ref (G.2.2 (1))), (1, .int (p1)), (2, .int (p2)), (3, .int (p3)), (4, .int (p4)), (5, .long (r_11)), (7, .int (y_54))] → W p l e R s m args below meth c H locs 0 0 Q (F0 m 52 ls []) := by
      intro n
      induction n with
      | zero => intro y_54 v_55 w_56 H locs ls hm; exact absurd hm (Nat.not_lt_zero _)
      | succ n ih52 =>
        intro y_54 v_55 w_56 H locs ls hm u_57 u_58 u_59 f_60 f_61 f_62 h hl
        have o_63 := u_57
        obtain ⟨K1, K2, K3, K4, K5, K6, K7, Ks, K9, Ka, Kr, Kz⟩ := o_63
        have hfp52 := u_59
        refine lv_iload hx hb dX0_goBack_52 (lv_at hl 6 rfl) ?_
        refine lv_iload hx hb dX0_goBack_54 (lv_at hl 4 rfl) ?_
        have J94_63 : ∀ (H : Heap) (locs : List Loc) (ls : Array Slot), ((y_54).toInt = A4 ∨ (v_55 1 3).toInt = 1) → gS (gA G) G s v_55 w_56 sg H locs → lv_has ls 8 [(0, .ref (G.2.2 (1))), (1, .int (p1)), (2, .int (p2)), (3, .int (p3)), (4, .int (p4)), (5, .long (r_11)), (7, .int (y_54))] → W p l e R s m args below meth c H locs 0 0 Q (F0 m 94 ls []) := by
          intro  H locs ls f_64 h hl
          refine lv_aload_n hx hb dX0_goBack_94 rfl (lv_at hl 0 rfl) ?_
          refine lv_aload_n hx hb dX0_goBack_95 rfl (lv_at hl 0 rfl) ?_
          refine g_calli C (va_runV (As := []) (rest := [.ref (G.2.2 (1))]) C.1 (c_X0_greatestDistance l G v_55 w_56 sg  u_57) (cwV 0 hts gX0_goBack_X0_greatestDistance rfl rfl rfl (by decide +kernel) ⟨by rw [hR]; exact Nat.le_of_ble_eq_true rfl, by rw [hR]; exact Nat.le_of_ble_eq_true rfl⟩) ⟨gPre_blind, g_recv C h 1 (by decide) (ci := 0) rfl rfl, gS_pre C h _⟩ rfl rfl hl.1 rfl (lv_room (Nat.le_of_ble_eq_true rfl)) dX0_goBack_96 ⟨Nat.zero_le _, Nat.zero_le _⟩) h (fun r_65 v_67 w_68 g_69 H locs p_66 h => ?_)
          obtain ⟨p_66, rfl, rfl, rfl⟩ := p_66
          have haw := p_66
          refine g_put (ci := 0) (x := r_65) (ty := .int) C h 1 (by decide) rfl rfl hi0 tyX0 tyX0_ok nmX0 4 (by decide) f28 rfl rfl (by decide +kernel) rfl rfl (Nat.le_of_ble_eq_true rfl) rfl dX0_goBack_99 (fun H locs h => ?_)
          obtain ⟨v_70, hv_70⟩ : ∃ z, z = gu v_55 1 4 r_65 := ⟨_, rfl⟩
          have h : gS (gA G) G s v_70 w_56 sg H locs := by rw [hv_70]; exact h
          have u_71 : cI v_70 := by rw [hv_70]; exact (cI_o u_57 (by decide))
          have u_72 : fC 1 18 v w v_70 w_56 := by rw [hv_70]; exact (fC_v u_58 (by decide))
          have u_73 : fBk v v_70 := by rw [hv_70]; exact (fBk_v u_59 (by decide))
          refine lv_iload hx hb dX0_goBack_102 (lv_at hl 6 rfl) ?_
          exact ret y_54 v_70 w_56 sg _ _ _ _ dX0_goBack_104 h ⟨⟨u_71, u_72, u_73, Or.inr ⟨by omega, by omega, (by rw [hv_70, gu_o (by decide), gu_n (by decide)]; exact f_61), (by rw [hv_70, gu_n (by decide)]; exact f_64), (by rw [hv_70, gu_y, gu_o (by decide), haw]; exact awN_cg 3 (fun i hi => by unfold dC; rw [f_62.1 i hi, hfp52 (3 + i) (by omega) (by omega), hfp52 (7 + i) (by omega) (by omega)]))⟩⟩, rfl⟩
        refine lv_icmp_ge (tgt := 94) hx hb dX0_goBack_56 (by decide) (fun c_74 => ?_) (fun c_74 => ?_)
        · have j_75 : A4 ≤ (y_54).toInt := (i_le a4 rfl).mp c_74
          exact J94_63  _ _ _ (by first | exact Or.inl (by omega) | exact Or.inr (bkI_1 f_61 (by omega))) h (lv_sub hl [0, 1, 2, 3, 4, 5, 6] rfl)
        · have j_75 : ¬ (A4 ≤ (y_54).toInt) := fun q => c_74 ((i_le a4 rfl).mpr q)
          refine lv_aload_n hx hb dX0_goBack_59 rfl (lv_at hl 0 rfl) ?_
          refine g_geti (ci := 0) (x := v_55 1 3) C h 1 (by decide) rfl rfl hi0 3 (by decide) f24 rfl rfl rfl dX0_goBack_60 ?_
          refine lv_if_ne (tgt := 94) hx hb dX0_goBack_63 (by decide) (fun c_76 => ?_) (fun c_76 => ?_)
          · have j_77 : ¬ ((v_55 1 3).toInt = 0) := fun q => c_76 ((i_eq rfl (by decide)).mpr q)
            exact J94_63  _ _ _ (by first | exact Or.inl (by omega) | exact Or.inr (bkI_1 f_61 (by omega))) h (lv_sub hl [0, 1, 2, 3, 4, 5, 6] rfl)
          · have j_77 : (v_55 1 3).toInt = 0 := (i_eq rfl (by decide)).mp c_76
            refine lv_aload_n hx hb dX0_goBack_66 rfl (lv_at hl 0 rfl) ?_
            refine lv_aload_n hx hb dX0_goBack_67 rfl (lv_at hl 0 rfl) ?_
            refine lv_ldc2 hx hb hown k57 dX0_goBack_68 ?_
            refine lv_lload hx hb dX0_goBack_71 (lv_at hl 5 rfl) ?_
            refine lv_lmul hx hb dX0_goBack_73 ?_
            refine lv_topl (fun x_78 e_79 => ?_)
            have i_80 : x_78.toInt = 100 * (r_11).toInt := la_mul e_79 (by decide) rfl (by omega) (by omega)
            refine g_calli C (va_runV (As := [.long (x_78)]) (rest := [.ref (G.2.2 (1))]) C.1 (c_X0_goRound l G v_55 w_56 sg x_78 (A1 := (100 * (r_11).toInt)) i_80 (by omega) (by omega) (bL_of Ka u_59 f_62.2.2) (gv_of f_62.1 a1 a2 a3 (by omega) (by omega) (by omega)) f_62.2.1 (sdB_f u_59 h2) u_57) (cwV 1 hts gX0_goBack_X0_goRound rfl rfl rfl (by decide +kernel) ⟨by rw [hR]; exact Nat.le_of_ble_eq_true rfl, by rw [hR]; exact Nat.le_of_ble_eq_true rfl⟩) ⟨gPre_blind, g_recv C h 1 (by decide) (ci := 0) rfl rfl, gS_pre C h _⟩ rfl rfl hl.1 rfl (lv_room (Nat.le_of_ble_eq_true rfl)) dX0_goBack_74 ⟨Nat.zero_le _, Nat.zero_le _⟩) h (fun r_81 v_83 w_84 g_85 H locs p_82 h => ?_)
            obtain ⟨p_82, rfl⟩ := p_82
            have u_86 : cI v_83 := p_82.1
            have u_87 : fC 1 18 v w v_83 w_84 := fC_tr u_58 (fC_le p_82.2.1 (by decide))
            have u_88 : fBk v v_83 := fBk_tr u_59 p_82.2.2.1
            have o_89 := u_86
            obtain ⟨K1, K2, K3, K4, K5, K6, K7, Ks, K9, Ka, Kr, Kz⟩ := o_89
            have hgr := p_82.2.2.2
            obtain ⟨RR, hRR⟩ : ∃ q : Int, q = (r_81 : Int32).toInt := ⟨_, rfl⟩
            have hgr1 := hgr.1
            have hgc := hgr.2.2.2.2
            rw [← hRR] at hgr1 hgc
            have J85_90 : ∀ (y_90 : Int32) (H : Heap) (locs : List Loc) (ls : Array Slot), ((y_90).toInt = 0 ∨ (y_90).toInt = 1) → (((y_90).toInt = 1 ∧ RR = 0) ∨ ((y_90).toInt = 0 ∧ RR = 1)) → gS (gA G) G s v_83 w_84 sg H locs → lv_has ls 8 [(0, .ref (G.2.2 (1))), (1, .int (p1)), (2, .int (p2)), (3, .int (p3)), (4, .int (p4)), (5, .long (r_11)), (7, .int (y_54))] → W p l e R s m args below meth c H locs 0 0 Q (F0 m 85 ls [.int (y_90), .ref (G.2.2 (1))]) := by
              intro y_90 H locs ls f_91 f_92 h hl
              refine g_put (ci := 0) (x := y_90) (ty := .boolean) C h 1 (by decide) rfl rfl hi0 tyX0 tyX0_ok nmX0 3 (by decide) f24 rfl rfl (by decide +kernel) (nb_of (by omega)) (fb_of (by omega)) (Nat.le_of_ble_eq_true rfl) rfl dX0_goBack_85 (fun H locs h => ?_)
              obtain ⟨v_93, hv_93⟩ : ∃ z, z = gu v_83 1 3 y_90 := ⟨_, rfl⟩
              have h : gS (gA G) G s v_93 w_84 sg H locs := by rw [hv_93]; exact h
              have u_94 : cI v_93 := by rw [hv_93]; exact (cI_o u_86 (by decide))
              have u_95 : fC 1 18 v w v_93 w_84 := by rw [hv_93]; exact (fC_v u_87 (by decide))
              have u_96 : fBk v v_93 := by rw [hv_93]; exact (fBk_v u_88 (by decide))
              obtain ⟨x_97, e_98⟩ : ∃ y : Int32, y = y_54 + 1 := ⟨_, rfl⟩
              have i_99 : x_97.toInt = (y_54).toInt + 1 := ia_add e_98 rfl (by decide) (by omega) (by omega)
              refine lv_iinc (v := x_97) (lv' := [(7, .int (x_97)), (0, .ref (G.2.2 (1))), (1, .int (p1)), (2, .int (p2)), (3, .int (p3)), (4, .int (p4)), (5, .long (r_11))]) hx hb dX0_goBack_88 hl (k := 6) rfl (by rw [e_98]; rfl) (by decide) rfl (fun ls hl => ?_)
              refine lv_goto (tgt := 52) hx hb dX0_goBack_91 (by decide) ?_
              exact ih52 x_97 v_93 w_84 _ _ _ (by omega) u_94 u_95 u_96 (by omega) (bk_round (by omega) f_61 (by omega) f_62 hfp52 hgr.2.1 hgr.2.2.1 hgr.2.2.2.1 hgc f_92 hv_93 (by omega) (by omega)).1 (bk_round (k' := ((y_54).toInt + 1)) (by omega) f_61 (by omega) f_62 hfp52 hgr.2.1 hgr.2.2.1 hgr.2.2.2.1 hgc f_92 hv_93 (by omega) (by omega)).2 h (lv_sub hl [1, 2, 3, 4, 5, 6, 0] rfl)
            refine lv_if_ne (tgt := 84) hx hb dX0_goBack_77 (by decide) (fun c_100 => ?_) (fun c_100 => ?_)
            · have j_101 : ¬ ((r_81).toInt = 0) := fun q => c_100 ((i_eq rfl (by decide)).mpr q)
              refine lv_iconst (v := 0) hx hb dX0_goBack_84 (by decide) ?_
              exact J85_90 0 _ _ _ (by omega) (by omega) h (lv_sub hl [0, 1, 2, 3, 4, 5, 6] rfl)
            · have j_101 : (r_81).toInt = 0 := (i_eq rfl (by decide)).mp c_100
              refine lv_iconst (v := 1) hx hb dX0_goBack_80 (by decide) ?_
              refine lv_goto (tgt := 85) hx hb dX0_goBack_81 (by decide) ?_
              exact J85_90 1 _ _ _ (by omega) (by omega) h (lv_sub hl [0, 1, 2, 3, 4, 5, 6] rfl)
    refine lv_istore (lv' := [(7, .int (0)), (5, .long (r_11)), (0, .ref (G.2.2 (1))), (1, .int (p1)), (2, .int (p2)), (3, .int (p3)), (4, .int (p4))]) hx hb dX0_goBack_50 hl (by decide) rfl (fun ls hl => ?_)
    exact J52_56 _ 0 v_50 w_5 _ _ _ (Nat.lt_succ_self _) u_51 u_52 u_53 (by omega) (bkI_0 (by decide) hl13 hl10) ⟨hl11, fun j hj => by rw [hl10 j hj]; exact ⟨by decide, by decide⟩, hlf⟩ h (lv_sub hl [2, 3, 4, 5, 6, 1, 0] rfl)
  · have j_17 : (r_11).toInt = 0 := (l_eq0 rfl (by decide)).mp c_16
    refine lv_bipush (v := (-2)) hx hb dX0_goBack_21 (by decide) ?_
    exact ret (-2) v w_5 sg _ _ _ _ dX0_goBack_23 h ⟨⟨u_7, u_8, u_9, Or.inl ⟨by omega, rfl, rfl⟩⟩, rfl⟩

set_option maxHeartbeats 4000000 in
set_option maxRecDepth 100000 in
theorem c_X9_reading (l : Launch) (G : gG) (v : Nat → Nat → Int32) (w : Nat → Nat → Int64) (sg : Nat → Nat) (p1 : Int32) {A1 : Int} (a1 : p1.toInt = A1) (p2 : Int32) {A2 : Int} (a2 : p2.toInt = A2) (p3 : Int32) {A3 : Int} (a3 : p3.toInt = A3) (p4 : Int32) {A4 : Int} (a4 : p4.toInt = A4) (ci : cI v) : Met l yX9_reading wsX9_reading ({ frames := 2, cells := 0, slots := 0, locals := 50 }) (gPre G v w sg [.ref (G.2.2 (0)), .int (p1), .int (p2), .int (p3), .int (p4)]) (gQi G (fun r v' w' sg' => ((rF4 A1 A2 A3 A4 ∧ r = rd9 (v (3 + A1.toNat)) (v (7 + A1.toNat)) p2 p3 p4) ∨ (¬ rF4 A1 A2 A3 A4 ∧ r = 9999999)) ∧ v = v' ∧ w = w' ∧ sg = sg')) 0 0 (gA G) := by
  refine gM_ofi (cc := cX9_reading) (maxL := 5) (by decide) rfl (Nat.le_of_ble_eq_true rfl) ?_
  intro p e R s m args below meth c Q ls C hR ret h hl
  have hx := C.1.1
  have hb := C.1.2.1
  have hown := C.1.2.2.2.1
  have hts := C.1.2.2.2.2
  have hl : lv_has ls 5 [(0, .ref (G.2.2 (0))), (1, .int (p1)), (2, .int (p2)), (3, .int (p3)), (4, .int (p4))] := hl
  have q1 := i_rng p1; rw [a1] at q1
  have q2 := i_rng p2; rw [a2] at q2
  have q3 := i_rng p3; rw [a3] at q3
  have q4 := i_rng p4; rw [a4] at q4
  have z_0 : (0 : Int32).toInt = 0 := by decide
  have z_1 : (1 : Int32).toInt = 1 := by decide
  have z_3 : (3 : Int32).toInt = 3 := by decide
  have z_9999999 : (9999999 : Int32).toInt = 9999999 := by decide
  have f10 : Cond.fieldLink RX9 10 "WindHall" "balance" "LWindHall$Balance;" ∈ wsX9_reading := by decide +kernel
  have hi9 : ∀ x ∈ u_ws RX9 TX9 7, x ∈ wsX9_reading := fun x q => List.mem_cons_of_mem _ (List.mem_append_left _ (List.mem_append_right _ q))
  have k76 : (Cond.constant RX9 76 (9999999)).before args s = true := hts _ (by decide +kernel)
  have o_1 := ci
  obtain ⟨K1, K2, K3, K4, K5, K6, K7, Ks, K9, Ka, Kr, Kz⟩ := o_1
  refine lv_iload_n hx hb dX9_reading_0 rfl (lv_at hl 1 rfl) ?_
  refine lv_iconst (v := 3) hx hb dX9_reading_1 (by decide) ?_
  refine g_calli C (va_runS (As := [.int (p1), .int (3)]) (rest := []) C.1 (c_X9_isIndex l G v w sg p1 (A0 := A1) a1 (3) (A1 := 3) (by decide)) (va_cwS 2 hts gX9_reading_X9_isIndex rfl rfl rfl (by decide +kernel) ⟨by rw [hR]; exact Nat.le_of_ble_eq_true rfl, by rw [hR]; exact Nat.le_of_ble_eq_true rfl⟩) ⟨gPre_blind, gS_pre C h _⟩ rfl rfl hl.1 rfl (lv_room (Nat.le_of_ble_eq_true rfl)) dX9_reading_2 ⟨Nat.zero_le _, Nat.zero_le _⟩) h (fun r_2 v_4 w_5 g_6 H locs p_3 h => ?_)
  obtain ⟨p_3, rfl, rfl, rfl⟩ := p_3
  rcases p_3 with ⟨rfl, t_7⟩ | ⟨rfl, t_7⟩
  · skip
    refine lv_if_eq (tgt := 18) hx hb dX9_reading_5 (by decide) (fun c_8 => absurd c_8 (by decide)) (fun _ => ?_)
    refine lv_iload_n hx hb dX9_reading_8 rfl (lv_at hl 2 rfl) ?_
    refine lv_iload_n hx hb dX9_reading_9 rfl (lv_at hl 3 rfl) ?_
    refine lv_iload hx hb dX9_reading_10 (lv_at hl 4 rfl) ?_
    refine g_calli C (va_runS (As := [.int (p2), .int (p3), .int (p4)]) (rest := []) C.1 (c_X9_areLoads l G v w sg p2 (A0 := A2) a2 p3 (A1 := A3) a3 p4 (A2 := A4) a4) (va_cwS 3 hts gX9_reading_X9_areLoads rfl rfl rfl (by decide +kernel) ⟨by rw [hR]; exact Nat.le_of_ble_eq_true rfl, by rw [hR]; exact Nat.le_of_ble_eq_true rfl⟩) ⟨gPre_blind, gS_pre C h _⟩ rfl rfl hl.1 rfl (lv_room (Nat.le_of_ble_eq_true rfl)) dX9_reading_12 ⟨Nat.zero_le _, Nat.zero_le _⟩) h (fun r_9 v_11 w_12 g_13 H locs p_10 h => ?_)
    obtain ⟨p_10, rfl, rfl, rfl⟩ := p_10
    rcases p_10 with ⟨rfl, t_14⟩ | ⟨rfl, t_14⟩
    · skip
      refine lv_if_ne (tgt := 21) hx hb dX9_reading_15 (by decide) (fun _ => ?_) (fun c_15 => absurd c_15 (by decide))
      refine lv_aload_n hx hb dX9_reading_21 rfl (lv_at hl 0 rfl) ?_
      refine g_get (ci := 9) (x := .ref (G.2.2 (1))) C h 0 (by decide) rfl rfl hi9 0 (by decide) f10 rfl rfl dX9_reading_22 ?_
      refine lv_iload_n hx hb dX9_reading_25 rfl (lv_at hl 1 rfl) ?_
      refine lv_iload_n hx hb dX9_reading_26 rfl (lv_at hl 2 rfl) ?_
      refine lv_iload_n hx hb dX9_reading_27 rfl (lv_at hl 3 rfl) ?_
      refine lv_iload hx hb dX9_reading_28 (lv_at hl 4 rfl) ?_
      refine g_calli C (va_runV (As := [.int (p1), .int (p2), .int (p3), .int (p4)]) (rest := []) C.1 (c_X0_readingOf l G v w sg p1 (A1 := A1) a1 p2 (A2 := A2) a2 p3 (A3 := A3) a3 p4 (A4 := A4) a4 (by omega) ci) (cwV 4 hts gX9_reading_X0_readingOf rfl rfl rfl (by decide +kernel) ⟨by rw [hR]; exact Nat.le_of_ble_eq_true rfl, by rw [hR]; exact Nat.le_of_ble_eq_true rfl⟩) ⟨gPre_blind, g_recv C h 1 (by decide) (ci := 0) rfl rfl, gS_pre C h _⟩ rfl rfl hl.1 rfl (lv_room (Nat.le_of_ble_eq_true rfl)) dX9_reading_30 ⟨Nat.zero_le _, Nat.zero_le _⟩) h (fun r_16 v_18 w_19 g_20 H locs p_17 h => ?_)
      obtain ⟨p_17, rfl, rfl, rfl⟩ := p_17
      exact ret r_16 v w sg _ _ _ _ dX9_reading_33 h ⟨Or.inl ⟨by unfold rF4; omega, p_17⟩, rfl, rfl, rfl⟩
    · skip
      refine lv_if_ne (tgt := 21) hx hb dX9_reading_15 (by decide) (fun c_21 => absurd (by decide) c_21) (fun _ => ?_)
      refine lv_ldc hx hb hown k76 dX9_reading_18 ?_
      exact ret 9999999 v w sg _ _ _ _ dX9_reading_20 h ⟨Or.inr ⟨by unfold rF4; omega, rfl⟩, rfl, rfl, rfl⟩
  · skip
    refine lv_if_eq (tgt := 18) hx hb dX9_reading_5 (by decide) (fun _ => ?_) (fun c_22 => absurd (by decide) c_22)
    refine lv_ldc hx hb hown k76 dX9_reading_18 ?_
    exact ret 9999999 v w sg _ _ _ _ dX9_reading_20 h ⟨Or.inr ⟨by unfold rF4; omega, rfl⟩, rfl, rfl, rfl⟩

set_option maxHeartbeats 4000000 in
set_option maxRecDepth 100000 in
theorem c_X9_back (l : Launch) (G : gG) (v : Nat → Nat → Int32) (w : Nat → Nat → Int64) (sg : Nat → Nat) (p1 : Int32) {A1 : Int} (a1 : p1.toInt = A1) (p2 : Int32) {A2 : Int} (a2 : p2.toInt = A2) (p3 : Int32) {A3 : Int} (a3 : p3.toInt = A3) (p4 : Int32) {A4 : Int} (a4 : p4.toInt = A4) (h2 : sdB v) (ci : cI v) : Met l yX9_back wsX9_back ({ frames := 4, cells := 0, slots := 0, locals := 103 }) (gPre G v w sg [.ref (G.2.2 (0)), .int (p1), .int (p2), .int (p3), .int (p4)]) (gQi G (fun r v' w' sg' => (cI v' ∧ fC 1 18 v w v' w' ∧ fBk v v' ∧ ((¬ (rF25 A1 A2 A3 ∧ 1 ≤ A4 ∧ A4 ≤ 50) ∧ r = -1 ∧ v' = v) ∨ ((rF25 A1 A2 A3 ∧ 1 ≤ A4 ∧ A4 ≤ 50) ∧ (((detC v).toInt = 0 ∧ r = -2 ∧ v' = v) ∨ ((detC v).toInt ≠ 0 ∧ bkF v p1 p2 p3 A4 r.toInt v'))))) ∧ sg = sg')) 0 0 (gA G) := by
  refine gM_ofi (cc := cX9_back) (maxL := 5) (by decide) rfl (Nat.le_of_ble_eq_true rfl) ?_
  intro p e R s m args below meth c Q ls C hR ret h hl
  have hx := C.1.1
  have hb := C.1.2.1
  have hown := C.1.2.2.2.1
  have hts := C.1.2.2.2.2
  have hl : lv_has ls 5 [(0, .ref (G.2.2 (0))), (1, .int (p1)), (2, .int (p2)), (3, .int (p3)), (4, .int (p4))] := hl
  have q1 := i_rng p1; rw [a1] at q1
  have q2 := i_rng p2; rw [a2] at q2
  have q3 := i_rng p3; rw [a3] at q3
  have q4 := i_rng p4; rw [a4] at q4
  have z_m1 : ((-1) : Int32).toInt = (-1) := by decide
  have z_0 : (0 : Int32).toInt = 0 := by decide
  have z_1 : (1 : Int32).toInt = 1 := by decide
  have z_50 : (50 : Int32).toInt = 50 := by decide
  have f10 : Cond.fieldLink RX9 10 "WindHall" "balance" "LWindHall$Balance;" ∈ wsX9_back := by decide +kernel
  have hi9 : ∀ x ∈ u_ws RX9 TX9 7, x ∈ wsX9_back := fun x q => List.mem_cons_of_mem _ (List.mem_append_left _ (List.mem_append_left _ (List.mem_append_right _ q)))
  have o_1 := ci
  obtain ⟨K1, K2, K3, K4, K5, K6, K7, Ks, K9, Ka, Kr, Kz⟩ := o_1
  refine lv_iload_n hx hb dX9_back_0 rfl (lv_at hl 1 rfl) ?_
  refine lv_iload_n hx hb dX9_back_1 rfl (lv_at hl 2 rfl) ?_
  refine lv_iload_n hx hb dX9_back_2 rfl (lv_at hl 3 rfl) ?_
  refine g_calli C (va_runS (As := [.int (p1), .int (p2), .int (p3)]) (rest := []) C.1 (c_X9_areReadings l G v w sg p1 (A0 := A1) a1 p2 (A1 := A2) a2 p3 (A2 := A3) a3) (va_cwS 3 hts gX9_back_X9_areReadings rfl rfl rfl (by decide +kernel) ⟨by rw [hR]; exact Nat.le_of_ble_eq_true rfl, by rw [hR]; exact Nat.le_of_ble_eq_true rfl⟩) ⟨gPre_blind, gS_pre C h _⟩ rfl rfl hl.1 rfl (lv_room (Nat.le_of_ble_eq_true rfl)) dX9_back_3 ⟨Nat.zero_le _, Nat.zero_le _⟩) h (fun r_2 v_4 w_5 g_6 H locs p_3 h => ?_)
  obtain ⟨p_3, rfl, rfl, rfl⟩ := p_3
  rcases p_3 with ⟨rfl, t_7⟩ | ⟨rfl, t_7⟩
  · skip
    refine lv_if_eq (tgt := 22) hx hb dX9_back_6 (by decide) (fun c_8 => absurd c_8 (by decide)) (fun _ => ?_)
    refine lv_iload hx hb dX9_back_9 (lv_at hl 4 rfl) ?_
    refine lv_iconst (v := 1) hx hb dX9_back_11 (by decide) ?_
    refine lv_icmp_lt (tgt := 22) hx hb dX9_back_12 (by decide) (fun c_9 => ?_) (fun c_9 => ?_)
    · have j_10 : A4 < 1 := (i_lt a4 (by decide)).mp c_9
      refine lv_iconst (v := (-1)) hx hb dX9_back_22 (by decide) ?_
      exact ret (-1) v w sg _ _ _ _ dX9_back_23 h ⟨⟨ci, fC_rf, fBk_rf, Or.inl ⟨by unfold rF25; omega, rfl, rfl⟩⟩, rfl⟩
    · have j_10 : ¬ (A4 < 1) := fun q => c_9 ((i_lt a4 (by decide)).mpr q)
      refine lv_iload hx hb dX9_back_15 (lv_at hl 4 rfl) ?_
      refine lv_bipush (v := 50) hx hb dX9_back_17 (by decide) ?_
      refine lv_icmp_le (tgt := 24) hx hb dX9_back_19 (by decide) (fun c_11 => ?_) (fun c_11 => ?_)
      · have j_12 : A4 ≤ 50 := (i_le a4 (by decide)).mp c_11
        refine lv_aload_n hx hb dX9_back_24 rfl (lv_at hl 0 rfl) ?_
        refine g_get (ci := 9) (x := .ref (G.2.2 (1))) C h 0 (by decide) rfl rfl hi9 0 (by decide) f10 rfl rfl dX9_back_25 ?_
        refine lv_iload_n hx hb dX9_back_28 rfl (lv_at hl 1 rfl) ?_
        refine lv_iload_n hx hb dX9_back_29 rfl (lv_at hl 2 rfl) ?_
        refine lv_iload_n hx hb dX9_back_30 rfl (lv_at hl 3 rfl) ?_
        refine lv_iload hx hb dX9_back_31 (lv_at hl 4 rfl) ?_
        refine g_calli C (va_runV (As := [.int (p1), .int (p2), .int (p3), .int (p4)]) (rest := []) C.1 (c_X0_goBack l G v w sg p1 (A1 := A1) a1 p2 (A2 := A2) a2 p3 (A3 := A3) a3 p4 (A4 := A4) a4 (by omega) (by unfold rF25; omega) h2 ci) (cwV 4 hts gX9_back_X0_goBack rfl rfl rfl (by decide +kernel) ⟨by rw [hR]; exact Nat.le_of_ble_eq_true rfl, by rw [hR]; exact Nat.le_of_ble_eq_true rfl⟩) ⟨gPre_blind, g_recv C h 1 (by decide) (ci := 0) rfl rfl, gS_pre C h _⟩ rfl rfl hl.1 rfl (lv_room (Nat.le_of_ble_eq_true rfl)) dX9_back_33 ⟨Nat.zero_le _, Nat.zero_le _⟩) h (fun r_13 v_15 w_16 g_17 H locs p_14 h => ?_)
        obtain ⟨p_14, rfl⟩ := p_14
        have u_18 : cI v_15 := p_14.1
        have u_19 : fC 1 18 v w v_15 w_16 := fC_tr fC_rf (fC_le p_14.2.1 (by decide))
        have u_20 : fBk v v_15 := fBk_tr fBk_rf p_14.2.2.1
        have o_21 := u_18
        obtain ⟨K1, K2, K3, K4, K5, K6, K7, Ks, K9, Ka, Kr, Kz⟩ := o_21
        exact ret r_13 v_15 w_16 sg _ _ _ _ dX9_back_36 h ⟨⟨u_18, u_19, u_20, Or.inr ⟨by unfold rF25; omega, p_14.2.2.2⟩⟩, rfl⟩
      · have j_12 : ¬ (A4 ≤ 50) := fun q => c_11 ((i_le a4 (by decide)).mpr q)
        refine lv_iconst (v := (-1)) hx hb dX9_back_22 (by decide) ?_
        exact ret (-1) v w sg _ _ _ _ dX9_back_23 h ⟨⟨ci, fC_rf, fBk_rf, Or.inl ⟨by unfold rF25; omega, rfl, rfl⟩⟩, rfl⟩
  · skip
    refine lv_if_eq (tgt := 22) hx hb dX9_back_6 (by decide) (fun _ => ?_) (fun c_22 => absurd (by decide) c_22)
    refine lv_iconst (v := (-1)) hx hb dX9_back_22 (by decide) ?_
    exact ret (-1) v w sg _ _ _ _ dX9_back_23 h ⟨⟨ci, fC_rf, fBk_rf, Or.inl ⟨by unfold rF25; omega, rfl, rfl⟩⟩, rfl⟩
