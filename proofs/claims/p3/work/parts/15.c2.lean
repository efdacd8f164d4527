set_option maxHeartbeats 4000000 in
set_option maxRecDepth 100000 in
theorem c_X4_term_12 (l : Launch) (G : gG) (v : Nat → Nat → Int32) (w : Nat → Nat → Int64) (sg : Nat → Nat) (p1 : Int32) {A1 : Int} (a1 : p1.toInt = A1) (p2 : Int32) {A2 : Int} (a2 : p2.toInt = A2) (p3 : Int32) {A3 : Int} (a3 : p3.toInt = A3) (b1 : 0 ≤ A1 ∧ A1 ≤ 2) (b2 : 0 ≤ A2 ∧ A2 ≤ 2) (ci : cI v) : Met l yX4_term wsX4_term ({ frames := 0, cells := 0, slots := 0, locals := 0 }) (gPre G v w sg [.ref (G.2.2 (12)), .int (p1), .int (p2), .int (p3)]) (gQl G (fun r v' w' sg' => (A2 ≠ A3 → r = w (14 + A1.toNat) A2.toNat) ∧ v = v' ∧ w = w' ∧ sg = sg')) 0 0 (gA G) := by
  refine gM_ofl (cc := cX4_term) (maxL := 4) (by decide) rfl (Nat.le_of_ble_eq_true rfl) ?_
  intro p e R s m args below meth c Q ls C hR ret h hl
  have hx := C.1.1
  have hb := C.1.2.1
  have hown := C.1.2.2.2.1
  have hts := C.1.2.2.2.2
  have hl : lv_has ls 4 [(0, .ref (G.2.2 (12))), (1, .int (p1)), (2, .int (p2)), (3, .int (p3))] := hl
  have q1 := i_rng p1; rw [a1] at q1
  have q2 := i_rng p2; rw [a2] at q2
  have q3 := i_rng p3; rw [a3] at q3
  have z_0 : (0 : Int32).toInt = 0 := by decide
  have z_1 : (1 : Int32).toInt = 1 := by decide
  have f11 : Cond.fieldLink RX4 11 "WindHall$Equations" "left" "[[J" ∈ wsX4_term := by decide +kernel
  have hi4 : ∀ x ∈ u_ws RX4 TX4 2, x ∈ wsX4_term := fun x q => List.mem_cons_of_mem _ (List.mem_append_right _ q)
  have f16 : Cond.fieldLink RX4 16 "WindHall$Equations" "right" "[J" ∈ wsX4_term := by decide +kernel
  have o_1 := ci
  obtain ⟨K1, K2, K3, K4, K5, K6, K7, Ks, K9, Ka, Kr, Kz⟩ := o_1
  refine lv_iload_n hx hb dX4_term_0 rfl (lv_at hl 2 rfl) ?_
  refine lv_iload_n hx hb dX4_term_1 rfl (lv_at hl 3 rfl) ?_
  refine lv_icmp_ne (tgt := 14) hx hb dX4_term_2 (by decide) (fun c_2 => ?_) (fun c_2 => ?_)
  · have j_3 : ¬ (A2 = A3) := fun q => c_2 ((i_eq a2 a3).mpr q)
    refine lv_aload_n hx hb dX4_term_14 rfl (lv_at hl 0 rfl) ?_
    refine g_get (ci := 4) (x := .ref (G.2.2 (13))) C h 12 (by decide) rfl rfl hi4 0 (by decide) f11 rfl rfl dX4_term_15 ?_
    refine lv_iload_n hx hb dX4_term_18 rfl (lv_at hl 1 rfl) ?_
    refine g_aald (ty := .array .long) C h 13 (by decide) 1 (by decide) (n := 3) (by decide) rfl rfl (vp_of a1 (by omega) (by omega)) dX4_term_19 ?_
    obtain ⟨q_4, q_4_e, q_4_i, q_4_l⟩ := g_row sg (b := 13) (n := 3) (i := p1) (by decide) (by decide) a1 (by omega) (by omega)
    rw [q_4_e]
    refine lv_iload_n hx hb dX4_term_20 rfl (lv_at hl 2 rfl) ?_
    refine g_lald C h q_4 (by omega) (g_kd 14 3 2 rfl q_4_l) (n := 3) (g_ln 14 3 3 rfl q_4_l) (vp_of a2 (by omega) (by omega)) dX4_term_21 ?_
    refine lv_topl (fun x_5 e_6 => ?_)
    exact ret x_5 v w sg _ _ _ _ dX4_term_22 h ⟨(fun _ => by rw [e_6, cl_nat a2, show q_4 = 14 + A1.toNat by omega]), rfl, rfl, rfl⟩
  · have j_3 : A2 = A3 := (i_eq a2 a3).mp c_2
    refine lv_aload_n hx hb dX4_term_5 rfl (lv_at hl 0 rfl) ?_
    refine g_get (ci := 4) (x := .ref (G.2.2 (17))) C h 12 (by decide) rfl rfl hi4 1 (by decide) f16 rfl rfl dX4_term_6 ?_
    refine lv_iload_n hx hb dX4_term_9 rfl (lv_at hl 1 rfl) ?_
    refine g_lald C h 17 (by decide) (by decide) (n := 3) (by decide) (vp_of a1 (by omega) (by omega)) dX4_term_10 ?_
    refine lv_topl (fun x_7 e_8 => ?_)
    refine lv_goto (tgt := 22) hx hb dX4_term_11 (by decide) ?_
    exact ret x_7 v w sg _ _ _ _ dX4_term_22 h ⟨(fun q => absurd (by omega) q), rfl, rfl, rfl⟩

set_option maxHeartbeats 4000000 in
set_option maxRecDepth 100000 in
theorem c_X4_determinant_12 (l : Launch) (G : gG) (v : Nat → Nat → Int32) (w : Nat → Nat → Int64) (sg : Nat → Nat) (p1 : Int32) {A1 : Int} (a1 : p1.toInt = A1) (ci : cI v) : Met l yX4_determinant wsX4_determinant ({ frames := 1, cells := 0, slots := 0, locals := 23 }) (gPre G v w sg [.ref (G.2.2 (12)), .int (p1)]) (gQl G (fun r v' w' sg' => (A1 < 0 → bL w → -6000000 ≤ r.toInt ∧ r.toInt ≤ 6000000) ∧ v = v' ∧ w = w' ∧ sg = sg')) 0 0 (gA G) := by
  refine gM_ofl (cc := cX4_determinant) (maxL := 9) (by decide) rfl (Nat.le_of_ble_eq_true rfl) ?_
  intro p e R s m args below meth c Q ls C hR ret h hl
  have hx := C.1.1
  have hb := C.1.2.1
  have hown := C.1.2.2.2.1
  have hts := C.1.2.2.2.2
  have hl : lv_has ls 9 [(0, .ref (G.2.2 (12))), (1, .int (p1))] := hl
  have q1 := i_rng p1; rw [a1] at q1
  have z_0 : (0 : Int32).toInt = 0 := by decide
  have z_1 : (1 : Int32).toInt = 1 := by decide
  have z_2 : (2 : Int32).toInt = 2 := by decide
  have z_3 : (3 : Int32).toInt = 3 := by decide
  have o_1 := ci
  obtain ⟨K1, K2, K3, K4, K5, K6, K7, Ks, K9, Ka, Kr, Kz⟩ := o_1
  refine lv_lconst (v := 0) hx hb dX4_determinant_0 (by decide) ?_
  refine lv_lstore_n (lv' := [(2, .long (0)), (0, .ref (G.2.2 (12))), (1, .int (p1))]) hx hb dX4_determinant_1 rfl hl (by decide) rfl (fun ls hl => ?_)
  refine lv_iconst (v := 0) hx hb dX4_determinant_2 (by decide) ?_
  have J5_3 : ∀ (n : Nat) (y_2 : Int64) (y_3 : Int32) (H : Heap) (locs : List Loc) (ls : Array Slot), (3 - (y_3).toInt).toNat < n → (0 ≤ (y_3).toInt ∧ (y_3).toInt ≤ 3) → (dB (A1 < 0 ∧ bL w) (y_2).toInt (2000000 * (y_3).toInt)) → gS (gA G) G s v w sg H locs → lv_has ls 9 [(0, .ref (G.2.2 (12))), (1, .int (p1)), (2, .long (y_2)), (4, .int (y_3))] → W p l e R s m args below meth c H locs 0 0 Q (F0 m 5 ls []) := by
    intro n
    induction n with
    | zero => intro y_2 y_3 H locs ls hm; exact absurd hm (Nat.not_lt_zero _)
    | succ n ih5 =>
      intro y_2 y_3 H locs ls hm f_4 f_5 h hl
      refine lv_iload hx hb dX4_determinant_5 (lv_at hl 3 rfl) ?_
      refine lv_iconst (v := 3) hx hb dX4_determinant_7 (by decide) ?_
      refine lv_icmp_ge (tgt := 84) hx hb dX4_determinant_8 (by decide) (fun c_6 => ?_) (fun c_6 => ?_)
      · have j_7 : 3 ≤ (y_3).toInt := (i_le (by decide) rfl).mp c_6
        refine lv_lload_n hx hb dX4_determinant_84 rfl (lv_at hl 2 rfl) ?_
        exact ret y_2 v w sg _ _ _ _ dX4_determinant_85 h ⟨(fun q1 q2 => by have := f_5 ⟨q1, q2⟩; omega), rfl, rfl, rfl⟩
      · have j_7 : ¬ (3 ≤ (y_3).toInt) := fun q => c_6 ((i_le (by decide) rfl).mpr q)
        refine lv_iload hx hb dX4_determinant_11 (lv_at hl 3 rfl) ?_
        refine lv_iconst (v := 1) hx hb dX4_determinant_13 (by decide) ?_
        refine lv_iadd hx hb dX4_determinant_14 ?_
        refine lv_topi (fun x_8 e_9 => ?_)
        have i_10 : x_8.toInt = (y_3).toInt + 1 := ia_add e_9 rfl (by decide) (by omega) (by omega)
        refine lv_iconst (v := 3) hx hb dX4_determinant_15 (by decide) ?_
        refine lv_irem hx hb dX4_determinant_16 (by decide) ?_
        refine lv_topi (fun x_11 e_12 => ?_)
        have i_13 : x_11.toInt = ((y_3).toInt + 1) % 3 := ia_rem e_12 i_10 (by decide) (by omega) (by omega)
        refine lv_istore (lv' := [(5, .int (x_11)), (0, .ref (G.2.2 (12))), (1, .int (p1)), (2, .long (y_2)), (4, .int (y_3))]) hx hb dX4_determinant_17 hl (by decide) rfl (fun ls hl => ?_)
        refine lv_iload hx hb dX4_determinant_19 (lv_at hl 4 rfl) ?_
        refine lv_iconst (v := 2) hx hb dX4_determinant_21 (by decide) ?_
        refine lv_iadd hx hb dX4_determinant_22 ?_
        refine lv_topi (fun x_14 e_15 => ?_)
        have i_16 : x_14.toInt = (y_3).toInt + 2 := ia_add e_15 rfl (by decide) (by omega) (by omega)
        refine lv_iconst (v := 3) hx hb dX4_determinant_23 (by decide) ?_
        refine lv_irem hx hb dX4_determinant_24 (by decide) ?_
        refine lv_topi (fun x_17 e_18 => ?_)
        have i_19 : x_17.toInt = ((y_3).toInt + 2) % 3 := ia_rem e_18 i_16 (by decide) (by omega) (by omega)
        refine lv_istore (lv' := [(6, .int (x_17)), (5, .int (x_11)), (0, .ref (G.2.2 (12))), (1, .int (p1)), (2, .long (y_2)), (4, .int (y_3))]) hx hb dX4_determinant_25 hl (by decide) rfl (fun ls hl => ?_)
        refine lv_aload_n hx hb dX4_determinant_27 rfl (lv_at hl 2 rfl) ?_
        refine lv_iconst (v := 1) hx hb dX4_determinant_28 (by decide) ?_
        refine lv_iload hx hb dX4_determinant_29 (lv_at hl 1 rfl) ?_
        refine lv_iload_n hx hb dX4_determinant_31 rfl (lv_at hl 3 rfl) ?_
        refine g_calll C (va_runV (As := [.int (1), .int (x_11), .int (p1)]) (rest := []) C.1 (c_X4_term_12 l G v w sg (1) (A1 := 1) (by decide) x_11 (A2 := (((y_3).toInt + 1) % 3)) i_13 p1 (A3 := A1) a1 (by omega) (by omega) ci) (cwV 3 hts gX4_determinant_X4_term rfl rfl rfl (by decide +kernel) ⟨by rw [hR]; exact Nat.le_of_ble_eq_true rfl, by rw [hR]; exact Nat.le_of_ble_eq_true rfl⟩) ⟨gPre_blind, g_recv C h 12 (by decide) (ci := 4) rfl rfl, gS_pre C h _⟩ rfl rfl hl.1 rfl (lv_room (Nat.le_of_ble_eq_true rfl)) dX4_determinant_32 ⟨Nat.zero_le _, Nat.zero_le _⟩) h (fun r_20 v_22 w_23 g_24 H locs p_21 h => ?_)
        obtain ⟨p_21, rfl, rfl, rfl⟩ := p_21
        have t32 : dB (A1 < 0 ∧ bL w) (r_20).toInt 100 := fun ⟨q1, q2⟩ => by rw [p_21 (by omega)]; exact q2 _ _ (by omega) (by omega)
        refine lv_aload_n hx hb dX4_determinant_35 rfl (lv_at hl 2 rfl) ?_
        refine lv_iconst (v := 2) hx hb dX4_determinant_36 (by decide) ?_
        refine lv_iload hx hb dX4_determinant_37 (lv_at hl 0 rfl) ?_
        refine lv_iload_n hx hb dX4_determinant_39 rfl (lv_at hl 3 rfl) ?_
        refine g_calll C (va_runV (As := [.int (2), .int (x_17), .int (p1)]) (rest := [.long (r_20)]) C.1 (c_X4_term_12 l G v w sg (2) (A1 := 2) (by decide) x_17 (A2 := (((y_3).toInt + 2) % 3)) i_19 p1 (A3 := A1) a1 (by omega) (by omega) ci) (cwV 3 hts gX4_determinant_X4_term rfl rfl rfl (by decide +kernel) ⟨by rw [hR]; exact Nat.le_of_ble_eq_true rfl, by rw [hR]; exact Nat.le_of_ble_eq_true rfl⟩) ⟨gPre_blind, g_recv C h 12 (by decide) (ci := 4) rfl rfl, gS_pre C h _⟩ rfl rfl hl.1 rfl (lv_room (Nat.le_of_ble_eq_true rfl)) dX4_determinant_40 ⟨Nat.zero_le _, Nat.zero_le _⟩) h (fun r_25 v_27 w_28 g_29 H locs p_26 h => ?_)
        obtain ⟨p_26, rfl, rfl, rfl⟩ := p_26
        have t40 : dB (A1 < 0 ∧ bL w) (r_25).toInt 100 := fun ⟨q1, q2⟩ => by rw [p_26 (by omega)]; exact q2 _ _ (by omega) (by omega)
        refine lv_lmul hx hb dX4_determinant_43 ?_
        refine lv_topl (fun x_30 e_31 => ?_)
        refine lv_aload_n hx hb dX4_determinant_44 rfl (lv_at hl 2 rfl) ?_
        refine lv_iconst (v := 1) hx hb dX4_determinant_45 (by decide) ?_
        refine lv_iload hx hb dX4_determinant_46 (lv_at hl 0 rfl) ?_
        refine lv_iload_n hx hb dX4_determinant_48 rfl (lv_at hl 3 rfl) ?_
        refine g_calll C (va_runV (As := [.int (1), .int (x_17), .int (p1)]) (rest := [.long (x_30)]) C.1 (c_X4_term_12 l G v w sg (1) (A1 := 1) (by decide) x_17 (A2 := (((y_3).toInt + 2) % 3)) i_19 p1 (A3 := A1) a1 (by omega) (by omega) ci) (cwV 3 hts gX4_determinant_X4_term rfl rfl rfl (by decide +kernel) ⟨by rw [hR]; exact Nat.le_of_ble_eq_true rfl, by rw [hR]; exact Nat.le_of_ble_eq_true rfl⟩) ⟨gPre_blind, g_recv C h 12 (by decide) (ci := 4) rfl rfl, gS_pre C h _⟩ rfl rfl hl.1 rfl (lv_room (Nat.le_of_ble_eq_true rfl)) dX4_determinant_49 ⟨Nat.zero_le _, Nat.zero_le _⟩) h (fun r_32 v_34 w_35 g_36 H locs p_33 h => ?_)
        obtain ⟨p_33, rfl, rfl, rfl⟩ := p_33
        have t49 : dB (A1 < 0 ∧ bL w) (r_32).toInt 100 := fun ⟨q1, q2⟩ => by rw [p_33 (by omega)]; exact q2 _ _ (by omega) (by omega)
        refine lv_aload_n hx hb dX4_determinant_52 rfl (lv_at hl 2 rfl) ?_
        refine lv_iconst (v := 2) hx hb dX4_determinant_53 (by decide) ?_
        refine lv_iload hx hb dX4_determinant_54 (lv_at hl 1 rfl) ?_
        refine lv_iload_n hx hb dX4_determinant_56 rfl (lv_at hl 3 rfl) ?_
        refine g_calll C (va_runV (As := [.int (2), .int (x_11), .int (p1)]) (rest := [.long (r_32), .long (x_30)]) C.1 (c_X4_term_12 l G v w sg (2) (A1 := 2) (by decide) x_11 (A2 := (((y_3).toInt + 1) % 3)) i_13 p1 (A3 := A1) a1 (by omega) (by omega) ci) (cwV 3 hts gX4_determinant_X4_term rfl rfl rfl (by decide +kernel) ⟨by rw [hR]; exact Nat.le_of_ble_eq_true rfl, by rw [hR]; exact Nat.le_of_ble_eq_true rfl⟩) ⟨gPre_blind, g_recv C h 12 (by decide) (ci := 4) rfl rfl, gS_pre C h _⟩ rfl rfl hl.1 rfl (lv_room (Nat.le_of_ble_eq_true rfl)) dX4_determinant_57 ⟨Nat.zero_le _, Nat.zero_le _⟩) h (fun r_37 v_39 w_40 g_41 H locs p_38 h => ?_)
        obtain ⟨p_38, rfl, rfl, rfl⟩ := p_38
        have t57 : dB (A1 < 0 ∧ bL w) (r_37).toInt 100 := fun ⟨q1, q2⟩ => by rw [p_38 (by omega)]; exact q2 _ _ (by omega) (by omega)
        refine lv_lmul hx hb dX4_determinant_60 ?_
        refine lv_topl (fun x_42 e_43 => ?_)
        refine lv_lsub hx hb dX4_determinant_61 ?_
        refine lv_topl (fun x_44 e_45 => ?_)
        refine lv_lstore (lv' := [(7, .long (x_44)), (6, .int (x_17)), (5, .int (x_11)), (0, .ref (G.2.2 (12))), (1, .int (p1)), (2, .long (y_2)), (4, .int (y_3))]) hx hb dX4_determinant_62 hl (by decide) rfl (fun ls hl => ?_)
        refine lv_lload_n hx hb dX4_determinant_64 rfl (lv_at hl 5 rfl) ?_
        refine lv_aload_n hx hb dX4_determinant_65 rfl (lv_at hl 3 rfl) ?_
        refine lv_iconst (v := 0) hx hb dX4_determinant_66 (by decide) ?_
        refine lv_iload hx hb dX4_determinant_67 (lv_at hl 6 rfl) ?_
        refine lv_iload_n hx hb dX4_determinant_69 rfl (lv_at hl 4 rfl) ?_
        refine g_calll C (va_runV (As := [.int (0), .int (y_3), .int (p1)]) (rest := [.long (y_2)]) C.1 (c_X4_term_12 l G v w sg (0) (A1 := 0) (by decide) y_3 (A2 := (y_3).toInt) rfl p1 (A3 := A1) a1 (by omega) (by omega) ci) (cwV 3 hts gX4_determinant_X4_term rfl rfl rfl (by decide +kernel) ⟨by rw [hR]; exact Nat.le_of_ble_eq_true rfl, by rw [hR]; exact Nat.le_of_ble_eq_true rfl⟩) ⟨gPre_blind, g_recv C h 12 (by decide) (ci := 4) rfl rfl, gS_pre C h _⟩ rfl rfl hl.1 rfl (lv_room (Nat.le_of_ble_eq_true rfl)) dX4_determinant_70 ⟨Nat.zero_le _, Nat.zero_le _⟩) h (fun r_46 v_48 w_49 g_50 H locs p_47 h => ?_)
        obtain ⟨p_47, rfl, rfl, rfl⟩ := p_47
        have t70 : dB (A1 < 0 ∧ bL w) (r_46).toInt 100 := fun ⟨q1, q2⟩ => by rw [p_47 (by omega)]; exact q2 _ _ (by omega) (by omega)
        refine lv_lload hx hb dX4_determinant_73 (lv_at hl 0 rfl) ?_
        refine lv_lmul hx hb dX4_determinant_75 ?_
        refine lv_topl (fun x_51 e_52 => ?_)
        refine lv_ladd hx hb dX4_determinant_76 ?_
        refine lv_topl (fun x_53 e_54 => ?_)
        have hds := detStep e_31 e_43 e_45 e_52 e_54 t32 t40 t49 t57 t70 f_5 (by omega)
        refine lv_lstore_n (lv' := [(2, .long (x_53)), (7, .long (x_44)), (6, .int (x_17)), (5, .int (x_11)), (0, .ref (G.2.2 (12))), (1, .int (p1)), (4, .int (y_3))]) hx hb dX4_determinant_77 rfl hl (by decide) rfl (fun ls hl => ?_)
        obtain ⟨x_55, e_56⟩ : ∃ y : Int32, y = y_3 + 1 := ⟨_, rfl⟩
        have i_57 : x_55.toInt = (y_3).toInt + 1 := ia_add e_56 rfl (by decide) (by omega) (by omega)
        refine lv_iinc (v := x_55) (lv' := [(4, .int (x_55)), (2, .long (x_53)), (7, .long (x_44)), (6, .int (x_17)), (5, .int (x_11)), (0, .ref (G.2.2 (12))), (1, .int (p1))]) hx hb dX4_determinant_78 hl (k := 6) rfl (by rw [e_56]; rfl) (by decide) rfl (fun ls hl => ?_)
        refine lv_goto (tgt := 5) hx hb dX4_determinant_81 (by decide) ?_
        exact ih5 x_53 x_55 _ _ _ (by omega) (by omega) (hds.le (by omega)) h (lv_sub hl [5, 6, 1, 0] rfl)
  refine lv_istore (lv' := [(4, .int (0)), (2, .long (0)), (0, .ref (G.2.2 (12))), (1, .int (p1))]) hx hb dX4_determinant_3 hl (by decide) rfl (fun ls hl => ?_)
  exact J5_3 _ 0 0 _ _ _ (Nat.lt_succ_self _) (by omega) (fun _ => by decide) h (lv_sub hl [2, 3, 1, 0] rfl)

set_option maxHeartbeats 4000000 in
set_option maxRecDepth 100000 in
theorem c_X4_term_45 (l : Launch) (G : gG) (v : Nat → Nat → Int32) (w : Nat → Nat → Int64) (sg : Nat → Nat) (p1 : Int32) {A1 : Int} (a1 : p1.toInt = A1) (p2 : Int32) {A2 : Int} (a2 : p2.toInt = A2) (p3 : Int32) {A3 : Int} (a3 : p3.toInt = A3) (b1 : 0 ≤ A1 ∧ A1 ≤ 2) (b2 : 0 ≤ A2 ∧ A2 ≤ 2) (ci : cI v) : Met l yX4_term wsX4_term ({ frames := 0, cells := 0, slots := 0, locals := 0 }) (gPre G v w sg [.ref (G.2.2 (45)), .int (p1), .int (p2), .int (p3)]) (gQl G (fun r v' w' sg' => (A2 ≠ A3 → r = w (47 + A1.toNat) A2.toNat) ∧ v = v' ∧ w = w' ∧ sg = sg')) 0 0 (gA G) := by
  refine gM_ofl (cc := cX4_term) (maxL := 4) (by decide) rfl (Nat.le_of_ble_eq_true rfl) ?_
  intro p e R s m args below meth c Q ls C hR ret h hl
  have hx := C.1.1
  have hb := C.1.2.1
  have hown := C.1.2.2.2.1
  have hts := C.1.2.2.2.2
  have hl : lv_has ls 4 [(0, .ref (G.2.2 (45))), (1, .int (p1)), (2, .int (p2)), (3, .int (p3))] := hl
  have q1 := i_rng p1; rw [a1] at q1
  have q2 := i_rng p2; rw [a2] at q2
  have q3 := i_rng p3; rw [a3] at q3
  have z_0 : (0 : Int32).toInt = 0 := by decide
  have z_1 : (1 : Int32).toInt = 1 := by decide
  have f11 : Cond.fieldLink RX4 11 "WindHall$Equations" "left" "[[J" ∈ wsX4_term := by decide +kernel
  have hi4 : ∀ x ∈ u_ws RX4 TX4 2, x ∈ wsX4_term := fun x q => List.mem_cons_of_mem _ (List.mem_append_right _ q)
  have f16 : Cond.fieldLink RX4 16 "WindHall$Equations" "right" "[J" ∈ wsX4_term := by decide +kernel
  have o_1 := ci
  obtain ⟨K1, K2, K3, K4, K5, K6, K7, Ks, K9, Ka, Kr, Kz⟩ := o_1
  refine lv_iload_n hx hb dX4_term_0 rfl (lv_at hl 2 rfl) ?_
  refine lv_iload_n hx hb dX4_term_1 rfl (lv_at hl 3 rfl) ?_
  refine lv_icmp_ne (tgt := 14) hx hb dX4_term_2 (by decide) (fun c_2 => ?_) (fun c_2 => ?_)
  · have j_3 : ¬ (A2 = A3) := fun q => c_2 ((i_eq a2 a3).mpr q)
    refine lv_aload_n hx hb dX4_term_14 rfl (lv_at hl 0 rfl) ?_
    refine g_get (ci := 4) (x := .ref (G.2.2 (46))) C h 45 (by decide) rfl rfl hi4 0 (by decide) f11 rfl rfl dX4_term_15 ?_
    refine lv_iload_n hx hb dX4_term_18 rfl (lv_at hl 1 rfl) ?_
    refine g_aald (ty := .array .long) C h 46 (by decide) 1 (by decide) (n := 3) (by decide) rfl rfl (vp_of a1 (by omega) (by omega)) dX4_term_19 ?_
    obtain ⟨q_4, q_4_e, q_4_i, q_4_l⟩ := g_row sg (b := 46) (n := 3) (i := p1) (by decide) (by decide) a1 (by omega) (by omega)
    rw [q_4_e]
    refine lv_iload_n hx hb dX4_term_20 rfl (lv_at hl 2 rfl) ?_
    refine g_lald C h q_4 (by omega) (g_kd 47 3 2 rfl q_4_l) (n := 3) (g_ln 47 3 3 rfl q_4_l) (vp_of a2 (by omega) (by omega)) dX4_term_21 ?_
    refine lv_topl (fun x_5 e_6 => ?_)
    exact ret x_5 v w sg _ _ _ _ dX4_term_22 h ⟨(fun _ => by rw [e_6, cl_nat a2, show q_4 = 47 + A1.toNat by omega]), rfl, rfl, rfl⟩
  · have j_3 : A2 = A3 := (i_eq a2 a3).mp c_2
    refine lv_aload_n hx hb dX4_term_5 rfl (lv_at hl 0 rfl) ?_
    refine g_get (ci := 4) (x := .ref (G.2.2 (50))) C h 45 (by decide) rfl rfl hi4 1 (by decide) f16 rfl rfl dX4_term_6 ?_
    refine lv_iload_n hx hb dX4_term_9 rfl (lv_at hl 1 rfl) ?_
    refine g_lald C h 50 (by decide) (by decide) (n := 3) (by decide) (vp_of a1 (by omega) (by omega)) dX4_term_10 ?_
    refine lv_topl (fun x_7 e_8 => ?_)
    refine lv_goto (tgt := 22) hx hb dX4_term_11 (by decide) ?_
    exact ret x_7 v w sg _ _ _ _ dX4_term_22 h ⟨(fun q => absurd (by omega) q), rfl, rfl, rfl⟩

set_option maxHeartbeats 4000000 in
set_option maxRecDepth 100000 in
theorem c_X4_determinant_45 (l : Launch) (G : gG) (v : Nat → Nat → Int32) (w : Nat → Nat → Int64) (sg : Nat → Nat) (p1 : Int32) {A1 : Int} (a1 : p1.toInt = A1) (ci : cI v) : Met l yX4_determinant wsX4_determinant ({ frames := 1, cells := 0, slots := 0, locals := 23 }) (gPre G v w sg [.ref (G.2.2 (45)), .int (p1)]) (gQl G (fun r v' w' sg' => (True) ∧ v = v' ∧ w = w' ∧ sg = sg')) 0 0 (gA G) := by
  refine gM_ofl (cc := cX4_determinant) (maxL := 9) (by decide) rfl (Nat.le_of_ble_eq_true rfl) ?_
  intro p e R s m args below meth c Q ls C hR ret h hl
  have hx := C.1.1
  have hb := C.1.2.1
  have hown := C.1.2.2.2.1
  have hts := C.1.2.2.2.2
  have hl : lv_has ls 9 [(0, .ref (G.2.2 (45))), (1, .int (p1))] := hl
  have q1 := i_rng p1; rw [a1] at q1
  have z_0 : (0 : Int32).toInt = 0 := by decide
  have z_1 : (1 : Int32).toInt = 1 := by decide
  have z_2 : (2 : Int32).toInt = 2 := by decide
  have z_3 : (3 : Int32).toInt = 3 := by decide
  have o_1 := ci
  obtain ⟨K1, K2, K3, K4, K5, K6, K7, Ks, K9, Ka, Kr, Kz⟩ := o_1
  refine lv_lconst (v := 0) hx hb dX4_determinant_0 (by decide) ?_
  refine lv_lstore_n (lv' := [(2, .long (0)), (0, .ref (G.2.2 (45))), (1, .int (p1))]) hx hb dX4_determinant_1 rfl hl (by decide) rfl (fun ls hl => ?_)
  refine lv_iconst (v := 0) hx hb dX4_determinant_2 (by decide) ?_
  have J5_3 : ∀ (n : Nat) (y_2 : Int64) (y_3 : Int32) (H : Heap) (locs : List Loc) (ls : Array Slot), (3 - (y_3).toInt).toNat < n → (0 ≤ (y_3).toInt ∧ (y_3).toInt ≤ 3) → gS (gA G) G s v w sg H locs → lv_has ls 9 [(0, .ref (G.2.2 (45))), (1, .int (p1)), (2, .long (y_2)), (4, .int (y_3))] → W p l e R s m args below meth c H locs 0 0 Q (F0 m 5 ls []) := by
    intro n
    induction n with
    | zero => intro y_2 y_3 H locs ls hm; exact absurd hm (Nat.not_lt_zero _)
    | succ n ih5 =>
      intro y_2 y_3 H locs ls hm f_4 h hl
      refine lv_iload hx hb dX4_determinant_5 (lv_at hl 3 rfl) ?_
      refine lv_iconst (v := 3) hx hb dX4_determinant_7 (by decide) ?_
      refine lv_icmp_ge (tgt := 84) hx hb dX4_determinant_8 (by decide) (fun c_5 => ?_) (fun c_5 => ?_)
      · have j_6 : 3 ≤ (y_3).toInt := (i_le (by decide) rfl).mp c_5
        refine lv_lload_n hx hb dX4_determinant_84 rfl (lv_at hl 2 rfl) ?_
        exact ret y_2 v w sg _ _ _ _ dX4_determinant_85 h ⟨trivial, rfl, rfl, rfl⟩
      · have j_6 : ¬ (3 ≤ (y_3).toInt) := fun q => c_5 ((i_le (by decide) rfl).mpr q)
        refine lv_iload hx hb dX4_determinant_11 (lv_at hl 3 rfl) ?_
        refine lv_iconst (v := 1) hx hb dX4_determinant_13 (by decide) ?_
        refine lv_iadd hx hb dX4_determinant_14 ?_
        refine lv_topi (fun x_7 e_8 => ?_)
        have i_9 : x_7.toInt = (y_3).toInt + 1 := ia_add e_8 rfl (by decide) (by omega) (by omega)
        refine lv_iconst (v := 3) hx hb dX4_determinant_15 (by decide) ?_
        refine lv_irem hx hb dX4_determinant_16 (by decide) ?_
        refine lv_topi (fun x_10 e_11 => ?_)
        have i_12 : x_10.toInt = ((y_3).toInt + 1) % 3 := ia_rem e_11 i_9 (by decide) (by omega) (by omega)
        refine lv_istore (lv' := [(5, .int (x_10)), (0, .ref (G.2.2 (45))), (1, .int (p1)), (2, .long (y_2)), (4, .int (y_3))]) hx hb dX4_determinant_17 hl (by decide) rfl (fun ls hl => ?_)
        refine lv_iload hx hb dX4_determinant_19 (lv_at hl 4 rfl) ?_
        refine lv_iconst (v := 2) hx hb dX4_determinant_21 (by decide) ?_
        refine lv_iadd hx hb dX4_determinant_22 ?_
        refine lv_topi (fun x_13 e_14 => ?_)
        have i_15 : x_13.toInt = (y_3).toInt + 2 := ia_add e_14 rfl (by decide) (by omega) (by omega)
        refine lv_iconst (v := 3) hx hb dX4_determinant_23 (by decide) ?_
        refine lv_irem hx hb dX4_determinant_24 (by decide) ?_
        refine lv_topi (fun x_16 e_17 => ?_)
        have i_18 : x_16.toInt = ((y_3).toInt + 2) % 3 := ia_rem e_17 i_15 (by decide) (by omega) (by omega)
        refine lv_istore (lv' := [(6, .int (x_16)), (5, .int (x_10)), (0, .ref (G.2.2 (45))), (1, .int (p1)), (2, .long (y_2)), (4, .int (y_3))]) hx hb dX4_determinant_25 hl (by decide) rfl (fun ls hl => ?_)
        refine lv_aload_n hx hb dX4_determinant_27 rfl (lv_at hl 2 rfl) ?_
        refine lv_iconst (v := 1) hx hb dX4_determinant_28 (by decide) ?_
        refine lv_iload hx hb dX4_determinant_29 (lv_at hl 1 rfl) ?_
        refine lv_iload_n hx hb dX4_determinant_31 rfl (lv_at hl 3 rfl) ?_
        refine g_calll C (va_runV (As := [.int (1), .int (x_10), .int (p1)]) (rest := []) C.1 (c_X4_term_45 l G v w sg (1) (A1 := 1) (by decide) x_10 (A2 := (((y_3).toInt + 1) % 3)) i_12 p1 (A3 := A1) a1 (by omega) (by omega) ci) (cwV 3 hts gX4_determinant_X4_term rfl rfl rfl (by decide +kernel) ⟨by rw [hR]; exact Nat.le_of_ble_eq_true rfl, by rw [hR]; exact Nat.le_of_ble_eq_true rfl⟩) ⟨gPre_blind, g_recv C h 45 (by decide) (ci := 4) rfl rfl, gS_pre C h _⟩ rfl rfl hl.1 rfl (lv_room (Nat.le_of_ble_eq_true rfl)) dX4_determinant_32 ⟨Nat.zero_le _, Nat.zero_le _⟩) h (fun r_19 v_21 w_22 g_23 H locs p_20 h => ?_)
        obtain ⟨p_20, rfl, rfl, rfl⟩ := p_20
        refine lv_aload_n hx hb dX4_determinant_35 rfl (lv_at hl 2 rfl) ?_
        refine lv_iconst (v := 2) hx hb dX4_determinant_36 (by decide) ?_
        refine lv_iload hx hb dX4_determinant_37 (lv_at hl 0 rfl) ?_
        refine lv_iload_n hx hb dX4_determinant_39 rfl (lv_at hl 3 rfl) ?_
        refine g_calll C (va_runV (As := [.int (2), .int (x_16), .int (p1)]) (rest := [.long (r_19)]) C.1 (c_X4_term_45 l G v w sg (2) (A1 := 2) (by decide) x_16 (A2 := (((y_3).toInt + 2) % 3)) i_18 p1 (A3 := A1) a1 (by omega) (by omega) ci) (cwV 3 hts gX4_determinant_X4_term rfl rfl rfl (by decide +kernel) ⟨by rw [hR]; exact Nat.le_of_ble_eq_true rfl, by rw [hR]; exact Nat.le_of_ble_eq_true rfl⟩) ⟨gPre_blind, g_recv C h 45 (by decide) (ci := 4) rfl rfl, gS_pre C h _⟩ rfl rfl hl.1 rfl (lv_room (Nat.le_of_ble_eq_true rfl)) dX4_determinant_40 ⟨Nat.zero_le _, Nat.zero_le _⟩) h (fun r_24 v_26 w_27 g_28 H locs p_25 h => ?_)
        obtain ⟨p_25, rfl, rfl, rfl⟩ := p_25
        refine lv_lmul hx hb dX4_determinant_43 ?_
        refine lv_topl (fun x_29 e_30 => ?_)
        refine lv_aload_n hx hb dX4_determinant_44 rfl (lv_at hl 2 rfl) ?_
        refine lv_iconst (v := 1) hx hb dX4_determinant_45 (by decide) ?_
        refine lv_iload hx hb dX4_determinant_46 (lv_at hl 0 rfl) ?_
        refine lv_iload_n hx hb dX4_determinant_48 rfl (lv_at hl 3 rfl) ?_
        refine g_calll C (va_runV (As := [.int (1), .int (x_16), .int (p1)]) (rest := [.long (x_29)]) C.1 (c_X4_term_45 l G v w sg (1) (A1 := 1) (by decide) x_16 (A2 := (((y_3).toInt + 2) % 3)) i_18 p1 (A3 := A1) a1 (by omega) (by omega) ci) (cwV 3 hts gX4_determinant_X4_term rfl rfl rfl (by decide +kernel) ⟨by rw [hR]; exact Nat.le_of_ble_eq_true rfl, by rw [hR]; exact Nat.le_of_ble_eq_true rfl⟩) ⟨gPre_blind, g_recv C h 45 (by decide) (ci := 4) rfl rfl, gS_pre C h _⟩ rfl rfl hl.1 rfl (lv_room (Nat.le_of_ble_eq_true rfl)) dX4_determinant_49 ⟨Nat.zero_le _, Nat.zero_le _⟩) h (fun r_31 v_33 w_34 g_35 H locs p_32 h => ?_)
        obtain ⟨p_32, rfl, rfl, rfl⟩ := p_32
        refine lv_aload_n hx hb dX4_determinant_52 rfl (lv_at hl 2 rfl) ?_
        refine lv_iconst (v := 2) hx hb dX4_determinant_53 (by decide) ?_
        refine lv_iload hx hb dX4_determinant_54 (lv_at hl 1 rfl) ?_
        refine lv_iload_n hx hb dX4_determinant_56 rfl (lv_at hl 3 rfl) ?_
        refine g_calll C (va_runV (As := [.int (2), .int (x_10), .int (p1)]) (rest := [.long (r_31), .long (x_29)]) C.1 (c_X4_term_45 l G v w sg (2) (A1 := 2) (by decide) x_10 (A2 := (((y_3).toInt + 1) % 3)) i_12 p1 (A3 := A1) a1 (by omega) (by omega) ci) (cwV 3 hts gX4_determinant_X4_term rfl rfl rfl (by decide +kernel) ⟨by rw [hR]; exact Nat.le_of_ble_eq_true rfl, by rw [hR]; exact Nat.le_of_ble_eq_true rfl⟩) ⟨gPre_blind, g_recv C h 45 (by decide) (ci := 4) rfl rfl, gS_pre C h _⟩ rfl rfl hl.1 rfl (lv_room (Nat.le_of_ble_eq_true rfl)) dX4_determinant_57 ⟨Nat.zero_le _, Nat.zero_le _⟩) h (fun r_36 v_38 w_39 g_40 H locs p_37 h => ?_)
        obtain ⟨p_37, rfl, rfl, rfl⟩ := p_37
        refine lv_lmul hx hb dX4_determinant_60 ?_
        refine lv_topl (fun x_41 e_42 => ?_)
        refine lv_lsub hx hb dX4_determinant_61 ?_
        refine lv_topl (fun x_43 e_44 => ?_)
        refine lv_lstore (lv' := [(7, .long (x_43)), (6, .int (x_16)), (5, .int (x_10)), (0, .ref (G.2.2 (45))), (1, .int (p1)), (2, .long (y_2)), (4, .int (y_3))]) hx hb dX4_determinant_62 hl (by decide) rfl (fun ls hl => ?_)
        refine lv_lload_n hx hb dX4_determinant_64 rfl (lv_at hl 5 rfl) ?_
        refine lv_aload_n hx hb dX4_determinant_65 rfl (lv_at hl 3 rfl) ?_
        refine lv_iconst (v := 0) hx hb dX4_determinant_66 (by decide) ?_
        refine lv_iload hx hb dX4_determinant_67 (lv_at hl 6 rfl) ?_
        refine lv_iload_n hx hb dX4_determinant_69 rfl (lv_at hl 4 rfl) ?_
        refine g_calll C (va_runV (As := [.int (0), .int (y_3), .int (p1)]) (rest := [.long (y_2)]) C.1 (c_X4_term_45 l G v w sg (0) (A1 := 0) (by decide) y_3 (A2 := (y_3).toInt) rfl p1 (A3 := A1) a1 (by omega) (by omega) ci) (cwV 3 hts gX4_determinant_X4_term rfl rfl rfl (by decide +kernel) ⟨by rw [hR]; exact Nat.le_of_ble_eq_true rfl, by rw [hR]; exact Nat.le_of_ble_eq_true rfl⟩) ⟨gPre_blind, g_recv C h 45 (by decide) (ci := 4) rfl rfl, gS_pre C h _⟩ rfl rfl hl.1 rfl (lv_room (Nat.le_of_ble_eq_true rfl)) dX4_determinant_70 ⟨Nat.zero_le _, Nat.zero_le _⟩) h (fun r_45 v_47 w_48 g_49 H locs p_46 h => ?_)
        obtain ⟨p_46, rfl, rfl, rfl⟩ := p_46
        refine lv_lload hx hb dX4_determinant_73 (lv_at hl 0 rfl) ?_
        refine lv_lmul hx hb dX4_determinant_75 ?_
        refine lv_topl (fun x_50 e_51 => ?_)
        refine lv_ladd hx hb dX4_determinant_76 ?_
        refine lv_topl (fun x_52 e_53 => ?_)
        refine lv_lstore_n (lv' := [(2, .long (x_52)), (7, .long (x_43)), (6, .int (x_16)), (5, .int (x_10)), (0, .ref (G.2.2 (45))), (1, .int (p1)), (4, .int (y_3))]) hx hb dX4_determinant_77 rfl hl (by decide) rfl (fun ls hl => ?_)
        obtain ⟨x_54, e_55⟩ : ∃ y : Int32, y = y_3 + 1 := ⟨_, rfl⟩
        have i_56 : x_54.toInt = (y_3).toInt + 1 := ia_add e_55 rfl (by decide) (by omega) (by omega)
        refine lv_iinc (v := x_54) (lv' := [(4, .int (x_54)), (2, .long (x_52)), (7, .long (x_43)), (6, .int (x_16)), (5, .int (x_10)), (0, .ref (G.2.2 (45))), (1, .int (p1))]) hx hb dX4_determinant_78 hl (k := 6) rfl (by rw [e_55]; rfl) (by decide) rfl (fun ls hl => ?_)
        refine lv_goto (tgt := 5) hx hb dX4_determinant_81 (by decide) ?_
        exact ih5 x_52 x_54 _ _ _ (by omega) (by omega) h (lv_sub hl [5, 6, 1, 0] rfl)
  refine lv_istore (lv' := [(4, .int (0)), (2, .long (0)), (0, .ref (G.2.2 (45))), (1, .int (p1))]) hx hb dX4_determinant_3 hl (by decide) rfl (fun ls hl => ?_)
  exact J5_3 _ 0 0 _ _ _ (Nat.lt_succ_self _) (by omega) h (lv_sub hl [2, 3, 1, 0] rfl)

set_option maxHeartbeats 4000000 in
set_option maxRecDepth 100000 in
theorem c_X0_productsOf (l : Launch) (G : gG) (v : Nat → Nat → Int32) (w : Nat → Nat → Int64) (sg : Nat → Nat) (p1 : Int32) {A1 : Int} (a1 : p1.toInt = A1) (p2 : Int32) {A2 : Int} (a2 : p2.toInt = A2) (p3 : Int32) {A3 : Int} (a3 : p3.toInt = A3) (p4 : Int32) {A4 : Int} (a4 : p4.toInt = A4) (b1 : 0 ≤ A1 ∧ A1 ≤ 2) (ci : cI v) : Met l yX0_productsOf wsX0_productsOf ({ frames := 0, cells := 0, slots := 0, locals := 0 }) (gPre G v w sg [.ref (G.2.2 (1)), .int (p1), .int (p2), .int (p3), .int (p4)]) (gQi G (fun r v' w' sg' => (r = pr6 (v (7 + A1.toNat)) p2 p3 p4) ∧ v = v' ∧ w = w' ∧ sg = sg')) 0 0 (gA G) := by
  refine gM_ofi (cc := cX0_productsOf) (maxL := 6) (by decide) rfl (Nat.le_of_ble_eq_true rfl) ?_
  intro p e R s m args below meth c Q ls C hR ret h hl
  have hx := C.1.1
  have hb := C.1.2.1
  have hown := C.1.2.2.2.1
  have hts := C.1.2.2.2.2
  have hl : lv_has ls 6 [(0, .ref (G.2.2 (1))), (1, .int (p1)), (2, .int (p2)), (3, .int (p3)), (4, .int (p4))] := hl
  have q1 := i_rng p1; rw [a1] at q1
  have q2 := i_rng p2; rw [a2] at q2
  have q3 := i_rng p3; rw [a3] at q3
  have q4 := i_rng p4; rw [a4] at q4
  have z_0 : (0 : Int32).toInt = 0 := by decide
  have z_1 : (1 : Int32).toInt = 1 := by decide
  have z_2 : (2 : Int32).toInt = 2 := by decide
  have z_3 : (3 : Int32).toInt = 3 := by decide
  have z_4 : (4 : Int32).toInt = 4 := by decide
  have z_5 : (5 : Int32).toInt = 5 := by decide
  have f18 : Cond.fieldLink RX0 18 "WindHall$Balance" "second" "[[I" ∈ wsX0_productsOf := by decide +kernel
  have hi0 : ∀ x ∈ u_ws RX0 TX0 7, x ∈ wsX0_productsOf := fun x q => List.mem_cons_of_mem _ (List.mem_append_right _ q)
  have o_1 := ci
  obtain ⟨K1, K2, K3, K4, K5, K6, K7, Ks, K9, Ka, Kr, Kz⟩ := o_1
  refine lv_aload_n hx hb dX0_productsOf_0 rfl (lv_at hl 0 rfl) ?_
  refine g_get (ci := 0) (x := .ref (G.2.2 (6))) C h 1 (by decide) rfl rfl hi0 1 (by decide) f18 rfl rfl dX0_productsOf_1 ?_
  refine lv_iload_n hx hb dX0_productsOf_4 rfl (lv_at hl 1 rfl) ?_
  refine g_aald (ty := .array .int) C h 6 (by decide) 0 (by decide) (n := 3) (by decide) rfl rfl (vp_of a1 (by omega) (by omega)) dX0_productsOf_5 ?_
  obtain ⟨q_2, q_2_e, q_2_i, q_2_l⟩ := g_row sg (b := 6) (n := 3) (i := p1) (by decide) (by decide) a1 (by omega) (by omega)
  rw [q_2_e]
  refine lv_astore (lv' := [(5, .ref (G.2.2 (q_2))), (0, .ref (G.2.2 (1))), (1, .int (p1)), (2, .int (p2)), (3, .int (p3)), (4, .int (p4))]) hx hb dX0_productsOf_6 hl (by decide) rfl (fun ls hl => ?_)
  refine lv_aload hx hb dX0_productsOf_8 (lv_at hl 0 rfl) ?_
  refine lv_iconst (v := 0) hx hb dX0_productsOf_10 (by decide) ?_
  refine g_iald C h q_2 (by omega) (g_kd 7 3 1 rfl q_2_l) (n := 6) (g_ln 7 3 6 rfl q_2_l) (vp_of (I := 0) (by decide) (by decide) (by decide)) dX0_productsOf_11 ?_
  refine lv_topi (fun x_3 e_4 => ?_)
  refine lv_iload_n hx hb dX0_productsOf_12 rfl (lv_at hl 3 rfl) ?_
  refine lv_imul hx hb dX0_productsOf_13 ?_
  refine lv_topi (fun x_5 e_6 => ?_)
  refine lv_iload_n hx hb dX0_productsOf_14 rfl (lv_at hl 3 rfl) ?_
  refine lv_imul hx hb dX0_productsOf_15 ?_
  refine lv_topi (fun x_7 e_8 => ?_)
  refine lv_aload hx hb dX0_productsOf_16 (lv_at hl 0 rfl) ?_
  refine lv_iconst (v := 1) hx hb dX0_productsOf_18 (by decide) ?_
  refine g_iald C h q_2 (by omega) (g_kd 7 3 1 rfl q_2_l) (n := 6) (g_ln 7 3 6 rfl q_2_l) (vp_of (I := 1) (by decide) (by decide) (by decide)) dX0_productsOf_19 ?_
  refine lv_topi (fun x_9 e_10 => ?_)
  refine lv_iload_n hx hb dX0_productsOf_20 rfl (lv_at hl 3 rfl) ?_
  refine lv_imul hx hb dX0_productsOf_21 ?_
  refine lv_topi (fun x_11 e_12 => ?_)
  refine lv_iload_n hx hb dX0_productsOf_22 rfl (lv_at hl 4 rfl) ?_
  refine lv_imul hx hb dX0_productsOf_23 ?_
  refine lv_topi (fun x_13 e_14 => ?_)
  refine lv_iadd hx hb dX0_productsOf_24 ?_
  refine lv_topi (fun x_15 e_16 => ?_)
  refine lv_aload hx hb dX0_productsOf_25 (lv_at hl 0 rfl) ?_
  refine lv_iconst (v := 2) hx hb dX0_productsOf_27 (by decide) ?_
  refine g_iald C h q_2 (by omega) (g_kd 7 3 1 rfl q_2_l) (n := 6) (g_ln 7 3 6 rfl q_2_l) (vp_of (I := 2) (by decide) (by decide) (by decide)) dX0_productsOf_28 ?_
  refine lv_topi (fun x_17 e_18 => ?_)
  refine lv_iload_n hx hb dX0_productsOf_29 rfl (lv_at hl 3 rfl) ?_
  refine lv_imul hx hb dX0_productsOf_30 ?_
  refine lv_topi (fun x_19 e_20 => ?_)
  refine lv_iload hx hb dX0_productsOf_31 (lv_at hl 5 rfl) ?_
  refine lv_imul hx hb dX0_productsOf_33 ?_
  refine lv_topi (fun x_21 e_22 => ?_)
  refine lv_iadd hx hb dX0_productsOf_34 ?_
  refine lv_topi (fun x_23 e_24 => ?_)
  refine lv_aload hx hb dX0_productsOf_35 (lv_at hl 0 rfl) ?_
  refine lv_iconst (v := 3) hx hb dX0_productsOf_37 (by decide) ?_
  refine g_iald C h q_2 (by omega) (g_kd 7 3 1 rfl q_2_l) (n := 6) (g_ln 7 3 6 rfl q_2_l) (vp_of (I := 3) (by decide) (by decide) (by decide)) dX0_productsOf_38 ?_
  refine lv_topi (fun x_25 e_26 => ?_)
  refine lv_iload_n hx hb dX0_productsOf_39 rfl (lv_at hl 4 rfl) ?_
  refine lv_imul hx hb dX0_productsOf_40 ?_
  refine lv_topi (fun x_27 e_28 => ?_)
  refine lv_iload_n hx hb dX0_productsOf_41 rfl (lv_at hl 4 rfl) ?_
  refine lv_imul hx hb dX0_productsOf_42 ?_
  refine lv_topi (fun x_29 e_30 => ?_)
  refine lv_iadd hx hb dX0_productsOf_43 ?_
  refine lv_topi (fun x_31 e_32 => ?_)
  refine lv_aload hx hb dX0_productsOf_44 (lv_at hl 0 rfl) ?_
  refine lv_iconst (v := 4) hx hb dX0_productsOf_46 (by decide) ?_
  refine g_iald C h q_2 (by omega) (g_kd 7 3 1 rfl q_2_l) (n := 6) (g_ln 7 3 6 rfl q_2_l) (vp_of (I := 4) (by decide) (by decide) (by decide)) dX0_productsOf_47 ?_
  refine lv_topi (fun x_33 e_34 => ?_)
  refine lv_iload_n hx hb dX0_productsOf_48 rfl (lv_at hl 4 rfl) ?_
  refine lv_imul hx hb dX0_productsOf_49 ?_
  refine lv_topi (fun x_35 e_36 => ?_)
  refine lv_iload hx hb dX0_productsOf_50 (lv_at hl 5 rfl) ?_
  refine lv_imul hx hb dX0_productsOf_52 ?_
  refine lv_topi (fun x_37 e_38 => ?_)
  refine lv_iadd hx hb dX0_productsOf_53 ?_
  refine lv_topi (fun x_39 e_40 => ?_)
  refine lv_aload hx hb dX0_productsOf_54 (lv_at hl 0 rfl) ?_
  refine lv_iconst (v := 5) hx hb dX0_productsOf_56 (by decide) ?_
  refine g_iald C h q_2 (by omega) (g_kd 7 3 1 rfl q_2_l) (n := 6) (g_ln 7 3 6 rfl q_2_l) (vp_of (I := 5) (by decide) (by decide) (by decide)) dX0_productsOf_57 ?_
  refine lv_topi (fun x_41 e_42 => ?_)
  refine lv_iload hx hb dX0_productsOf_58 (lv_at hl 5 rfl) ?_
  refine lv_imul hx hb dX0_productsOf_60 ?_
  refine lv_topi (fun x_43 e_44 => ?_)
  refine lv_iload hx hb dX0_productsOf_61 (lv_at hl 5 rfl) ?_
  refine lv_imul hx hb dX0_productsOf_63 ?_
  refine lv_topi (fun x_45 e_46 => ?_)
  refine lv_iadd hx hb dX0_productsOf_64 ?_
  refine lv_topi (fun x_47 e_48 => ?_)
  exact ret x_47 v w sg _ _ _ _ dX0_productsOf_65 h ⟨(by rw [show 7 + A1.toNat = q_2 by omega]; subst_vars; rfl), rfl, rfl, rfl⟩

set_option maxHeartbeats 4000000 in
set_option maxRecDepth 100000 in
theorem c_X0_readingOf (l : Launch) (G : gG) (v : Nat → Nat → Int32) (w : Nat → Nat → Int64) (sg : Nat → Nat) (p1 : Int32) {A1 : Int} (a1 : p1.toInt = A1) (p2 : Int32) {A2 : Int} (a2 : p2.toInt = A2) (p3 : Int32) {A3 : Int} (a3 : p3.toInt = A3) (p4 : Int32) {A4 : Int} (a4 : p4.toInt = A4) (b1 : 0 ≤ A1 ∧ A1 ≤ 2) (ci : cI v) : Met l yX0_readingOf wsX0_readingOf ({ frames := 1, cells := 0, slots := 0, locals := 25 }) (gPre G v w sg [.ref (G.2.2 (1)), .int (p1), .int (p2), .int (p3), .int (p4)]) (gQi G (fun r v' w' sg' => (r = rd9 (v (3 + A1.toNat)) (v (7 + A1.toNat)) p2 p3 p4) ∧ v = v' ∧ w = w' ∧ sg = sg')) 0 0 (gA G) := by
  refine gM_ofi (cc := cX0_readingOf) (maxL := 6) (by decide) rfl (Nat.le_of_ble_eq_true rfl) ?_
  intro p e R s m args below meth c Q ls C hR ret h hl
  have hx := C.1.1
  have hb := C.1.2.1
  have hown := C.1.2.2.2.1
  have hts := C.1.2.2.2.2
  have hl : lv_has ls 6 [(0, .ref (G.2.2 (1))), (1, .int (p1)), (2, .int (p2)), (3, .int (p3)), (4, .int (p4))] := hl
  have q1 := i_rng p1; rw [a1] at q1
  have q2 := i_rng p2; rw [a2] at q2
  have q3 := i_rng p3; rw [a3] at q3
  have q4 := i_rng p4; rw [a4] at q4
  have z_0 : (0 : Int32).toInt = 0 := by decide
  have z_1 : (1 : Int32).toInt = 1 := by decide
  have z_2 : (2 : Int32).toInt = 2 := by decide
  have z_100 : (100 : Int32).toInt = 100 := by decide
  have f11 : Cond.fieldLink RX0 11 "WindHall$Balance" "first" "[[I" ∈ wsX0_readingOf := by decide +kernel
  have hi0 : ∀ x ∈ u_ws RX0 TX0 7, x ∈ wsX0_readingOf := fun x q => List.mem_cons_of_mem _ (List.mem_append_right _ q)
  have o_1 := ci
  obtain ⟨K1, K2, K3, K4, K5, K6, K7, Ks, K9, Ka, Kr, Kz⟩ := o_1
  refine lv_aload_n hx hb dX0_readingOf_0 rfl (lv_at hl 0 rfl) ?_
  refine g_get (ci := 0) (x := .ref (G.2.2 (2))) C h 1 (by decide) rfl rfl hi0 0 (by decide) f11 rfl rfl dX0_readingOf_1 ?_
  refine lv_iload_n hx hb dX0_readingOf_4 rfl (lv_at hl 1 rfl) ?_
  refine g_aald (ty := .array .int) C h 2 (by decide) 0 (by decide) (n := 3) (by decide) rfl rfl (vp_of a1 (by omega) (by omega)) dX0_readingOf_5 ?_
  obtain ⟨q_2, q_2_e, q_2_i, q_2_l⟩ := g_row sg (b := 2) (n := 3) (i := p1) (by decide) (by decide) a1 (by omega) (by omega)
  rw [q_2_e]
  refine lv_astore (lv' := [(5, .ref (G.2.2 (q_2))), (0, .ref (G.2.2 (1))), (1, .int (p1)), (2, .int (p2)), (3, .int (p3)), (4, .int (p4))]) hx hb dX0_readingOf_6 hl (by decide) rfl (fun ls hl => ?_)
  refine lv_bipush (v := 100) hx hb dX0_readingOf_8 (by decide) ?_
  refine lv_aload hx hb dX0_readingOf_10 (lv_at hl 0 rfl) ?_
  refine lv_iconst (v := 0) hx hb dX0_readingOf_12 (by decide) ?_
  refine g_iald C h q_2 (by omega) (g_kd 3 3 1 rfl q_2_l) (n := 3) (g_ln 3 3 3 rfl q_2_l) (vp_of (I := 0) (by decide) (by decide) (by decide)) dX0_readingOf_13 ?_
  refine lv_topi (fun x_3 e_4 => ?_)
  refine lv_iload_n hx hb dX0_readingOf_14 rfl (lv_at hl 3 rfl) ?_
  refine lv_imul hx hb dX0_readingOf_15 ?_
  refine lv_topi (fun x_5 e_6 => ?_)
  refine lv_aload hx hb dX0_readingOf_16 (lv_at hl 0 rfl) ?_
  refine lv_iconst (v := 1) hx hb dX0_readingOf_18 (by decide) ?_
  refine g_iald C h q_2 (by omega) (g_kd 3 3 1 rfl q_2_l) (n := 3) (g_ln 3 3 3 rfl q_2_l) (vp_of (I := 1) (by decide) (by decide) (by decide)) dX0_readingOf_19 ?_
  refine lv_topi (fun x_7 e_8 => ?_)
  refine lv_iload_n hx hb dX0_readingOf_20 rfl (lv_at hl 4 rfl) ?_
  refine lv_imul hx hb dX0_readingOf_21 ?_
  refine lv_topi (fun x_9 e_10 => ?_)
  refine lv_iadd hx hb dX0_readingOf_22 ?_
  refine lv_topi (fun x_11 e_12 => ?_)
  refine lv_aload hx hb dX0_readingOf_23 (lv_at hl 0 rfl) ?_
  refine lv_iconst (v := 2) hx hb dX0_readingOf_25 (by decide) ?_
  refine g_iald C h q_2 (by omega) (g_kd 3 3 1 rfl q_2_l) (n := 3) (g_ln 3 3 3 rfl q_2_l) (vp_of (I := 2) (by decide) (by decide) (by decide)) dX0_readingOf_26 ?_
  refine lv_topi (fun x_13 e_14 => ?_)
  refine lv_iload hx hb dX0_readingOf_27 (lv_at hl 5 rfl) ?_
  refine lv_imul hx hb dX0_readingOf_29 ?_
  refine lv_topi (fun x_15 e_16 => ?_)
  refine lv_iadd hx hb dX0_readingOf_30 ?_
  refine lv_topi (fun x_17 e_18 => ?_)
  refine lv_imul hx hb dX0_readingOf_31 ?_
  refine lv_topi (fun x_19 e_20 => ?_)
  refine lv_aload_n hx hb dX0_readingOf_32 rfl (lv_at hl 1 rfl) ?_
  refine lv_iload_n hx hb dX0_readingOf_33 rfl (lv_at hl 2 rfl) ?_
  refine lv_iload_n hx hb dX0_readingOf_34 rfl (lv_at hl 3 rfl) ?_
  refine lv_iload_n hx hb dX0_readingOf_35 rfl (lv_at hl 4 rfl) ?_
  refine lv_iload hx hb dX0_readingOf_36 (lv_at hl 5 rfl) ?_
  refine g_calli C (va_runV (As := [.int (p1), .int (p2), .int (p3), .int (p4)]) (rest := [.int (x_19)]) C.1 (c_X0_productsOf l G v w sg p1 (A1 := A1) a1 p2 (A2 := A2) a2 p3 (A3 := A3) a3 p4 (A4 := A4) a4 (by omega) ci) (cwV 4 hts gX0_readingOf_X0_productsOf rfl rfl rfl (by decide +kernel) ⟨by rw [hR]; exact Nat.le_of_ble_eq_true rfl, by rw [hR]; exact Nat.le_of_ble_eq_true rfl⟩) ⟨gPre_blind, g_recv C h 1 (by decide) (ci := 0) rfl rfl, gS_pre C h _⟩ rfl rfl hl.1 rfl (lv_room (Nat.le_of_ble_eq_true rfl)) dX0_readingOf_38 ⟨Nat.zero_le _, Nat.zero_le _⟩) h (fun r_21 v_23 w_24 g_25 H locs p_22 h => ?_)
  obtain ⟨p_22, rfl, rfl, rfl⟩ := p_22
  refine lv_iadd hx hb dX0_readingOf_41 ?_
  refine lv_topi (fun x_26 e_27 => ?_)
  exact ret x_26 v w sg _ _ _ _ dX0_readingOf_42 h ⟨(by rw [show 3 + A1.toNat = q_2 by omega]; subst_vars; rfl), rfl, rfl, rfl⟩

set_option maxHeartbeats 4000000 in
set_option maxRecDepth 100000 in
theorem c_X0_setLeft (l : Launch) (G : gG) (v : Nat → Nat → Int32) (w : Nat → Nat → Int64) (sg : Nat → Nat) (ci : cI v) : Met l yX0_setLeft wsX0_setLeft ({ frames := 0, cells := 0, slots := 0, locals := 0 }) (gPre G v w sg [.ref (G.2.2 (1))]) (gQv G (fun v' w' sg' => (cI v ∧ fC 1 18 v w v w' ∧ bL w') ∧ v = v' ∧ sg = sg')) 0 0 (gA G) := by
  refine gM_ofv (cc := cX0_setLeft) (maxL := 3) (by decide) rfl (Nat.le_of_ble_eq_true rfl) ?_
  intro p e R s m args below meth c Q ls C hR ret h hl
  have hx := C.1.1
  have hb := C.1.2.1
  have hown := C.1.2.2.2.1
  have hts := C.1.2.2.2.2
  have hl : lv_has ls 3 [(0, .ref (G.2.2 (1)))] := hl
  have z_0 : (0 : Int32).toInt = 0 := by decide
  have z_1 : (1 : Int32).toInt = 1 := by decide
  have z_3 : (3 : Int32).toInt = 3 := by decide
  have f38 : Cond.fieldLink RX0 38 "WindHall$Balance" "equations" "LWindHall$Equations;" ∈ wsX0_setLeft := by decide +kernel
  have hi0 : ∀ x ∈ u_ws RX0 TX0 7, x ∈ wsX0_setLeft := fun x q => List.mem_cons_of_mem _ (List.mem_append_left _ (List.mem_append_right _ q))
  have f67 : Cond.fieldLink RX0 67 "WindHall$Equations" "left" "[[J" ∈ wsX0_setLeft := by decide +kernel
  have hi4 : ∀ x ∈ u_ws RX4 TX4 2, x ∈ wsX0_setLeft := fun x q => List.mem_cons_of_mem _ (List.mem_append_right _ q)
  have f11 : Cond.fieldLink RX0 11 "WindHall$Balance" "first" "[[I" ∈ wsX0_setLeft := by decide +kernel
  have o_1 := ci
  obtain ⟨K1, K2, K3, K4, K5, K6, K7, Ks, K9, Ka, Kr, Kz⟩ := o_1
  refine lv_iconst (v := 0) hx hb dX0_setLeft_0 (by decide) ?_
  have J2_3 : ∀ (n : Nat) (y_2 : Int32) (w_3 : Nat → Nat → Int64) (H : Heap) (locs : List Loc) (ls : Array Slot), (3 - (y_2).toInt).toNat < n → (cI v) → (fC 1 18 v w v w_3) → (0 ≤ (y_2).toInt ∧ (y_2).toInt ≤ 3) → (bP w_3 (y_2).toInt 0) → gS (gA G) G s v w_3 sg H locs → lv_has ls 3 [(0, .ref (G.2.2 (1))), (1, .int (y_2))] → W p l e R s m args below meth c H locs 0 0 Q (F0 m 2 ls []) := by
    intro n
    induction n with
    | zero => intro y_2 w_3 H locs ls hm; exact absurd hm (Nat.not_lt_zero _)
    | succ n ih2 =>
      intro y_2 w_3 H locs ls hm u_4 u_5 f_6 f_7 h hl
      have o_8 := u_4
      obtain ⟨K1, K2, K3, K4, K5, K6, K7, Ks, K9, Ka, Kr, Kz⟩ := o_8
      refine lv_iload_n hx hb dX0_setLeft_2 rfl (lv_at hl 1 rfl) ?_
      refine lv_iconst (v := 3) hx hb dX0_setLeft_3 (by decide) ?_
      refine lv_icmp_ge (tgt := 46) hx hb dX0_setLeft_4 (by decide) (fun c_9 => ?_) (fun c_9 => ?_)
      · have j_10 : 3 ≤ (y_2).toInt := (i_le (by decide) rfl).mp c_9
        exact ret v w_3 sg _ _ _ _ dX0_setLeft_46 h ⟨⟨u_4, u_5, (fun i j hi hj => f_7 i j hi hj (by omega))⟩, rfl, rfl⟩
      · have j_10 : ¬ (3 ≤ (y_2).toInt) := fun q => c_9 ((i_le (by decide) rfl).mpr q)
        refine lv_iconst (v := 0) hx hb dX0_setLeft_7 (by decide) ?_
        have J9_12 : ∀ (n : Nat) (y_11 : Int32) (w_12 : Nat → Nat → Int64) (H : Heap) (locs : List Loc) (ls : Array Slot), (3 - (y_11).toInt).toNat < n → (cI v) → (fC 1 18 v w v w_12) → (0 ≤ (y_11).toInt ∧ (y_11).toInt ≤ 3) → (bP w_12 (y_2).toInt (y_11).toInt) → gS (gA G) G s v w_12 sg H locs → lv_has ls 3 [(0, .ref (G.2.2 (1))), (1, .int (y_2)), (2, .int (y_11))] → W p l e R s m args below meth c H locs 0 0 Q (F0 m 9 ls []) := by
          intro n
          induction n with
          | zero => intro y_11 w_12 H locs ls hm; exact absurd hm (Nat.not_lt_zero _)
          | succ n ih9 =>
            intro y_11 w_12 H locs ls hm u_13 u_14 f_15 f_16 h hl
            have o_17 := u_13
            obtain ⟨K1, K2, K3, K4, K5, K6, K7, Ks, K9, Ka, Kr, Kz⟩ := o_17
            refine lv_iload_n hx hb dX0_setLeft_9 rfl (lv_at hl 2 rfl) ?_
            refine lv_iconst (v := 3) hx hb dX0_setLeft_10 (by decide) ?_
            refine lv_icmp_ge (tgt := 40) hx hb dX0_setLeft_11 (by decide) (fun c_18 => ?_) (fun c_18 => ?_)
            · have j_19 : 3 ≤ (y_11).toInt := (i_le (by decide) rfl).mp c_18
              obtain ⟨x_20, e_21⟩ : ∃ y : Int32, y = y_2 + 1 := ⟨_, rfl⟩
              have i_22 : x_20.toInt = (y_2).toInt + 1 := ia_add e_21 rfl (by decide) (by omega) (by omega)
              refine lv_iinc (v := x_20) (lv' := [(1, .int (x_20)), (0, .ref (G.2.2 (1))), (2, .int (y_11))]) hx hb dX0_setLeft_40 hl (k := 1) rfl (by rw [e_21]; rfl) (by decide) rfl (fun ls hl => ?_)
              refine lv_goto (tgt := 2) hx hb dX0_setLeft_43 (by decide) ?_
              exact ih2 x_20 w_12 _ _ _ (by omega) u_13 u_14 (by omega) (f_16.next (by omega) (by omega) rfl) h (lv_sub hl [1, 0] rfl)
            · have j_19 : ¬ (3 ≤ (y_11).toInt) := fun q => c_18 ((i_le (by decide) rfl).mpr q)
              refine lv_aload_n hx hb dX0_setLeft_14 rfl (lv_at hl 0 rfl) ?_
              refine g_get (ci := 0) (x := .ref (G.2.2 (12))) C h 1 (by decide) rfl rfl hi0 6 (by decide) f38 rfl rfl dX0_setLeft_15 ?_
              refine g_get (ci := 4) (x := .ref (G.2.2 (13))) C h 12 (by decide) rfl rfl hi4 0 (by decide) f67 rfl rfl dX0_setLeft_18 ?_
              refine lv_iload_n hx hb dX0_setLeft_21 rfl (lv_at hl 1 rfl) ?_
              refine g_aald (ty := .array .long) C h 13 (by decide) 1 (by decide) (n := 3) (by decide) rfl rfl (vp_of rfl (by omega) (by omega)) dX0_setLeft_22 ?_
              obtain ⟨q_23, q_23_e, q_23_i, q_23_l⟩ := g_row sg (b := 13) (n := 3) (i := y_2) (by decide) (by decide) rfl (by omega) (by omega)
              rw [q_23_e]
              refine lv_iload_n hx hb dX0_setLeft_23 rfl (lv_at hl 2 rfl) ?_
              refine lv_aload_n hx hb dX0_setLeft_24 rfl (lv_at hl 0 rfl) ?_
              refine g_get (ci := 0) (x := .ref (G.2.2 (2))) C h 1 (by decide) rfl rfl hi0 0 (by decide) f11 rfl rfl dX0_setLeft_25 ?_
              refine lv_iload_n hx hb dX0_setLeft_28 rfl (lv_at hl 1 rfl) ?_
              refine g_aald (ty := .array .int) C h 2 (by decide) 0 (by decide) (n := 3) (by decide) rfl rfl (vp_of rfl (by omega) (by omega)) dX0_setLeft_29 ?_
              obtain ⟨q_24, q_24_e, q_24_i, q_24_l⟩ := g_row sg (b := 2) (n := 3) (i := y_2) (by decide) (by decide) rfl (by omega) (by omega)
              rw [q_24_e]
              refine lv_iload_n hx hb dX0_setLeft_30 rfl (lv_at hl 2 rfl) ?_
              refine g_iald C h q_24 (by omega) (g_kd 3 3 1 rfl q_24_l) (n := 3) (g_ln 3 3 3 rfl q_24_l) (vp_of rfl (by omega) (by omega)) dX0_setLeft_31 ?_
              refine lv_topi (fun x_25 e_26 => ?_)
              have hxb := Ka (y_2 : Int32).toInt.toNat (y_11 : Int32).toNatClampNeg (by omega) (by have := cl_of (i := y_11) rfl (by omega); omega)
              rw [show 3 + (y_2 : Int32).toInt.toNat = q_24 by omega, ← e_26, ← il_of (x := x_25) rfl] at hxb
              have q_27 := i_rng x_25
              refine lv_i2l (v := (x_25 : Int32).toInt64) hx hb dX0_setLeft_32 rfl ?_
              refine g_last C h q_23 (by omega) (g_kd 14 3 2 rfl q_23_l) (n := 3) (g_ln 14 3 3 rfl q_23_l) (vp_of rfl (by omega) (by omega)) dX0_setLeft_33 (fun H locs h => ?_)
              obtain ⟨w_28, hw_28⟩ : ∃ z, z = gul w_12 q_23 ((y_11 : Int32).toNatClampNeg) ((x_25 : Int32).toInt64) := ⟨_, rfl⟩
              have h : gS (gA G) G s v w_28 sg H locs := by rw [hw_28]; exact h
              have u_29 : fC 1 18 v w v w_28 := by rw [hw_28]; exact (fC_w u_14 (by omega))
              obtain ⟨x_30, e_31⟩ : ∃ y : Int32, y = y_11 + 1 := ⟨_, rfl⟩
              have i_32 : x_30.toInt = (y_11).toInt + 1 := ia_add e_31 rfl (by decide) (by omega) (by omega)
              refine lv_iinc (v := x_30) (lv' := [(2, .int (x_30)), (0, .ref (G.2.2 (1))), (1, .int (y_2))]) hx hb dX0_setLeft_34 hl (k := 2) rfl (by rw [e_31]; rfl) (by decide) rfl (fun ls hl => ?_)
              refine lv_goto (tgt := 9) hx hb dX0_setLeft_37 (by decide) ?_
              exact ih9 x_30 w_28 _ _ _ (by omega) u_13 u_29 (by omega) (by rw [hw_28]; exact f_16.st (by omega) rfl (by omega) trivial hxb (by omega)) h (lv_sub hl [1, 2, 0] rfl)
        refine lv_istore_n (lv' := [(2, .int (0)), (0, .ref (G.2.2 (1))), (1, .int (y_2))]) hx hb dX0_setLeft_8 rfl hl (by decide) rfl (fun ls hl => ?_)
        exact J9_12 _ 0 w_3 _ _ _ (Nat.lt_succ_self _) u_4 u_5 (by omega) (f_7.eq (by decide)) h (lv_sub hl [1, 2, 0] rfl)
  refine lv_istore_n (lv' := [(1, .int (0)), (0, .ref (G.2.2 (1)))]) hx hb dX0_setLeft_1 rfl hl (by decide) rfl (fun ls hl => ?_)
  exact J2_3 _ 0 w _ _ _ (Nat.lt_succ_self _) ci fC_rf (by omega) (fun i j _ _ q => by omega) h (lv_sub hl [1, 0] rfl)

set_option maxHeartbeats 4000000 in
set_option maxRecDepth 100000 in
theorem c_X0_nearestLoad (l : Launch) (G : gG) (v : Nat → Nat → Int32) (w : Nat → Nat → Int64) (sg : Nat → Nat) (p0 : Int64) {A0 : Int} (a0 : p0.toInt = A0) (p2 : Int64) {A2 : Int} (a2 : p2.toInt = A2) (b2 : -600000000 ≤ A2 ∧ A2 ≤ 600000000) (ci : cI v) : Met l yX0_nearestLoad wsX0_nearestLoad ({ frames := 1, cells := 0, slots := 0, locals := 25 }) (gPre G v w sg [.long (p0), .long (p2)]) (gQi G (fun r v' w' sg' => (True) ∧ v = v' ∧ w = w' ∧ sg = sg')) 0 0 (gA G) := by
  refine gM_ofi (cc := cX0_nearestLoad) (maxL := 6) (by decide) rfl (Nat.le_of_ble_eq_true rfl) ?_
  intro p e R s m args below meth c Q ls C hR ret h hl
  have hx := C.1.1
  have hb := C.1.2.1
  have hown := C.1.2.2.2.1
  have hts := C.1.2.2.2.2
  have hl : lv_has ls 6 [(0, .long (p0)), (2, .long (p2))] := hl
  have q0 := l_rng p0; rw [a0] at q0
  have q2 := l_rng p2; rw [a2] at q2
  have z_0 : (0 : Int32).toInt = 0 := by decide
  have z_1 : (1 : Int32).toInt = 1 := by decide
  have k79 : (Cond.constantLong RX0 79 (2)).before args s = true := hts _ (by decide +kernel)
  have k87 : (Cond.constantLong RX0 87 (-50)).before args s = true := hts _ (by decide +kernel)
  have k89 : (Cond.constantLong RX0 89 (50)).before args s = true := hts _ (by decide +kernel)
  have o_1 := ci
  obtain ⟨K1, K2, K3, K4, K5, K6, K7, Ks, K9, Ka, Kr, Kz⟩ := o_1
  refine lv_lload_n hx hb dX0_nearestLoad_0 rfl (lv_at hl 1 rfl) ?_
  refine lv_lconst (v := 0) hx hb dX0_nearestLoad_1 (by decide) ?_
  refine W.lcmp hx hb dX0_nearestLoad_2 ?_
  refine lv_if_ne (tgt := 8) hx hb dX0_nearestLoad_3 (by decide) (fun c_2 => ?_) (fun c_2 => ?_)
  · have j_3 : ¬ (A2 = 0) := fun q => c_2 ((l_eq0 a2 (by decide)).mpr q)
    refine lv_ldc2 hx hb hown k79 dX0_nearestLoad_8 ?_
    refine lv_lload_n hx hb dX0_nearestLoad_11 rfl (lv_at hl 0 rfl) ?_
    refine lv_lmul hx hb dX0_nearestLoad_12 ?_
    refine lv_topl (fun x_4 e_5 => ?_)
    refine lv_lload_n hx hb dX0_nearestLoad_13 rfl (lv_at hl 1 rfl) ?_
    refine lv_ladd hx hb dX0_nearestLoad_14 ?_
    refine lv_topl (fun x_6 e_7 => ?_)
    refine lv_ldc2 hx hb hown k79 dX0_nearestLoad_15 ?_
    refine lv_lload_n hx hb dX0_nearestLoad_18 rfl (lv_at hl 1 rfl) ?_
    refine lv_lmul hx hb dX0_nearestLoad_19 ?_
    refine lv_topl (fun x_8 e_9 => ?_)
    have i_10 : x_8.toInt = 2 * A2 := la_mul e_9 (by decide) a2 (by omega) (by omega)
    refine g_calll C (va_runS (As := [.long (x_6), .long (x_8)]) (rest := []) C.1 (c_J9_floorDiv_f86c9 l G v w sg x_6 (A0 := (x_6).toInt) rfl x_8 (A2 := (2 * A2)) i_10 (by omega)) (va_cwS 2 hts gX0_nearestLoad_J9_floorDiv_f86c9 rfl rfl rfl (by decide +kernel) ⟨by rw [hR]; exact Nat.le_of_ble_eq_true rfl, by rw [hR]; exact Nat.le_of_ble_eq_true rfl⟩) ⟨gPre_blind, gS_pre C h _⟩ rfl rfl hl.1 rfl (lv_room (Nat.le_of_ble_eq_true rfl)) dX0_nearestLoad_20 ⟨Nat.zero_le _, Nat.zero_le _⟩) h (fun r_11 v_13 w_14 g_15 H locs p_12 h => ?_)
    obtain ⟨p_12, rfl, rfl, rfl⟩ := p_12
    refine lv_lstore (lv' := [(4, .long (r_11)), (0, .long (p0)), (2, .long (p2))]) hx hb dX0_nearestLoad_23 hl (by decide) rfl (fun ls hl => ?_)
    refine lv_ldc2 hx hb hown k87 dX0_nearestLoad_25 ?_
    refine lv_ldc2 hx hb hown k89 dX0_nearestLoad_28 ?_
    refine lv_lload hx hb dX0_nearestLoad_31 (lv_at hl 0 rfl) ?_
    refine va_mmin_long hx hb (C.1.2.2.1.trans hl.1.symm) hown (hts (.methodLink RX0 91 Lib.MathLoose.min_long.x) (by decide +kernel)) (hts (.static Lib.MathLoose.min_long.x) (by decide +kernel)) (hts (.initialized "java/lang/Math") (by decide +kernel)) (hts (.code Lib.MathLoose.min_long.x Lib.MathLoose.min_long.code 4 (some .long)) (by decide +kernel)) (by rw [hR]; exact Nat.le_of_ble_eq_true rfl) (by rw [hR]; exact Nat.le_of_ble_eq_true rfl) (Nat.zero_le _) (Nat.zero_le _) dX0_nearestLoad_33 ?_
    refine lv_topl (fun x_16 e_17 => ?_)
    refine va_mmax_long hx hb (C.1.2.2.1.trans hl.1.symm) hown (hts (.methodLink RX0 94 Lib.MathLoose.max_long.x) (by decide +kernel)) (hts (.static Lib.MathLoose.max_long.x) (by decide +kernel)) (hts (.initialized "java/lang/Math") (by decide +kernel)) (hts (.code Lib.MathLoose.max_long.x Lib.MathLoose.max_long.code 4 (some .long)) (by decide +kernel)) (by rw [hR]; exact Nat.le_of_ble_eq_true rfl) (by rw [hR]; exact Nat.le_of_ble_eq_true rfl) (Nat.zero_le _) (Nat.zero_le _) dX0_nearestLoad_36 ?_
    refine lv_topl (fun x_18 e_19 => ?_)
    refine lv_l2i hx hb dX0_nearestLoad_39 rfl ?_
    refine lv_topi (fun x_20 e_21 => ?_)
    exact ret x_20 v w sg _ _ _ _ dX0_nearestLoad_40 h ⟨trivial, rfl, rfl, rfl⟩
  · have j_3 : A2 = 0 := (l_eq0 a2 (by decide)).mp c_2
    refine lv_iconst (v := 0) hx hb dX0_nearestLoad_6 (by decide) ?_
    exact ret 0 v w sg _ _ _ _ dX0_nearestLoad_7 h ⟨trivial, rfl, rfl, rfl⟩

set_option maxHeartbeats 4000000 in
set_option maxRecDepth 100000 in
theorem c_X0_goRound (l : Launch) (G : gG) (v : Nat → Nat → Int32) (w : Nat → Nat → Int64) (sg : Nat → Nat) (p1 : Int64) {A1 : Int} (a1 : p1.toInt = A1) (b1 : -600000000 ≤ A1 ∧ A1 ≤ 600000000) (ci : cI v) : Met l yX0_goRound wsX0_goRound ({ frames := 2, cells := 0, slots := 0, locals := 51 }) (gPre G v w sg [.ref (G.2.2 (1)), .long (p1)]) (gQi G (fun r v' w' sg' => (cI v' ∧ fC 1 18 v w v' w' ∧ fBk v v' ∧ (r.toInt = 0 ∨ r.toInt = 1)) ∧ sg = sg')) 0 0 (gA G) := by
  refine gM_ofz (cc := cX0_goRound) (maxL := 6) (by decide) rfl (Nat.le_of_ble_eq_true rfl) ?_
  intro p e R s m args below meth c Q ls C hR ret h hl
  have hx := C.1.1
  have hb := C.1.2.1
  have hown := C.1.2.2.2.1
  have hts := C.1.2.2.2.2
  have hl : lv_has ls 6 [(0, .ref (G.2.2 (1))), (1, .long (p1))] := hl
  have q1 := l_rng p1; rw [a1] at q1
  have z_0 : (0 : Int32).toInt = 0 := by decide
  have z_1 : (1 : Int32).toInt = 1 := by decide
  have z_2 : (2 : Int32).toInt = 2 := by decide
  have z_3 : (3 : Int32).toInt = 3 := by decide
  have f38 : Cond.fieldLink RX0 38 "WindHall$Balance" "equations" "LWindHall$Equations;" ∈ wsX0_goRound := by decide +kernel
  have hi0 : ∀ x ∈ u_ws RX0 TX0 7, x ∈ wsX0_goRound := fun x q => List.mem_cons_of_mem _ (List.mem_append_left _ (List.mem_append_right _ q))
  have f21 : Cond.fieldLink RX0 21 "WindHall$Balance" "load" "[I" ∈ wsX0_goRound := by decide +kernel
  have f71 : Cond.fieldLink RX0 71 "WindHall$Equations" "right" "[J" ∈ wsX0_goRound := by decide +kernel
  have hi4 : ∀ x ∈ u_ws RX4 TX4 2, x ∈ wsX0_goRound := fun x q => List.mem_cons_of_mem _ (List.mem_append_right _ q)
  have f32 : Cond.fieldLink RX0 32 "WindHall$Balance" "given" "[I" ∈ wsX0_goRound := by decide +kernel
  have o_1 := ci
  obtain ⟨K1, K2, K3, K4, K5, K6, K7, Ks, K9, Ka, Kr, Kz⟩ := o_1
  refine lv_iconst (v := 0) hx hb dX0_goRound_0 (by decide) ?_
  have J2_3 : ∀ (n : Nat) (y_2 : Int32) (w_3 : Nat → Nat → Int64) (H : Heap) (locs : List Loc) (ls : Array Slot), (3 - (y_2).toInt).toNat < n → (cI v) → (fC 1 18 v w v w_3) → (fBk v v) → (0 ≤ (y_2).toInt ∧ (y_2).toInt ≤ 3) → gS (gA G) G s v w_3 sg H locs → lv_has ls 6 [(0, .ref (G.2.2 (1))), (1, .long (p1)), (3, .int (y_2))] → W p l e R s m args below meth c H locs 0 0 Q (F0 m 2 ls []) := by
    intro n
    induction n with
    | zero => intro y_2 w_3 H locs ls hm; exact absurd hm (Nat.not_lt_zero _)
    | succ n ih2 =>
      intro y_2 w_3 H locs ls hm u_4 u_5 u_6 f_7 h hl
      have o_8 := u_4
      obtain ⟨K1, K2, K3, K4, K5, K6, K7, Ks, K9, Ka, Kr, Kz⟩ := o_8
      refine lv_iload_n hx hb dX0_goRound_2 rfl (lv_at hl 2 rfl) ?_
      refine lv_iconst (v := 3) hx hb dX0_goRound_3 (by decide) ?_
      refine lv_icmp_ge (tgt := 53) hx hb dX0_goRound_4 (by decide) (fun c_9 => ?_) (fun c_9 => ?_)
      · have j_10 : 3 ≤ (y_2).toInt := (i_le (by decide) rfl).mp c_9
        refine lv_iconst (v := 0) hx hb dX0_goRound_53 (by decide) ?_
        refine lv_istore_n (lv' := [(3, .int (0)), (0, .ref (G.2.2 (1))), (1, .long (p1))]) hx hb dX0_goRound_54 rfl hl (by decide) rfl (fun ls hl => ?_)
        refine lv_iconst (v := 0) hx hb dX0_goRound_55 (by decide) ?_
        have J58_13 : ∀ (n : Nat) (y_11 : Int32) (y_12 : Int32) (v_13 : Nat → Nat → Int32) (H : Heap) (locs : List Loc) (ls : Array Slot), (3 - (y_12).toInt).toNat < n → (cI v_13) → (fC 1 18 v w v_13 w_3) → (fBk v v_13) → (0 ≤ (y_12).toInt ∧ (y_12).toInt ≤ 3) → ((y_11).toInt = 0 ∨ (y_11).toInt = 1) → gS (gA G) G s v_13 w_3 sg H locs → lv_has ls 6 [(0, .ref (G.2.2 (1))), (1, .long (p1)), (3, .int (y_11)), (4, .int (y_12))] → W p l e R s m args below meth c H locs 0 0 Q (F0 m 58 ls []) := by
          intro n
          induction n with
          | zero => intro y_11 y_12 v_13 H locs ls hm; exact absurd hm (Nat.not_lt_zero _)
          | succ n ih58 =>
            intro y_11 y_12 v_13 H locs ls hm u_14 u_15 u_16 f_17 f_18 h hl
            have o_19 := u_14
            obtain ⟨K1, K2, K3, K4, K5, K6, K7, Ks, K9, Ka, Kr, Kz⟩ := o_19
            refine lv_iload hx hb dX0_goRound_58 (lv_at hl 3 rfl) ?_
            refine lv_iconst (v := 3) hx hb dX0_goRound_60 (by decide) ?_
            refine lv_icmp_ge (tgt := 116) hx hb dX0_goRound_61 (by decide) (fun c_20 => ?_) (fun c_20 => ?_)
            · have j_21 : 3 ≤ (y_12).toInt := (i_le (by decide) rfl).mp c_20
              refine lv_iload_n hx hb dX0_goRound_116 rfl (lv_at hl 2 rfl) ?_
              exact ret y_11 v_13 w_3 sg _ _ _ _ (nb_of (by omega)) dX0_goRound_117 h ⟨⟨u_14, u_15, u_16, (by omega)⟩, rfl⟩
            · have j_21 : ¬ (3 ≤ (y_12).toInt) := fun q => c_20 ((i_le (by decide) rfl).mpr q)
              refine lv_aload_n hx hb dX0_goRound_64 rfl (lv_at hl 0 rfl) ?_
              refine g_get (ci := 0) (x := .ref (G.2.2 (12))) C h 1 (by decide) rfl rfl hi0 6 (by decide) f38 rfl rfl dX0_goRound_65 ?_
              refine lv_iload hx hb dX0_goRound_68 (lv_at hl 3 rfl) ?_
              refine g_calll C (va_runV (As := [.int (y_12)]) (rest := []) C.1 (c_X4_determinant_12 l G v_13 w_3 sg y_12 (A1 := (y_12).toInt) rfl u_14) (cwV 1 hts gX0_goRound_X4_determinant rfl rfl rfl (by decide +kernel) ⟨by rw [hR]; exact Nat.le_of_ble_eq_true rfl, by rw [hR]; exact Nat.le_of_ble_eq_true rfl⟩) ⟨gPre_blind, g_recv C h 12 (by decide) (ci := 4) rfl rfl, gS_pre C h _⟩ rfl rfl hl.1 rfl (lv_room (Nat.le_of_ble_eq_true rfl)) dX0_goRound_70 ⟨Nat.zero_le _, Nat.zero_le _⟩) h (fun r_22 v_24 w_25 g_26 H locs p_23 h => ?_)
              obtain ⟨p_23, rfl, rfl, rfl⟩ := p_23
              refine lv_lload_n hx hb dX0_goRound_73 rfl (lv_at hl 1 rfl) ?_
              refine g_calli C (va_runS (As := [.long (r_22), .long (p1)]) (rest := []) C.1 (c_X0_nearestLoad l G v_13 w_3 sg r_22 (A0 := (r_22).toInt) rfl p1 (A2 := A1) a1 (by omega) u_14) (va_cwS 2 hts gX0_goRound_X0_nearestLoad rfl rfl rfl (by decide +kernel) ⟨by rw [hR]; exact Nat.le_of_ble_eq_true rfl, by rw [hR]; exact Nat.le_of_ble_eq_true rfl⟩) ⟨gPre_blind, gS_pre C h _⟩ rfl rfl hl.1 rfl (lv_room (Nat.le_of_ble_eq_true rfl)) dX0_goRound_74 ⟨Nat.zero_le _, Nat.zero_le _⟩) h (fun r_27 v_29 w_30 g_31 H locs p_28 h => ?_)
              obtain ⟨p_28, rfl, rfl, rfl⟩ := p_28
              refine lv_istore (lv' := [(5, .int (r_27)), (0, .ref (G.2.2 (1))), (1, .long (p1)), (3, .int (y_11)), (4, .int (y_12))]) hx hb dX0_goRound_77 hl (by decide) rfl (fun ls hl => ?_)
              refine lv_iload_n hx hb dX0_goRound_79 rfl (lv_at hl 3 rfl) ?_
              have J100_32 : ∀ (y_32 : Int32) (H : Heap) (locs : List Loc) (ls : Array Slot), ((y_32).toInt = 0 ∨ (y_32).toInt = 1) → gS (gA G) G s v_13 w_3 sg H locs → lv_has ls 6 [(0, .ref (G.2.2 (1))), (1, .long (p1)), (3, .int (y_11)), (4, .int (y_12)), (5, .int (r_27))] → W p l e R s m args below meth c H locs 0 0 Q (F0 m 100 ls [.int (y_32)]) := by
                intro y_32 H locs ls f_33 h hl
                refine lv_istore_n (lv' := [(3, .int (y_32)), (0, .ref (G.2.2 (1))), (1, .long (p1)), (4, .int (y_12)), (5, .int (r_27))]) hx hb dX0_goRound_100 rfl hl (by decide) rfl (fun ls hl => ?_)
                refine lv_aload_n hx hb dX0_goRound_101 rfl (lv_at hl 1 rfl) ?_
                refine g_get (ci := 0) (x := .ref (G.2.2 (10))) C h 1 (by decide) rfl rfl hi0 2 (by decide) f21 rfl rfl dX0_goRound_102 ?_
                refine lv_iload hx hb dX0_goRound_105 (lv_at hl 3 rfl) ?_
                refine lv_iload hx hb dX0_goRound_107 (lv_at hl 4 rfl) ?_
                refine g_iast C h 10 (by decide) (by decide) (n := 3) (by decide) (vp_of rfl (by omega) (by omega)) dX0_goRound_109 (fun H locs h => ?_)
                obtain ⟨v_34, hv_34⟩ : ∃ z, z = gu v_13 10 ((y_12 : Int32).toNatClampNeg) r_27 := ⟨_, rfl⟩
                have h : gS (gA G) G s v_34 w_3 sg H locs := by rw [hv_34]; exact h
                have u_35 : cI v_34 := by rw [hv_34]; exact (cI_o u_14 (by decide))
                have u_36 : fC 1 18 v w v_34 w_3 := by rw [hv_34]; exact (fC_v u_15 (by decide))
                have u_37 : fBk v v_34 := by rw [hv_34]; exact (fBk_v u_16 (by omega))
                obtain ⟨x_38, e_39⟩ : ∃ y : Int32, y = y_12 + 1 := ⟨_, rfl⟩
                have i_40 : x_38.toInt = (y_12).toInt + 1 := ia_add e_39 rfl (by decide) (by omega) (by omega)
                refine lv_iinc (v := x_38) (lv' := [(4, .int (x_38)), (3, .int (y_32)), (0, .ref (G.2.2 (1))), (1, .long (p1)), (5, .int (r_27))]) hx hb dX0_goRound_110 hl (k := 3) rfl (by rw [e_39]; rfl) (by decide) rfl (fun ls hl => ?_)
                refine lv_goto (tgt := 58) hx hb dX0_goRound_113 (by decide) ?_
                exact ih58 y_32 x_38 v_34 _ _ _ (by omega) u_35 u_36 u_37 (by omega) (by omega) h (lv_sub hl [2, 3, 1, 0] rfl)
              have J95_40 : ∀ (H : Heap) (locs : List Loc) (ls : Array Slot), gS (gA G) G s v_13 w_3 sg H locs → lv_has ls 6 [(0, .ref (G.2.2 (1))), (1, .long (p1)), (3, .int (y_11)), (4, .int (y_12)), (5, .int (r_27))] → W p l e R s m args below meth c H locs 0 0 Q (F0 m 95 ls []) := by
                intro  H locs ls  h hl
                refine lv_iconst (v := 1) hx hb dX0_goRound_95 (by decide) ?_
                refine lv_goto (tgt := 100) hx hb dX0_goRound_96 (by decide) ?_
                exact J100_32 1 _ _ _ (by omega) h (lv_sub hl [0, 1, 2, 3, 4] rfl)
              refine lv_if_ne (tgt := 95) hx hb dX0_goRound_80 (by decide) (fun c_41 => ?_) (fun c_41 => ?_)
              · have j_42 : ¬ ((y_11).toInt = 0) := fun q => c_41 ((i_eq rfl (by decide)).mpr q)
                exact J95_40  _ _ _  h (lv_sub hl [1, 2, 3, 4, 0] rfl)
              · have j_42 : (y_11).toInt = 0 := (i_eq rfl (by decide)).mp c_41
                refine lv_iload hx hb dX0_goRound_83 (lv_at hl 0 rfl) ?_
                refine lv_aload_n hx hb dX0_goRound_85 rfl (lv_at hl 1 rfl) ?_
                refine g_get (ci := 0) (x := .ref (G.2.2 (10))) C h 1 (by decide) rfl rfl hi0 2 (by decide) f21 rfl rfl dX0_goRound_86 ?_
                refine lv_iload hx hb dX0_goRound_89 (lv_at hl 4 rfl) ?_
                refine g_iald C h 10 (by decide) (by decide) (n := 3) (by decide) (vp_of rfl (by omega) (by omega)) dX0_goRound_91 ?_
                refine lv_topi (fun x_43 e_44 => ?_)
                refine lv_icmp_eq (tgt := 99) hx hb dX0_goRound_92 (by decide) (fun c_45 => ?_) (fun c_45 => ?_)
                · have j_46 : (r_27).toInt = (x_43).toInt := (i_eq rfl rfl).mp c_45
                  refine lv_iconst (v := 0) hx hb dX0_goRound_99 (by decide) ?_
                  exact J100_32 0 _ _ _ (by omega) h (lv_sub hl [1, 2, 3, 4, 0] rfl)
                · have j_46 : ¬ ((r_27).toInt = (x_43).toInt) := fun q => c_45 ((i_eq rfl rfl).mpr q)
                  exact J95_40  _ _ _  h (lv_sub hl [1, 2, 3, 4, 0] rfl)
        refine lv_istore (lv' := [(4, .int (0)), (3, .int (0)), (0, .ref (G.2.2 (1))), (1, .long (p1))]) hx hb dX0_goRound_56 hl (by decide) rfl (fun ls hl => ?_)
        exact J58_13 _ 0 0 v _ _ _ (Nat.lt_succ_self _) u_4 u_5 u_6 (by omega) (by omega) h (lv_sub hl [2, 3, 1, 0] rfl)
      · have j_10 : ¬ (3 ≤ (y_2).toInt) := fun q => c_9 ((i_le (by decide) rfl).mpr q)
        refine lv_aload_n hx hb dX0_goRound_7 rfl (lv_at hl 0 rfl) ?_
        refine g_get (ci := 0) (x := .ref (G.2.2 (12))) C h 1 (by decide) rfl rfl hi0 6 (by decide) f38 rfl rfl dX0_goRound_8 ?_
        refine g_get (ci := 4) (x := .ref (G.2.2 (17))) C h 12 (by decide) rfl rfl hi4 1 (by decide) f71 rfl rfl dX0_goRound_11 ?_
        refine lv_iload_n hx hb dX0_goRound_14 rfl (lv_at hl 2 rfl) ?_
        refine lv_aload_n hx hb dX0_goRound_15 rfl (lv_at hl 0 rfl) ?_
        refine g_get (ci := 0) (x := .ref (G.2.2 (11))) C h 1 (by decide) rfl rfl hi0 5 (by decide) f32 rfl rfl dX0_goRound_16 ?_
        refine lv_iload_n hx hb dX0_goRound_19 rfl (lv_at hl 2 rfl) ?_
        refine g_iald C h 11 (by decide) (by decide) (n := 3) (by decide) (vp_of rfl (by omega) (by omega)) dX0_goRound_20 ?_
        refine lv_topi (fun x_47 e_48 => ?_)
        refine lv_aload_n hx hb dX0_goRound_21 rfl (lv_at hl 0 rfl) ?_
        refine lv_iload_n hx hb dX0_goRound_22 rfl (lv_at hl 2 rfl) ?_
        refine lv_aload_n hx hb dX0_goRound_23 rfl (lv_at hl 0 rfl) ?_
        refine g_get (ci := 0) (x := .ref (G.2.2 (10))) C h 1 (by decide) rfl rfl hi0 2 (by decide) f21 rfl rfl dX0_goRound_24 ?_
        refine lv_iconst (v := 0) hx hb dX0_goRound_27 (by decide) ?_
        refine g_iald C h 10 (by decide) (by decide) (n := 3) (by decide) (vp_of (I := 0) (by decide) (by decide) (by decide)) dX0_goRound_28 ?_
        refine lv_topi (fun x_49 e_50 => ?_)
        refine lv_aload_n hx hb dX0_goRound_29 rfl (lv_at hl 0 rfl) ?_
        refine g_get (ci := 0) (x := .ref (G.2.2 (10))) C h 1 (by decide) rfl rfl hi0 2 (by decide) f21 rfl rfl dX0_goRound_30 ?_
        refine lv_iconst (v := 1) hx hb dX0_goRound_33 (by decide) ?_
        refine g_iald C h 10 (by decide) (by decide) (n := 3) (by decide) (vp_of (I := 1) (by decide) (by decide) (by decide)) dX0_goRound_34 ?_
        refine lv_topi (fun x_51 e_52 => ?_)
        refine lv_aload_n hx hb dX0_goRound_35 rfl (lv_at hl 0 rfl) ?_
        refine g_get (ci := 0) (x := .ref (G.2.2 (10))) C h 1 (by decide) rfl rfl hi0 2 (by decide) f21 rfl rfl dX0_goRound_36 ?_
        refine lv_iconst (v := 2) hx hb dX0_goRound_39 (by decide) ?_
        refine g_iald C h 10 (by decide) (by decide) (n := 3) (by decide) (vp_of (I := 2) (by decide) (by decide) (by decide)) dX0_goRound_40 ?_
        refine lv_topi (fun x_53 e_54 => ?_)
        refine g_calli C (va_runV (As := [.int (y_2), .int (x_49), .int (x_51), .int (x_53)]) (rest := [.int (x_47), .int (y_2), .ref (G.2.2 (17))]) C.1 (c_X0_productsOf l G v w_3 sg y_2 (A1 := (y_2).toInt) rfl x_49 (A2 := (x_49).toInt) rfl x_51 (A3 := (x_51).toInt) rfl x_53 (A4 := (x_53).toInt) rfl (by omega) u_4) (cwV 4 hts gX0_goRound_X0_productsOf rfl rfl rfl (by decide +kernel) ⟨by rw [hR]; exact Nat.le_of_ble_eq_true rfl, by rw [hR]; exact Nat.le_of_ble_eq_true rfl⟩) ⟨gPre_blind, g_recv C h 1 (by decide) (ci := 0) rfl rfl, gS_pre C h _⟩ rfl rfl hl.1 rfl (lv_room (Nat.le_of_ble_eq_true rfl)) dX0_goRound_41 ⟨Nat.zero_le _, Nat.zero_le _⟩) h (fun r_55 v_57 w_58 g_59 H locs p_56 h => ?_)
        obtain ⟨p_56, rfl, rfl, rfl⟩ := p_56
        refine lv_isub hx hb dX0_goRound_44 ?_
        refine lv_topi (fun x_60 e_61 => ?_)
        have q_62 := i_rng x_60
        refine lv_i2l (v := (x_60 : Int32).toInt64) hx hb dX0_goRound_45 rfl ?_
        refine g_last C h 17 (by decide) (by decide) (n := 3) (by decide) (vp_of rfl (by omega) (by omega)) dX0_goRound_46 (fun H locs h => ?_)
        obtain ⟨w_63, hw_63⟩ : ∃ z, z = gul w_3 17 ((y_2 : Int32).toNatClampNeg) ((x_60 : Int32).toInt64) := ⟨_, rfl⟩
        have h : gS (gA G) G s v w_63 sg H locs := by rw [hw_63]; exact h
        have u_64 : fC 1 18 v w v w_63 := by rw [hw_63]; exact (fC_w u_5 (by decide))
        obtain ⟨x_65, e_66⟩ : ∃ y : Int32, y = y_2 + 1 := ⟨_, rfl⟩
        have i_67 : x_65.toInt = (y_2).toInt + 1 := ia_add e_66 rfl (by decide) (by omega) (by omega)
        refine lv_iinc (v := x_65) (lv' := [(3, .int (x_65)), (0, .ref (G.2.2 (1))), (1, .long (p1))]) hx hb dX0_goRound_47 hl (k := 2) rfl (by rw [e_66]; rfl) (by decide) rfl (fun ls hl => ?_)
        refine lv_goto (tgt := 2) hx hb dX0_goRound_50 (by decide) ?_
        exact ih2 x_65 w_63 _ _ _ (by omega) u_4 u_64 u_6 (by omega) h (lv_sub hl [1, 2, 0] rfl)
  refine lv_istore_n (lv' := [(3, .int (0)), (0, .ref (G.2.2 (1))), (1, .long (p1))]) hx hb dX0_goRound_1 rfl hl (by decide) rfl (fun ls hl => ?_)
  exact J2_3 _ 0 w _ _ _ (Nat.lt_succ_self _) ci fC_rf fBk_rf (by omega) h (lv_sub hl [1, 2, 0] rfl)

set_option maxHeartbeats 4000000 in
set_option maxRecDepth 100000 in
theorem c_X0_greatestDistance (l : Launch) (G : gG) (v : Nat → Nat → Int32) (w : Nat → Nat → Int64) (sg : Nat → Nat) (ci : cI v) : Met l yX0_greatestDistance wsX0_greatestDistance ({ frames := 2, cells := 0, slots := 0, locals := 50 }) (gPre G v w sg [.ref (G.2.2 (1))]) (gQi G (fun r v' w' sg' => (True) ∧ v = v' ∧ w = w' ∧ sg = sg')) 0 0 (gA G) := by
  refine gM_ofi (cc := cX0_greatestDistance) (maxL := 4) (by decide) rfl (Nat.le_of_ble_eq_true rfl) ?_
  intro p e R s m args below meth c Q ls C hR ret h hl
  have hx := C.1.1
  have hb := C.1.2.1
  have hown := C.1.2.2.2.1
  have hts := C.1.2.2.2.2
  have hl : lv_has ls 4 [(0, .ref (G.2.2 (1)))] := hl
  have z_0 : (0 : Int32).toInt = 0 := by decide
  have z_1 : (1 : Int32).toInt = 1 := by decide
  have z_2 : (2 : Int32).toInt = 2 := by decide
  have z_3 : (3 : Int32).toInt = 3 := by decide
  have f32 : Cond.fieldLink RX0 32 "WindHall$Balance" "given" "[I" ∈ wsX0_greatestDistance := by decide +kernel
  have hi0 : ∀ x ∈ u_ws RX0 TX0 7, x ∈ wsX0_greatestDistance := fun x q => List.mem_cons_of_mem _ (List.mem_append_right _ q)
  have f21 : Cond.fieldLink RX0 21 "WindHall$Balance" "load" "[I" ∈ wsX0_greatestDistance := by decide +kernel
  have o_1 := ci
  obtain ⟨K1, K2, K3, K4, K5, K6, K7, Ks, K9, Ka, Kr, Kz⟩ := o_1
  refine lv_iconst (v := 0) hx hb dX0_greatestDistance_0 (by decide) ?_
  refine lv_istore_n (lv' := [(1, .int (0)), (0, .ref (G.2.2 (1)))]) hx hb dX0_greatestDistance_1 rfl hl (by decide) rfl (fun ls hl => ?_)
  refine lv_iconst (v := 0) hx hb dX0_greatestDistance_2 (by decide) ?_
  have J4_3 : ∀ (n : Nat) (y_2 : Int32) (y_3 : Int32) (H : Heap) (locs : List Loc) (ls : Array Slot), (3 - (y_3).toInt).toNat < n → (0 ≤ (y_3).toInt ∧ (y_3).toInt ≤ 3) → gS (gA G) G s v w sg H locs → lv_has ls 4 [(0, .ref (G.2.2 (1))), (1, .int (y_2)), (2, .int (y_3))] → W p l e R s m args below meth c H locs 0 0 Q (F0 m 4 ls []) := by
    intro n
    induction n with
    | zero => intro y_2 y_3 H locs ls hm; exact absurd hm (Nat.not_lt_zero _)
    | succ n ih4 =>
      intro y_2 y_3 H locs ls hm f_4 h hl
      refine lv_iload_n hx hb dX0_greatestDistance_4 rfl (lv_at hl 2 rfl) ?_
      refine lv_iconst (v := 3) hx hb dX0_greatestDistance_5 (by decide) ?_
      refine lv_icmp_ge (tgt := 55) hx hb dX0_greatestDistance_6 (by decide) (fun c_5 => ?_) (fun c_5 => ?_)
      · have j_6 : 3 ≤ (y_3).toInt := (i_le (by decide) rfl).mp c_5
        refine lv_iload_n hx hb dX0_greatestDistance_55 rfl (lv_at hl 1 rfl) ?_
        exact ret y_2 v w sg _ _ _ _ dX0_greatestDistance_56 h ⟨trivial, rfl, rfl, rfl⟩
      · have j_6 : ¬ (3 ≤ (y_3).toInt) := fun q => c_5 ((i_le (by decide) rfl).mpr q)
        refine lv_aload_n hx hb dX0_greatestDistance_9 rfl (lv_at hl 0 rfl) ?_
        refine g_get (ci := 0) (x := .ref (G.2.2 (11))) C h 1 (by decide) rfl rfl hi0 5 (by decide) f32 rfl rfl dX0_greatestDistance_10 ?_
        refine lv_iload_n hx hb dX0_greatestDistance_13 rfl (lv_at hl 2 rfl) ?_
        refine g_iald C h 11 (by decide) (by decide) (n := 3) (by decide) (vp_of rfl (by omega) (by omega)) dX0_greatestDistance_14 ?_
        refine lv_topi (fun x_7 e_8 => ?_)
        refine lv_aload_n hx hb dX0_greatestDistance_15 rfl (lv_at hl 0 rfl) ?_
        refine lv_iload_n hx hb dX0_greatestDistance_16 rfl (lv_at hl 2 rfl) ?_
        refine lv_aload_n hx hb dX0_greatestDistance_17 rfl (lv_at hl 0 rfl) ?_
        refine g_get (ci := 0) (x := .ref (G.2.2 (10))) C h 1 (by decide) rfl rfl hi0 2 (by decide) f21 rfl rfl dX0_greatestDistance_18 ?_
        refine lv_iconst (v := 0) hx hb dX0_greatestDistance_21 (by decide) ?_
        refine g_iald C h 10 (by decide) (by decide) (n := 3) (by decide) (vp_of (I := 0) (by decide) (by decide) (by decide)) dX0_greatestDistance_22 ?_
        refine lv_topi (fun x_9 e_10 => ?_)
        refine lv_aload_n hx hb dX0_greatestDistance_23 rfl (lv_at hl 0 rfl) ?_
        refine g_get (ci := 0) (x := .ref (G.2.2 (10))) C h 1 (by decide) rfl rfl hi0 2 (by decide) f21 rfl rfl dX0_greatestDistance_24 ?_
        refine lv_iconst (v := 1) hx hb dX0_greatestDistance_27 (by decide) ?_
        refine g_iald C h 10 (by decide) (by decide) (n := 3) (by decide) (vp_of (I := 1) (by decide) (by decide) (by decide)) dX0_greatestDistance_28 ?_
        refine lv_topi (fun x_11 e_12 => ?_)
        refine lv_aload_n hx hb dX0_greatestDistance_29 rfl (lv_at hl 0 rfl) ?_
        refine g_get (ci := 0) (x := .ref (G.2.2 (10))) C h 1 (by decide) rfl rfl hi0 2 (by decide) f21 rfl rfl dX0_greatestDistance_30 ?_
        refine lv_iconst (v := 2) hx hb dX0_greatestDistance_33 (by decide) ?_
        refine g_iald C h 10 (by decide) (by decide) (n := 3) (by decide) (vp_of (I := 2) (by decide) (by decide) (by decide)) dX0_greatestDistance_34 ?_
        refine lv_topi (fun x_13 e_14 => ?_)
        refine g_calli C (va_runV (As := [.int (y_3), .int (x_9), .int (x_11), .int (x_13)]) (rest := [.int (x_7)]) C.1 (c_X0_readingOf l G v w sg y_3 (A1 := (y_3).toInt) rfl x_9 (A2 := (x_9).toInt) rfl x_11 (A3 := (x_11).toInt) rfl x_13 (A4 := (x_13).toInt) rfl (by omega) ci) (cwV 4 hts gX0_greatestDistance_X0_readingOf rfl rfl rfl (by decide +kernel) ⟨by rw [hR]; exact Nat.le_of_ble_eq_true rfl, by rw [hR]; exact Nat.le_of_ble_eq_true rfl⟩) ⟨gPre_blind, g_recv C h 1 (by decide) (ci := 0) rfl rfl, gS_pre C h _⟩ rfl rfl hl.1 rfl (lv_room (Nat.le_of_ble_eq_true rfl)) dX0_greatestDistance_35 ⟨Nat.zero_le _, Nat.zero_le _⟩) h (fun r_15 v_17 w_18 g_19 H locs p_16 h => ?_)
        obtain ⟨p_16, rfl, rfl, rfl⟩ := p_16
        refine lv_isub hx hb dX0_greatestDistance_38 ?_
        refine lv_topi (fun x_20 e_21 => ?_)
        refine va_mabs hx hb (C.1.2.2.1.trans hl.1.symm) hown (hts (.methodLink RX0 100 Lib.Math.abs.name) (by decide +kernel)) (hts (.static Lib.Math.abs.name) (by decide +kernel)) (hts (.initialized "java/lang/Math") (by decide +kernel)) (hts (.code Lib.Math.abs.name Lib.Math.abs.code 1 (some .int)) (by decide +kernel)) (by rw [hR]; exact Nat.le_of_ble_eq_true rfl) (by rw [hR]; exact Nat.le_of_ble_eq_true rfl) (Nat.zero_le _) (Nat.zero_le _) dX0_greatestDistance_39 ?_
        refine lv_topi (fun x_22 e_23 => ?_)
        refine lv_istore_n (lv' := [(3, .int (x_22)), (0, .ref (G.2.2 (1))), (1, .int (y_2)), (2, .int (y_3))]) hx hb dX0_greatestDistance_42 rfl hl (by decide) rfl (fun ls hl => ?_)
        refine lv_iload_n hx hb dX0_greatestDistance_43 rfl (lv_at hl 2 rfl) ?_
        refine lv_iload_n hx hb dX0_greatestDistance_44 rfl (lv_at hl 0 rfl) ?_
        refine va_mmax hx hb (C.1.2.2.1.trans hl.1.symm) hown (hts (.methodLink RX0 104 Lib.Math.max.name) (by decide +kernel)) (hts (.static Lib.Math.max.name) (by decide +kernel)) (hts (.initialized "java/lang/Math") (by decide +kernel)) (hts (.code Lib.Math.max.name Lib.Math.max.code 2 (some .int)) (by decide +kernel)) (by rw [hR]; exact Nat.le_of_ble_eq_true rfl) (by rw [hR]; exact Nat.le_of_ble_eq_true rfl) (Nat.zero_le _) (Nat.zero_le _) dX0_greatestDistance_45 ?_
        refine lv_topi (fun x_24 e_25 => ?_)
        refine lv_istore_n (lv' := [(1, .int (x_24)), (3, .int (x_22)), (0, .ref (G.2.2 (1))), (2, .int (y_3))]) hx hb dX0_greatestDistance_48 rfl hl (by decide) rfl (fun ls hl => ?_)
        obtain ⟨x_26, e_27⟩ : ∃ y : Int32, y = y_3 + 1 := ⟨_, rfl⟩
        have i_28 : x_26.toInt = (y_3).toInt + 1 := ia_add e_27 rfl (by decide) (by omega) (by omega)
        refine lv_iinc (v := x_26) (lv' := [(2, .int (x_26)), (1, .int (x_24)), (3, .int (x_22)), (0, .ref (G.2.2 (1)))]) hx hb dX0_greatestDistance_49 hl (k := 3) rfl (by rw [e_27]; rfl) (by decide) rfl (fun ls hl => ?_)
        refine lv_goto (tgt := 4) hx hb dX0_greatestDistance_52 (by decide) ?_
        exact ih4 x_24 x_26 _ _ _ (by omega) (by omega) h (lv_sub hl [3, 1, 0] rfl)
  refine lv_istore_n (lv' := [(2, .int (0)), (1, .int (0)), (0, .ref (G.2.2 (1)))]) hx hb dX0_greatestDistance_3 rfl hl (by decide) rfl (fun ls hl => ?_)
  exact J4_3 _ 0 0 _ _ _ (Nat.lt_succ_self _) (by omega) h (lv_sub hl [2, 1, 0] rfl)

set_option maxHeartbeats 4000000 in
set_option maxRecDepth 100000 in
theorem c_X0_goBack (l : Launch) (G : gG) (v : Nat → Nat → Int32) (w : Nat → Nat → Int64) (sg : Nat → Nat) (p1 : Int32) {A1 : Int} (a1 : p1.toInt = A1) (p2 : Int32) {A2 : Int} (a2 : p2.toInt = A2) (p3 : Int32) {A3 : Int} (a3 : p3.toInt = A3) (p4 : Int32) {A4 : Int} (a4 : p4.toInt = A4) (b4 : 1 ≤ A4 ∧ A4 ≤ 50) (ci : cI v) : Met l yX0_goBack wsX0_goBack ({ frames := 3, cells := 0, slots := 0, locals := 76 }) (gPre G v w sg [.ref (G.2.2 (1)), .int (p1), .int (p2), .int (p3), .int (p4)]) (gQi G (fun r v' w' sg' => (cI v' ∧ fC 1 18 v w v' w' ∧ fBk v v') ∧ sg = sg')) 0 0 (gA G) := by
  refine gM_ofi (cc := cX0_goBack) (maxL := 8) (by decide) rfl (Nat.le_of_ble_eq_true rfl) ?_
  intro p e R s m args below meth c Q ls C hR ret h hl
  have hx := C.1.1
  have hb := C.1.2.1
  have hown := C.1.2.2.2.1
  have hts := C.1.2.2.2.2
  have hl : lv_has ls 8 [(0, .ref (G.2.2 (1))), (1, .int (p1)), (2, .int (p2)), (3, .int (p3)), (4, .int (p4))] := hl
  have q1 := i_rng p1; rw [a1] at q1
  have q2 := i_rng p2; rw [a2] at q2
  have q3 := i_rng p3; rw [a3] at q3
  have q4 := i_rng p4; rw [a4] at q4
  have z_m2 : ((-2) : Int32).toInt = (-2) := by decide
  have z_m1 : ((-1) : Int32).toInt = (-1) := by decide
  have z_0 : (0 : Int32).toInt = 0 := by decide
  have z_1 : (1 : Int32).toInt = 1 := by decide
  have f38 : Cond.fieldLink RX0 38 "WindHall$Balance" "equations" "LWindHall$Equations;" ∈ wsX0_goBack := by decide +kernel
  have hi0 : ∀ x ∈ u_ws RX0 TX0 7, x ∈ wsX0_goBack := fun x q => List.mem_cons_of_mem _ (List.mem_append_left _ (List.mem_append_right _ q))
  have f32 : Cond.fieldLink RX0 32 "WindHall$Balance" "given" "[I" ∈ wsX0_goBack := by decide +kernel
  have f21 : Cond.fieldLink RX0 21 "WindHall$Balance" "load" "[I" ∈ wsX0_goBack := by decide +kernel
  have f24 : Cond.fieldLink RX0 24 "WindHall$Balance" "still" "Z" ∈ wsX0_goBack := by decide +kernel
  have f28 : Cond.fieldLink RX0 28 "WindHall$Balance" "away" "I" ∈ wsX0_goBack := by decide +kernel
  have k57 : (Cond.constantLong RX0 57 (100)).before args s = true := hts _ (by decide +kernel)
  have o_1 := ci
  obtain ⟨K1, K2, K3, K4, K5, K6, K7, Ks, K9, Ka, Kr, Kz⟩ := o_1
  refine lv_aload_n hx hb dX0_goBack_0 rfl (lv_at hl 0 rfl) ?_
  refine g_callv C (va_runV (As := []) (rest := []) C.1 (c_X0_setLeft l G v w sg  ci) (cwV 0 hts gX0_goBack_X0_setLeft rfl rfl rfl (by decide +kernel) ⟨by rw [hR]; exact Nat.le_of_ble_eq_true rfl, by rw [hR]; exact Nat.le_of_ble_eq_true rfl⟩) ⟨gPre_blind, g_recv C h 1 (by decide) (ci := 0) rfl rfl, gS_pre C h _⟩ rfl rfl hl.1 rfl (lv_room (Nat.le_of_ble_eq_true rfl)) dX0_goBack_1 ⟨Nat.zero_le _, Nat.zero_le _⟩) h (fun v_4 w_5 g_6 H locs p_3 h => ?_)
  obtain ⟨p_3, rfl, rfl⟩ := p_3
  have u_7 : cI v := p_3.1
  have u_8 : fC 1 18 v w v w_5 := fC_tr fC_rf (fC_le p_3.2.1 (by decide))
  have u_9 : fBk v v := fBk_rf
  have o_10 := u_7
  obtain ⟨K1, K2, K3, K4, K5, K6, K7, Ks, K9, Ka, Kr, Kz⟩ := o_10
  have hbl := p_3.2.2
  refine lv_aload_n hx hb dX0_goBack_4 rfl (lv_at hl 0 rfl) ?_
  refine g_get (ci := 0) (x := .ref (G.2.2 (12))) C h 1 (by decide) rfl rfl hi0 6 (by decide) f38 rfl rfl dX0_goBack_5 ?_
  refine lv_iconst (v := (-1)) hx hb dX0_goBack_8 (by decide) ?_
  refine g_calll C (va_runV (As := [.int ((-1))]) (rest := []) C.1 (c_X4_determinant_12 l G v w_5 sg ((-1)) (A1 := (-1)) (by decide) u_7) (cwV 1 hts gX0_goBack_X4_determinant rfl rfl rfl (by decide +kernel) ⟨by rw [hR]; exact Nat.le_of_ble_eq_true rfl, by rw [hR]; exact Nat.le_of_ble_eq_true rfl⟩) ⟨gPre_blind, g_recv C h 12 (by decide) (ci := 4) rfl rfl, gS_pre C h _⟩ rfl rfl hl.1 rfl (lv_room (Nat.le_of_ble_eq_true rfl)) dX0_goBack_9 ⟨Nat.zero_le _, Nat.zero_le _⟩) h (fun r_11 v_13 w_14 g_15 H locs p_12 h => ?_)
  obtain ⟨p_12, rfl, rfl, rfl⟩ := p_12
  have hdb := p_12 (by decide) hbl
  refine lv_lstore (lv' := [(5, .long (r_11)), (0, .ref (G.2.2 (1))), (1, .int (p1)), (2, .int (p2)), (3, .int (p3)), (4, .int (p4))]) hx hb dX0_goBack_12 hl (by decide) rfl (fun ls hl => ?_)
  refine lv_lload hx hb dX0_goBack_14 (lv_at hl 0 rfl) ?_
  refine lv_lconst (v := 0) hx hb dX0_goBack_16 (by decide) ?_
  refine W.lcmp hx hb dX0_goBack_17 ?_
  refine lv_if_ne (tgt := 24) hx hb dX0_goBack_18 (by decide) (fun c_16 => ?_) (fun c_16 => ?_)
  · have j_17 : ¬ ((r_11).toInt = 0) := fun q => c_16 ((l_eq0 rfl (by decide)).mpr q)
    refine lv_aload_n hx hb dX0_goBack_24 rfl (lv_at hl 1 rfl) ?_
    refine g_get (ci := 0) (x := .ref (G.2.2 (11))) C h 1 (by decide) rfl rfl hi0 5 (by decide) f32 rfl rfl dX0_goBack_25 ?_
    refine lv_iload_n hx hb dX0_goBack_28 rfl (lv_at hl 2 rfl) ?_
    refine lv_iload_n hx hb dX0_goBack_29 rfl (lv_at hl 3 rfl) ?_
    refine lv_iload_n hx hb dX0_goBack_30 rfl (lv_at hl 4 rfl) ?_
    refine g_callv C (va_runSN (As := [.ref (G.2.2 (11)), .int (p1), .int (p2), .int (p3)]) (rest := []) C.1 (c_X9_setRow l G v w_5 sg 11 p1 (A1 := A1) a1 p2 (A2 := A2) a2 p3 (A3 := A3) a3 (by decide) (by decide) (by decide)) ⟨va_cnB 4 hts ggX0_goBack_X9_setRow rfl rfl rfl C.2.1.2.1 (hts (.initialized RX9) (by decide +kernel)) (by decide +kernel) ⟨by rw [hR]; exact Nat.le_of_ble_eq_true rfl, by rw [hR]; exact Nat.le_of_ble_eq_true rfl⟩, (hts (.static yX9_setRow) (by decide +kernel)), trivial⟩ ⟨gPre_blind, gS_pre C h _⟩ rfl rfl hl.1 rfl (lv_room (Nat.le_of_ble_eq_true rfl)) dX0_goBack_31 ⟨Nat.zero_le _, Nat.zero_le _⟩) h (fun v_20 w_21 g_22 H locs p_19 h => ?_)
    obtain ⟨p_19, rfl, rfl⟩ := p_19
    obtain ⟨v_23, hv_23⟩ : ∃ z, z = gu v 11 0 p1 := ⟨_, rfl⟩
    have u_24 : cI v_23 := by rw [hv_23]; exact (cI_o u_7 (by decide))
    have u_25 : fC 1 18 v w v_23 w_5 := by rw [hv_23]; exact (fC_v u_8 (by decide))
    have u_26 : fBk v v_23 := by rw [hv_23]; exact (fBk_v u_9 (by decide))
    obtain ⟨v_27, hv_27⟩ : ∃ z, z = gu v_23 11 1 p2 := ⟨_, rfl⟩
    have u_28 : cI v_27 := by rw [hv_27]; exact (cI_o u_24 (by decide))
    have u_29 : fC 1 18 v w v_27 w_5 := by rw [hv_27]; exact (fC_v u_25 (by decide))
    have u_30 : fBk v v_27 := by rw [hv_27]; exact (fBk_v u_26 (by decide))
    have hv_20 : v_20 = gu v_27 11 2 p3 := by rw [hv_27, hv_23]; exact p_19
    have u_31 : cI v_20 := by rw [hv_20]; exact (cI_o u_28 (by decide))
    have u_32 : fC 1 18 v w v_20 w_5 := by rw [hv_20]; exact (fC_v u_29 (by decide))
    have u_33 : fBk v v_20 := by rw [hv_20]; exact (fBk_v u_30 (by decide))
    refine lv_aload_n hx hb dX0_goBack_34 rfl (lv_at hl 1 rfl) ?_
    refine g_get (ci := 0) (x := .ref (G.2.2 (10))) C h 1 (by decide) rfl rfl hi0 2 (by decide) f21 rfl rfl dX0_goBack_35 ?_
    refine lv_iconst (v := 0) hx hb dX0_goBack_38 (by decide) ?_
    refine lv_iconst (v := 0) hx hb dX0_goBack_39 (by decide) ?_
    refine lv_iconst (v := 0) hx hb dX0_goBack_40 (by decide) ?_
    refine g_callv C (va_runSN (As := [.ref (G.2.2 (10)), .int (0), .int (0), .int (0)]) (rest := []) C.1 (c_X9_setRow l G v_20 w_5 sg 10 (0) (A1 := 0) (by decide) (0) (A2 := 0) (by decide) (0) (A3 := 0) (by decide) (by decide) (by decide) (by decide)) ⟨va_cnB 4 hts ggX0_goBack_X9_setRow rfl rfl rfl C.2.1.2.1 (hts (.initialized RX9) (by decide +kernel)) (by decide +kernel) ⟨by rw [hR]; exact Nat.le_of_ble_eq_true rfl, by rw [hR]; exact Nat.le_of_ble_eq_true rfl⟩, (hts (.static yX9_setRow) (by decide +kernel)), trivial⟩ ⟨gPre_blind, gS_pre C h _⟩ rfl rfl hl.1 rfl (lv_room (Nat.le_of_ble_eq_true rfl)) dX0_goBack_41 ⟨Nat.zero_le _, Nat.zero_le _⟩) h (fun v_36 w_37 g_38 H locs p_35 h => ?_)
    obtain ⟨p_35, rfl, rfl⟩ := p_35
    obtain ⟨v_39, hv_39⟩ : ∃ z, z = gu v_20 10 0 0 := ⟨_, rfl⟩
    have u_40 : cI v_39 := by rw [hv_39]; exact (cI_o u_31 (by decide))
    have u_41 : fC 1 18 v w v_39 w_5 := by rw [hv_39]; exact (fC_v u_32 (by decide))
    have u_42 : fBk v v_39 := by rw [hv_39]; exact (fBk_v u_33 (by decide))
    obtain ⟨v_43, hv_43⟩ : ∃ z, z = gu v_39 10 1 0 := ⟨_, rfl⟩
    have u_44 : cI v_43 := by rw [hv_43]; exact (cI_o u_40 (by decide))
    have u_45 : fC 1 18 v w v_43 w_5 := by rw [hv_43]; exact (fC_v u_41 (by decide))
    have u_46 : fBk v v_43 := by rw [hv_43]; exact (fBk_v u_42 (by decide))
    have hv_36 : v_36 = gu v_43 10 2 0 := by rw [hv_43, hv_39]; exact p_35
    have u_47 : cI v_36 := by rw [hv_36]; exact (cI_o u_44 (by decide))
    have u_48 : fC 1 18 v w v_36 w_5 := by rw [hv_36]; exact (fC_v u_45 (by decide))
    have u_49 : fBk v v_36 := by rw [hv_36]; exact (fBk_v u_46 (by decide))
    refine lv_aload_n hx hb dX0_goBack_44 rfl (lv_at hl 1 rfl) ?_
    refine lv_iconst (v := 0) hx hb dX0_goBack_45 (by decide) ?_
    refine g_put (ci := 0) (x := 0) (ty := .boolean) C h 1 (by decide) rfl rfl hi0 tyX0 tyX0_ok nmX0 3 (by decide) f24 rfl rfl (by decide +kernel) rfl rfl (Nat.le_of_ble_eq_true rfl) rfl dX0_goBack_46 (fun H locs h => ?_)
    obtain ⟨v_50, hv_50⟩ : ∃ z, z = gu v_36 1 3 0 := ⟨_, rfl⟩
    have h : gS (gA G) G s v_50 w_5 sg H locs := by rw [hv_50]; exact h
    have u_51 : cI v_50 := by rw [hv_50]; exact (cI_o u_47 (by decide))
    have u_52 : fC 1 18 v w v_50 w_5 := by rw [hv_50]; exact (fC_v u_48 (by decide))
    have u_53 : fBk v v_50 := by rw [hv_50]; exact (fBk_v u_49 (by decide))
    refine lv_iconst (v := 0) hx hb dX0_goBack_49 (by decide) ?_
    have J52_56 : ∀ (n : Nat) (y_54 : Int32) (v_55 : Nat → Nat → Int32) (w_56 : Nat → Nat → Int64) (H : Heap) (locs : List Loc) (ls : Array Slot), (A4 - (y_54).toInt).toNat < n → (cI v_55) → (fC 1 18 v w v_55 w_56) → (fBk v v_55) → (0 ≤ (y_54).toInt ∧ (y_54).toInt ≤ A4) → gS (gA G) G s v_55 w_56 sg H locs → lv_has ls 8 [(0, .ref (G.2.2 (1))), (1, .int (p1)), (2, .int (p2)), (3, .int (p3)), (4, .int (p4)), (5, .long (r_11)), (7, .int (y_54))] → W p l e R s m args below meth c H locs 0 0 Q (F0 m 52 ls []) := by
      intro n
      induction n with
      | zero => intro y_54 v_55 w_56 H locs ls hm; exact absurd hm (Nat.not_lt_zero _)
      | succ n ih52 =>
        intro y_54 v_55 w_56 H locs ls hm u_57 u_58 u_59 f_60 h hl
        have o_61 := u_57
        obtain ⟨K1, K2, K3, K4, K5, K6, K7, Ks, K9, Ka, Kr, Kz⟩ := o_61
        refine lv_iload hx hb dX0_goBack_52 (lv_at hl 6 rfl) ?_
        refine lv_iload hx hb dX0_goBack_54 (lv_at hl 4 rfl) ?_
        have J94_61 : ∀ (H : Heap) (locs : List Loc) (ls : Array Slot), gS (gA G) G s v_55 w_56 sg H locs → lv_has ls 8 [(0, .ref (G.2.2 (1))), (1, .int (p1)), (2, .int (p2)), (3, .int (p3)), (4, .int (p4)), (5, .long (r_11)), (7, .int (y_54))] → W p l e R s m args below meth c H locs 0 0 Q (F0 m 94 ls []) := by
          intro  H locs ls  h hl
          refine lv_aload_n hx hb dX0_goBack_94 rfl (lv_at hl 0 rfl) ?_
          refine lv_aload_n hx hb dX0_goBack_95 rfl (lv_at hl 0 rfl) ?_
          refine g_calli C (va_runV (As := []) (rest := [.ref (G.2.2 (1))]) C.1 (c_X0_greatestDistance l G v_55 w_56 sg  u_57) (cwV 0 hts gX0_goBack_X0_greatestDistance rfl rfl rfl (by decide +kernel) ⟨by rw [hR]; exact Nat.le_of_ble_eq_true rfl, by rw [hR]; exact Nat.le_of_ble_eq_true rfl⟩) ⟨gPre_blind, g_recv C h 1 (by decide) (ci := 0) rfl rfl, gS_pre C h _⟩ rfl rfl hl.1 rfl (lv_room (Nat.le_of_ble_eq_true rfl)) dX0_goBack_96 ⟨Nat.zero_le _, Nat.zero_le _⟩) h (fun r_62 v_64 w_65 g_66 H locs p_63 h => ?_)
          obtain ⟨p_63, rfl, rfl, rfl⟩ := p_63
          refine g_put (ci := 0) (x := r_62) (ty := .int) C h 1 (by decide) rfl rfl hi0 tyX0 tyX0_ok nmX0 4 (by decide) f28 rfl rfl (by decide +kernel) rfl rfl (Nat.le_of_ble_eq_true rfl) rfl dX0_goBack_99 (fun H locs h => ?_)
          obtain ⟨v_67, hv_67⟩ : ∃ z, z = gu v_55 1 4 r_62 := ⟨_, rfl⟩
          have h : gS (gA G) G s v_67 w_56 sg H locs := by rw [hv_67]; exact h
          have u_68 : cI v_67 := by rw [hv_67]; exact (cI_o u_57 (by decide))
          have u_69 : fC 1 18 v w v_67 w_56 := by rw [hv_67]; exact (fC_v u_58 (by decide))
          have u_70 : fBk v v_67 := by rw [hv_67]; exact (fBk_v u_59 (by decide))
          refine lv_iload hx hb dX0_goBack_102 (lv_at hl 6 rfl) ?_
          exact ret y_54 v_67 w_56 sg _ _ _ _ dX0_goBack_104 h ⟨⟨u_68, u_69, u_70⟩, rfl⟩
        refine lv_icmp_ge (tgt := 94) hx hb dX0_goBack_56 (by decide) (fun c_71 => ?_) (fun c_71 => ?_)
        · have j_72 : A4 ≤ (y_54).toInt := (i_le a4 rfl).mp c_71
          exact J94_61  _ _ _  h (lv_sub hl [0, 1, 2, 3, 4, 5, 6] rfl)
        · have j_72 : ¬ (A4 ≤ (y_54).toInt) := fun q => c_71 ((i_le a4 rfl).mpr q)
          refine lv_aload_n hx hb dX0_goBack_59 rfl (lv_at hl 0 rfl) ?_
          refine g_geti (ci := 0) (x := v_55 1 3) C h 1 (by decide) rfl rfl hi0 3 (by decide) f24 rfl rfl rfl dX0_goBack_60 ?_
          refine lv_if_ne (tgt := 94) hx hb dX0_goBack_63 (by decide) (fun c_73 => ?_) (fun c_73 => ?_)
          · have j_74 : ¬ ((v_55 1 3).toInt = 0) := fun q => c_73 ((i_eq rfl (by decide)).mpr q)
            exact J94_61  _ _ _  h (lv_sub hl [0, 1, 2, 3, 4, 5, 6] rfl)
          · have j_74 : (v_55 1 3).toInt = 0 := (i_eq rfl (by decide)).mp c_73
            refine lv_aload_n hx hb dX0_goBack_66 rfl (lv_at hl 0 rfl) ?_
            refine lv_aload_n hx hb dX0_goBack_67 rfl (lv_at hl 0 rfl) ?_
            refine lv_ldc2 hx hb hown k57 dX0_goBack_68 ?_
            refine lv_lload hx hb dX0_goBack_71 (lv_at hl 5 rfl) ?_
            refine lv_lmul hx hb dX0_goBack_73 ?_
            refine lv_topl (fun x_75 e_76 => ?_)
            have i_77 : x_75.toInt = 100 * (r_11).toInt := la_mul e_76 (by decide) rfl (by omega) (by omega)
            refine g_calli C (va_runV (As := [.long (x_75)]) (rest := [.ref (G.2.2 (1))]) C.1 (c_X0_goRound l G v_55 w_56 sg x_75 (A1 := (100 * (r_11).toInt)) i_77 (by omega) u_57) (cwV 1 hts gX0_goBack_X0_goRound rfl rfl rfl (by decide +kernel) ⟨by rw [hR]; exact Nat.le_of_ble_eq_true rfl, by rw [hR]; exact Nat.le_of_ble_eq_true rfl⟩) ⟨gPre_blind, g_recv C h 1 (by decide) (ci := 0) rfl rfl, gS_pre C h _⟩ rfl rfl hl.1 rfl (lv_room (Nat.le_of_ble_eq_true rfl)) dX0_goBack_74 ⟨Nat.zero_le _, Nat.zero_le _⟩) h (fun r_78 v_80 w_81 g_82 H locs p_79 h => ?_)
            obtain ⟨p_79, rfl⟩ := p_79
            have u_83 : cI v_80 := p_79.1
            have u_84 : fC 1 18 v w v_80 w_81 := fC_tr u_58 (fC_le p_79.2.1 (by decide))
            have u_85 : fBk v v_80 := fBk_tr u_59 p_79.2.2.1
            have o_86 := u_83
            obtain ⟨K1, K2, K3, K4, K5, K6, K7, Ks, K9, Ka, Kr, Kz⟩ := o_86
            have J85_87 : ∀ (y_87 : Int32) (H : Heap) (locs : List Loc) (ls : Array Slot), ((y_87).toInt = 0 ∨ (y_87).toInt = 1) → gS (gA G) G s v_80 w_81 sg H locs → lv_has ls 8 [(0, .ref (G.2.2 (1))), (1, .int (p1)), (2, .int (p2)), (3, .int (p3)), (4, .int (p4)), (5, .long (r_11)), (7, .int (y_54))] → W p l e R s m args below meth c H locs 0 0 Q (F0 m 85 ls [.int (y_87), .ref (G.2.2 (1))]) := by
              intro y_87 H locs ls f_88 h hl
              refine g_put (ci := 0) (x := y_87) (ty := .boolean) C h 1 (by decide) rfl rfl hi0 tyX0 tyX0_ok nmX0 3 (by decide) f24 rfl rfl (by decide +kernel) (nb_of (by omega)) (fb_of (by omega)) (Nat.le_of_ble_eq_true rfl) rfl dX0_goBack_85 (fun H locs h => ?_)
              obtain ⟨v_89, hv_89⟩ : ∃ z, z = gu v_80 1 3 y_87 := ⟨_, rfl⟩
              have h : gS (gA G) G s v_89 w_81 sg H locs := by rw [hv_89]; exact h
              have u_90 : cI v_89 := by rw [hv_89]; exact (cI_o u_83 (by decide))
              have u_91 : fC 1 18 v w v_89 w_81 := by rw [hv_89]; exact (fC_v u_84 (by decide))
              have u_92 : fBk v v_89 := by rw [hv_89]; exact (fBk_v u_85 (by decide))
              obtain ⟨x_93, e_94⟩ : ∃ y : Int32, y = y_54 + 1 := ⟨_, rfl⟩
              have i_95 : x_93.toInt = (y_54).toInt + 1 := ia_add e_94 rfl (by decide) (by omega) (by omega)
              refine lv_iinc (v := x_93) (lv' := [(7, .int (x_93)), (0, .ref (G.2.2 (1))), (1, .int (p1)), (2, .int (p2)), (3, .int (p3)), (4, .int (p4)), (5, .long (r_11))]) hx hb dX0_goBack_88 hl (k := 6) rfl (by rw [e_94]; rfl) (by decide) rfl (fun ls hl => ?_)
              refine lv_goto (tgt := 52) hx hb dX0_goBack_91 (by decide) ?_
              exact ih52 x_93 v_89 w_81 _ _ _ (by omega) u_90 u_91 u_92 (by omega) h (lv_sub hl [1, 2, 3, 4, 5, 6, 0] rfl)
            refine lv_if_ne (tgt := 84) hx hb dX0_goBack_77 (by decide) (fun c_96 => ?_) (fun c_96 => ?_)
            · have j_97 : ¬ ((r_78).toInt = 0) := fun q => c_96 ((i_eq rfl (by decide)).mpr q)
              refine lv_iconst (v := 0) hx hb dX0_goBack_84 (by decide) ?_
              exact J85_87 0 _ _ _ (by omega) h (lv_sub hl [0, 1, 2, 3, 4, 5, 6] rfl)
            · have j_97 : (r_78).toInt = 0 := (i_eq rfl (by decide)).mp c_96
              refine lv_iconst (v := 1) hx hb dX0_goBack_80 (by decide) ?_
              refine lv_goto (tgt := 85) hx hb dX0_goBack_81 (by decide) ?_
              exact J85_87 1 _ _ _ (by omega) h (lv_sub hl [0, 1, 2, 3, 4, 5, 6] rfl)
    refine lv_istore (lv' := [(7, .int (0)), (5, .long (r_11)), (0, .ref (G.2.2 (1))), (1, .int (p1)), (2, .int (p2)), (3, .int (p3)), (4, .int (p4))]) hx hb dX0_goBack_50 hl (by decide) rfl (fun ls hl => ?_)
    exact J52_56 _ 0 v_50 w_5 _ _ _ (Nat.lt_succ_self _) u_51 u_52 u_53 (by omega) h (lv_sub hl [2, 3, 4, 5, 6, 1, 0] rfl)
  · have j_17 : (r_11).toInt = 0 := (l_eq0 rfl (by decide)).mp c_16
    refine lv_bipush (v := (-2)) hx hb dX0_goBack_21 (by decide) ?_
    exact ret (-2) v w_5 sg _ _ _ _ dX0_goBack_23 h ⟨⟨u_7, u_8, u_9⟩, rfl⟩

set_option maxHeartbeats 4000000 in
set_option maxRecDepth 100000 in
theorem c_X9_reading (l : Launch) (G : gG) (v : Nat → Nat → Int32) (w : Nat → Nat → Int64) (sg : Nat → Nat) (p1 : Int32) {A1 : Int} (a1 : p1.toInt = A1) (p2 : Int32) {A2 : Int} (a2 : p2.toInt = A2) (p3 : Int32) {A3 : Int} (a3 : p3.toInt = A3) (p4 : Int32) {A4 : Int} (a4 : p4.toInt = A4) (ci : cI v) : Met l yX9_reading wsX9_reading ({ frames := 2, cells := 0, slots := 0, locals := 50 }) (gPre G v w sg [.ref (G.2.2 (0)), .int (p1), .int (p2), .int (p3), .int (p4)]) (gQi G (fun r v' w' sg' => ((rF4 A1 A2 A3 A4 ∧ r = rd9 (v (3 + A1.toNat)) (v (7 + A1.toNat)) p2 p3 p4) ∨ (¬ rF4 A1 A2 A3 A4 ∧ r = 9999999)) ∧ v = v' ∧ w = w' ∧ sg = sg')) 0 0 (gA G) := by
  refine gM_ofi (cc := cX9_reading) (maxL := 5) (by decide) rfl (Nat.le_of_ble_eq_true rfl) ?_
  intro p e R s m args below meth c Q ls C hR ret h hl
  have hx := C.1.1
  have hb := C.1.2.1
  have hown := C.1.2.2.2.1
  have hts := C.1.2.2.2.2
  have hl : lv_has ls 5 [(0, .ref (G.2.2 (0))), (1, .int (p1)), (2, .int (p2)), (3, .int (p3)), (4, .int (p4))] := hl
  have q1 := i_rng p1; rw [a1] at q1
  have q2 := i_rng p2; rw [a2] at q2
  have q3 := i_rng p3; rw [a3] at q3
  have q4 := i_rng p4; rw [a4] at q4
  have z_0 : (0 : Int32).toInt = 0 := by decide
  have z_1 : (1 : Int32).toInt = 1 := by decide
  have z_3 : (3 : Int32).toInt = 3 := by decide
  have z_9999999 : (9999999 : Int32).toInt = 9999999 := by decide
  have f10 : Cond.fieldLink RX9 10 "WindHall" "balance" "LWindHall$Balance;" ∈ wsX9_reading := by decide +kernel
  have hi9 : ∀ x ∈ u_ws RX9 TX9 7, x ∈ wsX9_reading := fun x q => List.mem_cons_of_mem _ (List.mem_append_left _ (List.mem_append_right _ q))
  have k76 : (Cond.constant RX9 76 (9999999)).before args s = true := hts _ (by decide +kernel)
  have o_1 := ci
  obtain ⟨K1, K2, K3, K4, K5, K6, K7, Ks, K9, Ka, Kr, Kz⟩ := o_1
  refine lv_iload_n hx hb dX9_reading_0 rfl (lv_at hl 1 rfl) ?_
  refine lv_iconst (v := 3) hx hb dX9_reading_1 (by decide) ?_
  refine g_calli C (va_runS (As := [.int (p1), .int (3)]) (rest := []) C.1 (c_X9_isIndex l G v w sg p1 (A0 := A1) a1 (3) (A1 := 3) (by decide)) (va_cwS 2 hts gX9_reading_X9_isIndex rfl rfl rfl (by decide +kernel) ⟨by rw [hR]; exact Nat.le_of_ble_eq_true rfl, by rw [hR]; exact Nat.le_of_ble_eq_true rfl⟩) ⟨gPre_blind, gS_pre C h _⟩ rfl rfl hl.1 rfl (lv_room (Nat.le_of_ble_eq_true rfl)) dX9_reading_2 ⟨Nat.zero_le _, Nat.zero_le _⟩) h (fun r_2 v_4 w_5 g_6 H locs p_3 h => ?_)
  obtain ⟨p_3, rfl, rfl, rfl⟩ := p_3
  rcases p_3 with ⟨rfl, t_7⟩ | ⟨rfl, t_7⟩
  · skip
    refine lv_if_eq (tgt := 18) hx hb dX9_reading_5 (by decide) (fun c_8 => absurd c_8 (by decide)) (fun _ => ?_)
    refine lv_iload_n hx hb dX9_reading_8 rfl (lv_at hl 2 rfl) ?_
    refine lv_iload_n hx hb dX9_reading_9 rfl (lv_at hl 3 rfl) ?_
    refine lv_iload hx hb dX9_reading_10 (lv_at hl 4 rfl) ?_
    refine g_calli C (va_runS (As := [.int (p2), .int (p3), .int (p4)]) (rest := []) C.1 (c_X9_areLoads l G v w sg p2 (A0 := A2) a2 p3 (A1 := A3) a3 p4 (A2 := A4) a4) (va_cwS 3 hts gX9_reading_X9_areLoads rfl rfl rfl (by decide +kernel) ⟨by rw [hR]; exact Nat.le_of_ble_eq_true rfl, by rw [hR]; exact Nat.le_of_ble_eq_true rfl⟩) ⟨gPre_blind, gS_pre C h _⟩ rfl rfl hl.1 rfl (lv_room (Nat.le_of_ble_eq_true rfl)) dX9_reading_12 ⟨Nat.zero_le _, Nat.zero_le _⟩) h (fun r_9 v_11 w_12 g_13 H locs p_10 h => ?_)
    obtain ⟨p_10, rfl, rfl, rfl⟩ := p_10
    rcases p_10 with ⟨rfl, t_14⟩ | ⟨rfl, t_14⟩
    · skip
      refine lv_if_ne (tgt := 21) hx hb dX9_reading_15 (by decide) (fun _ => ?_) (fun c_15 => absurd c_15 (by decide))
      refine lv_aload_n hx hb dX9_reading_21 rfl (lv_at hl 0 rfl) ?_
      refine g_get (ci := 9) (x := .ref (G.2.2 (1))) C h 0 (by decide) rfl rfl hi9 0 (by decide) f10 rfl rfl dX9_reading_22 ?_
      refine lv_iload_n hx hb dX9_reading_25 rfl (lv_at hl 1 rfl) ?_
      refine lv_iload_n hx hb dX9_reading_26 rfl (lv_at hl 2 rfl) ?_
      refine lv_iload_n hx hb dX9_reading_27 rfl (lv_at hl 3 rfl) ?_
      refine lv_iload hx hb dX9_reading_28 (lv_at hl 4 rfl) ?_
      refine g_calli C (va_runV (As := [.int (p1), .int (p2), .int (p3), .int (p4)]) (rest := []) C.1 (c_X0_readingOf l G v w sg p1 (A1 := A1) a1 p2 (A2 := A2) a2 p3 (A3 := A3) a3 p4 (A4 := A4) a4 (by omega) ci) (cwV 4 hts gX9_reading_X0_readingOf rfl rfl rfl (by decide +kernel) ⟨by rw [hR]; exact Nat.le_of_ble_eq_true rfl, by rw [hR]; exact Nat.le_of_ble_eq_true rfl⟩) ⟨gPre_blind, g_recv C h 1 (by decide) (ci := 0) rfl rfl, gS_pre C h _⟩ rfl rfl hl.1 rfl (lv_room (Nat.le_of_ble_eq_true rfl)) dX9_reading_30 ⟨Nat.zero_le _, Nat.zero_le _⟩) h (fun r_16 v_18 w_19 g_20 H locs p_17 h => ?_)
      obtain ⟨p_17, rfl, rfl, rfl⟩ := p_17
      exact ret r_16 v w sg _ _ _ _ dX9_reading_33 h ⟨Or.inl ⟨by unfold rF4; omega, p_17⟩, rfl, rfl, rfl⟩
    · skip
      refine lv_if_ne (tgt := 21) hx hb dX9_reading_15 (by decide) (fun c_21 => absurd (by decide) c_21) (fun _ => ?_)
      refine lv_ldc hx hb hown k76 dX9_reading_18 ?_
      exact ret 9999999 v w sg _ _ _ _ dX9_reading_20 h ⟨Or.inr ⟨by unfold rF4; omega, rfl⟩, rfl, rfl, rfl⟩
  · skip
    refine lv_if_eq (tgt := 18) hx hb dX9_reading_5 (by decide) (fun _ => ?_) (fun c_22 => absurd (by decide) c_22)
    refine lv_ldc hx hb hown k76 dX9_reading_18 ?_
    exact ret 9999999 v w sg _ _ _ _ dX9_reading_20 h ⟨Or.inr ⟨by unfold rF4; omega, rfl⟩, rfl, rfl, rfl⟩

set_option maxHeartbeats 4000000 in
set_option maxRecDepth 100000 in
theorem c_X9_back (l : Launch) (G : gG) (v : Nat → Nat → Int32) (w : Nat → Nat → Int64) (sg : Nat → Nat) (p1 : Int32) {A1 : Int} (a1 : p1.toInt = A1) (p2 : Int32) {A2 : Int} (a2 : p2.toInt = A2) (p3 : Int32) {A3 : Int} (a3 : p3.toInt = A3) (p4 : Int32) {A4 : Int} (a4 : p4.toInt = A4) (ci : cI v) : Met l yX9_back wsX9_back ({ frames := 4, cells := 0, slots := 0, locals := 103 }) (gPre G v w sg [.ref (G.2.2 (0)), .int (p1), .int (p2), .int (p3), .int (p4)]) (gQi G (fun r v' w' sg' => (cI v' ∧ fC 1 18 v w v' w' ∧ fBk v v') ∧ sg = sg')) 0 0 (gA G) := by
  refine gM_ofi (cc := cX9_back) (maxL := 5) (by decide) rfl (Nat.le_of_ble_eq_true rfl) ?_
  intro p e R s m args below meth c Q ls C hR ret h hl
  have hx := C.1.1
  have hb := C.1.2.1
  have hown := C.1.2.2.2.1
  have hts := C.1.2.2.2.2
  have hl : lv_has ls 5 [(0, .ref (G.2.2 (0))), (1, .int (p1)), (2, .int (p2)), (3, .int (p3)), (4, .int (p4))] := hl
  have q1 := i_rng p1; rw [a1] at q1
  have q2 := i_rng p2; rw [a2] at q2
  have q3 := i_rng p3; rw [a3] at q3
  have q4 := i_rng p4; rw [a4] at q4
  have z_m1 : ((-1) : Int32).toInt = (-1) := by decide
  have z_0 : (0 : Int32).toInt = 0 := by decide
  have z_1 : (1 : Int32).toInt = 1 := by decide
  have z_50 : (50 : Int32).toInt = 50 := by decide
  have f10 : Cond.fieldLink RX9 10 "WindHall" "balance" "LWindHall$Balance;" ∈ wsX9_back := by decide +kernel
  have hi9 : ∀ x ∈ u_ws RX9 TX9 7, x ∈ wsX9_back := fun x q => List.mem_cons_of_mem _ (List.mem_append_left _ (List.mem_append_left _ (List.mem_append_right _ q)))
  have o_1 := ci
  obtain ⟨K1, K2, K3, K4, K5, K6, K7, Ks, K9, Ka, Kr, Kz⟩ := o_1
  refine lv_iload_n hx hb dX9_back_0 rfl (lv_at hl 1 rfl) ?_
  refine lv_iload_n hx hb dX9_back_1 rfl (lv_at hl 2 rfl) ?_
  refine lv_iload_n hx hb dX9_back_2 rfl (lv_at hl 3 rfl) ?_
  refine g_calli C (va_runS (As := [.int (p1), .int (p2), .int (p3)]) (rest := []) C.1 (c_X9_areReadings l G v w sg p1 (A0 := A1) a1 p2 (A1 := A2) a2 p3 (A2 := A3) a3) (va_cwS 3 hts gX9_back_X9_areReadings rfl rfl rfl (by decide +kernel) ⟨by rw [hR]; exact Nat.le_of_ble_eq_true rfl, by rw [hR]; exact Nat.le_of_ble_eq_true rfl⟩) ⟨gPre_blind, gS_pre C h _⟩ rfl rfl hl.1 rfl (lv_room (Nat.le_of_ble_eq_true rfl)) dX9_back_3 ⟨Nat.zero_le _, Nat.zero_le _⟩) h (fun r_2 v_4 w_5 g_6 H locs p_3 h => ?_)
  obtain ⟨p_3, rfl, rfl, rfl⟩ := p_3
  rcases p_3 with ⟨rfl, t_7⟩ | ⟨rfl, t_7⟩
  · skip
    refine lv_if_eq (tgt := 22) hx hb dX9_back_6 (by decide) (fun c_8 => absurd c_8 (by decide)) (fun _ => ?_)
    refine lv_iload hx hb dX9_back_9 (lv_at hl 4 rfl) ?_
    refine lv_iconst (v := 1) hx hb dX9_back_11 (by decide) ?_
    refine lv_icmp_lt (tgt := 22) hx hb dX9_back_12 (by decide) (fun c_9 => ?_) (fun c_9 => ?_)
    · have j_10 : A4 < 1 := (i_lt a4 (by decide)).mp c_9
      refine lv_iconst (v := (-1)) hx hb dX9_back_22 (by decide) ?_
      exact ret (-1) v w sg _ _ _ _ dX9_back_23 h ⟨⟨ci, fC_rf, fBk_rf⟩, rfl⟩
    · have j_10 : ¬ (A4 < 1) := fun q => c_9 ((i_lt a4 (by decide)).mpr q)
      refine lv_iload hx hb dX9_back_15 (lv_at hl 4 rfl) ?_
      refine lv_bipush (v := 50) hx hb dX9_back_17 (by decide) ?_
      refine lv_icmp_le (tgt := 24) hx hb dX9_back_19 (by decide) (fun c_11 => ?_) (fun c_11 => ?_)
      · have j_12 : A4 ≤ 50 := (i_le a4 (by decide)).mp c_11
        refine lv_aload_n hx hb dX9_back_24 rfl (lv_at hl 0 rfl) ?_
        refine g_get (ci := 9) (x := .ref (G.2.2 (1))) C h 0 (by decide) rfl rfl hi9 0 (by decide) f10 rfl rfl dX9_back_25 ?_
        refine lv_iload_n hx hb dX9_back_28 rfl (lv_at hl 1 rfl) ?_
        refine lv_iload_n hx hb dX9_back_29 rfl (lv_at hl 2 rfl) ?_
        refine lv_iload_n hx hb dX9_back_30 rfl (lv_at hl 3 rfl) ?_
        refine lv_iload hx hb dX9_back_31 (lv_at hl 4 rfl) ?_
        refine g_calli C (va_runV (As := [.int (p1), .int (p2), .int (p3), .int (p4)]) (rest := []) C.1 (c_X0_goBack l G v w sg p1 (A1 := A1) a1 p2 (A2 := A2) a2 p3 (A3 := A3) a3 p4 (A4 := A4) a4 (by omega) ci) (cwV 4 hts gX9_back_X0_goBack rfl rfl rfl (by decide +kernel) ⟨by rw [hR]; exact Nat.le_of_ble_eq_true rfl, by rw [hR]; exact Nat.le_of_ble_eq_true rfl⟩) ⟨gPre_blind, g_recv C h 1 (by decide) (ci := 0) rfl rfl, gS_pre C h _⟩ rfl rfl hl.1 rfl (lv_room (Nat.le_of_ble_eq_true rfl)) dX9_back_33 ⟨Nat.zero_le _, Nat.zero_le _⟩) h (fun r_13 v_15 w_16 g_17 H locs p_14 h => ?_)
        obtain ⟨p_14, rfl⟩ := p_14
        have u_18 : cI v_15 := p_14.1
        have u_19 : fC 1 18 v w v_15 w_16 := fC_tr fC_rf (fC_le p_14.2.1 (by decide))
        have u_20 : fBk v v_15 := fBk_tr fBk_rf p_14.2.2
        have o_21 := u_18
        obtain ⟨K1, K2, K3, K4, K5, K6, K7, Ks, K9, Ka, Kr, Kz⟩ := o_21
        exact ret r_13 v_15 w_16 sg _ _ _ _ dX9_back_36 h ⟨⟨u_18, u_19, u_20⟩, rfl⟩
      · have j_12 : ¬ (A4 ≤ 50) := fun q => c_11 ((i_le a4 (by decide)).mpr q)
        refine lv_iconst (v := (-1)) hx hb dX9_back_22 (by decide) ?_
        exact ret (-1) v w sg _ _ _ _ dX9_back_23 h ⟨⟨ci, fC_rf, fBk_rf⟩, rfl⟩
  · skip
    refine lv_if_eq (tgt := 22) hx hb dX9_back_6 (by decide) (fun _ => ?_) (fun c_22 => absurd (by decide) c_22)
    refine lv_iconst (v := (-1)) hx hb dX9_back_22 (by decide) ?_
    exact ret (-1) v w sg _ _ _ _ dX9_back_23 h ⟨⟨ci, fC_rf, fBk_rf⟩, rfl⟩
