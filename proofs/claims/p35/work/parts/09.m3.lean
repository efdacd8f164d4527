set_option maxHeartbeats 4000000 in
set_option maxRecDepth 100000 in
theorem c_X10_back (l : Launch) (G : gG) (v : Nat → Nat → Int32) (w : Nat → Nat → Int64) (sg : Nat → Nat) (p1 : Int32) {A1 : Int} (a1 : p1.toInt = A1) (p2 : Int32) {A2 : Int} (a2 : p2.toInt = A2) (p3 : Int32) {A3 : Int} (a3 : p3.toInt = A3) (p4 : Int32) {A4 : Int} (a4 : p4.toInt = A4) (m2 : sdM v) (mi : mI v) : Met l yX10_back wsX10_back ({ frames := 2, cells := 0, slots := 0, locals := 54 }) (gPre G v w sg [.ref (G.2.2 (106)), .int (p1), .int (p2), .int (p3), .int (p4)]) (gQi G (fun r v' w' sg' => (mI v' ∧ fM 109 112 5 7 v w v' w' ∧ ((¬ (rF25 A1 A2 A3 ∧ 1 ≤ A4 ∧ A4 ≤ 50) ∧ r = -1 ∧ v' = v) ∨ ((rF25 A1 A2 A3 ∧ 1 ≤ A4 ∧ A4 ≤ 50) ∧ (((detM v).toInt = 0 ∧ r = -2 ∧ v' = v) ∨ ((detM v).toInt ≠ 0 ∧ bkM v p1 p2 p3 A4 r.toInt v'))))) ∧ sg = sg')) 0 0 (gA G) := by
  refine gM_ofi (cc := cX10_back) (maxL := 14) (by decide) rfl (Nat.le_of_ble_eq_true rfl) ?_
  intro p e R s m args below meth c Q ls C hR ret h hl
  have hx := C.1.1
  have hb := C.1.2.1
  have hown := C.1.2.2.2.1
  have hts := C.1.2.2.2.2
  have hl : lv_has ls 14 [(0, .ref (G.2.2 (106))), (1, .int (p1)), (2, .int (p2)), (3, .int (p3)), (4, .int (p4))] := hl
  have q1 := i_rng p1; rw [a1] at q1
  have q2 := i_rng p2; rw [a2] at q2
  have q3 := i_rng p3; rw [a3] at q3
  have q4 := i_rng p4; rw [a4] at q4
  have z_m2 : ((-2) : Int32).toInt = (-2) := by decide
  have z_m1 : ((-1) : Int32).toInt = (-1) := by decide
  have z_0 : (0 : Int32).toInt = 0 := by decide
  have z_1 : (1 : Int32).toInt = 1 := by decide
  have z_2 : (2 : Int32).toInt = 2 := by decide
  have z_3 : (3 : Int32).toInt = 3 := by decide
  have z_9 : (9 : Int32).toInt = 9 := by decide
  have k120 : (Cond.constantLong RX10 120 (50)).before args s = true := hts _ (by decide +kernel)
  have f153 : Cond.fieldLink RX10 153 "WindHallModel" "still" "I" ∈ wsX10_back := by decide +kernel
  have hi10 : ∀ x ∈ u_ws RX10 TX10 42, x ∈ wsX10_back := fun x q => List.mem_cons_of_mem _ (List.mem_append_right _ q)
  have f164 : Cond.fieldLink RX10 164 "WindHallModel" "away" "I" ∈ wsX10_back := by decide +kernel
  have f23 : Cond.fieldLink RX10 23 "WindHallModel" "loads" "[I" ∈ wsX10_back := by decide +kernel
  have f20 : Cond.fieldLink RX10 20 "WindHallModel" "right" "[J" ∈ wsX10_back := by decide +kernel
  have f16 : Cond.fieldLink RX10 16 "WindHallModel" "m" "[J" ∈ wsX10_back := by decide +kernel
  have f7 : Cond.fieldLink RX10 7 "WindHallModel" "a" "[I" ∈ wsX10_back := by decide +kernel
  have o_1 := mi
  obtain ⟨I7, I10, I18, I22, I27, I29, I32, Is, I35, Ia, Iar, Isz, Ian⟩ := o_1
  have Ia0 := Ia
  refine lv_iload_n hx hb dX10_back_0 rfl (lv_at hl 1 rfl) ?_
  refine g_calli C (va_runS (As := [.int (p1)]) (rest := []) C.1 (c_X10_isReading l G v w sg p1 (A0 := A1) a1) (va_cwS 1 hts gX10_back_X10_isReading rfl rfl rfl (by decide +kernel) ⟨by rw [hR]; exact Nat.le_of_ble_eq_true rfl, by rw [hR]; exact Nat.le_of_ble_eq_true rfl⟩) ⟨gPre_blind, gS_pre C h _⟩ rfl rfl hl.1 rfl (lv_room (Nat.le_of_ble_eq_true rfl)) dX10_back_1 ⟨Nat.zero_le _, Nat.zero_le _⟩) h (fun r_2 v_4 w_5 g_6 H locs p_3 h => ?_)
  obtain ⟨p_3, rfl, rfl, rfl⟩ := p_3
  rcases p_3 with ⟨rfl, t_7⟩ | ⟨rfl, t_7⟩
  · skip
    refine lv_if_eq (tgt := 34) hx hb dX10_back_4 (by decide) (fun c_8 => absurd c_8 (by decide)) (fun _ => ?_)
    refine lv_iload_n hx hb dX10_back_7 rfl (lv_at hl 2 rfl) ?_
    refine g_calli C (va_runS (As := [.int (p2)]) (rest := []) C.1 (c_X10_isReading l G v w sg p2 (A0 := A2) a2) (va_cwS 1 hts gX10_back_X10_isReading rfl rfl rfl (by decide +kernel) ⟨by rw [hR]; exact Nat.le_of_ble_eq_true rfl, by rw [hR]; exact Nat.le_of_ble_eq_true rfl⟩) ⟨gPre_blind, gS_pre C h _⟩ rfl rfl hl.1 rfl (lv_room (Nat.le_of_ble_eq_true rfl)) dX10_back_8 ⟨Nat.zero_le _, Nat.zero_le _⟩) h (fun r_9 v_11 w_12 g_13 H locs p_10 h => ?_)
    obtain ⟨p_10, rfl, rfl, rfl⟩ := p_10
    rcases p_10 with ⟨rfl, t_14⟩ | ⟨rfl, t_14⟩
    · skip
      refine lv_if_eq (tgt := 34) hx hb dX10_back_11 (by decide) (fun c_15 => absurd c_15 (by decide)) (fun _ => ?_)
      refine lv_iload_n hx hb dX10_back_14 rfl (lv_at hl 3 rfl) ?_
      refine g_calli C (va_runS (As := [.int (p3)]) (rest := []) C.1 (c_X10_isReading l G v w sg p3 (A0 := A3) a3) (va_cwS 1 hts gX10_back_X10_isReading rfl rfl rfl (by decide +kernel) ⟨by rw [hR]; exact Nat.le_of_ble_eq_true rfl, by rw [hR]; exact Nat.le_of_ble_eq_true rfl⟩) ⟨gPre_blind, gS_pre C h _⟩ rfl rfl hl.1 rfl (lv_room (Nat.le_of_ble_eq_true rfl)) dX10_back_15 ⟨Nat.zero_le _, Nat.zero_le _⟩) h (fun r_16 v_18 w_19 g_20 H locs p_17 h => ?_)
      obtain ⟨p_17, rfl, rfl, rfl⟩ := p_17
      rcases p_17 with ⟨rfl, t_21⟩ | ⟨rfl, t_21⟩
      · skip
        refine lv_if_eq (tgt := 34) hx hb dX10_back_18 (by decide) (fun c_22 => absurd c_22 (by decide)) (fun _ => ?_)
        refine lv_iload hx hb dX10_back_21 (lv_at hl 4 rfl) ?_
        refine lv_i2l (v := (p4 : Int32).toInt64) hx hb dX10_back_23 rfl ?_
        refine lv_lconst (v := 1) hx hb dX10_back_24 (by decide) ?_
        refine lv_ldc2 hx hb hown k120 dX10_back_25 ?_
        refine g_calli C (va_runS (As := [.long ((p4 : Int32).toInt64), .long (1), .long (50)]) (rest := []) C.1 (c_X10_in l G v w sg ((p4 : Int32).toInt64) (A0 := A4) (il_of a4) (1) (A2 := 1) (by decide) (50) (A4 := 50) (by decide)) (va_cwS 3 hts gX10_back_X10_in rfl rfl rfl (by decide +kernel) ⟨by rw [hR]; exact Nat.le_of_ble_eq_true rfl, by rw [hR]; exact Nat.le_of_ble_eq_true rfl⟩) ⟨gPre_blind, gS_pre C h _⟩ rfl rfl hl.1 rfl (lv_room (Nat.le_of_ble_eq_true rfl)) dX10_back_28 ⟨Nat.zero_le _, Nat.zero_le _⟩) h (fun r_23 v_25 w_26 g_27 H locs p_24 h => ?_)
        obtain ⟨p_24, rfl, rfl, rfl⟩ := p_24
        rcases p_24 with ⟨rfl, t_28⟩ | ⟨rfl, t_28⟩
        · skip
          refine lv_if_ne (tgt := 36) hx hb dX10_back_31 (by decide) (fun _ => ?_) (fun c_29 => absurd c_29 (by decide))
          refine lv_iconst (v := 0) hx hb dX10_back_36 (by decide) ?_
          have J39_31 : ∀ (n : Nat) (y_30 : Int32) (w_31 : Nat → Nat → Int64) (H : Heap) (locs : List Loc) (ls : Array Slot), (9 - (y_30).toInt).toNat < n → (mI v) → (fM 109 112 5 7 v w v w_31) → (0 ≤ (y_30).toInt ∧ (y_30).toInt ≤ 9) → (∀ j : Nat, (j : Int) < (y_30).toInt → w_31 109 j = (v 107 j).toInt64) → gS (gA G) G s v w_31 sg H locs → lv_has ls 14 [(0, .ref (G.2.2 (106))), (1, .int (p1)), (2, .int (p2)), (3, .int (p3)), (4, .int (p4)), (5, .int (y_30))] → W p l e R s m args below meth c H locs 0 0 Q (F0 m 39 ls []) := by
            intro n
            induction n with
            | zero => intro y_30 w_31 H locs ls hm; exact absurd hm (Nat.not_lt_zero _)
            | succ n ih39 =>
              intro y_30 w_31 H locs ls hm u_32 u_33 f_34 f_35 h hl
              have o_36 := u_32
              obtain ⟨I7, I10, I18, I22, I27, I29, I32, Is, I35, Ia, Iar, Isz, Ian⟩ := o_36
              refine lv_iload hx hb dX10_back_39 (lv_at hl 5 rfl) ?_
              refine lv_bipush (v := 9) hx hb dX10_back_41 (by decide) ?_
              refine lv_icmp_ge (tgt := 67) hx hb dX10_back_43 (by decide) (fun c_37 => ?_) (fun c_37 => ?_)
              · have j_38 : 9 ≤ (y_30).toInt := (i_le (by decide) rfl).mp c_37
                refine lv_aload_n hx hb dX10_back_67 rfl (lv_at hl 0 rfl) ?_
                refine g_calll C (va_runV (As := []) (rest := []) C.1 (c_X10_determinant l G v w_31 sg  u_32) (cwV 0 hts gX10_back_X10_determinant rfl rfl rfl (by decide +kernel) ⟨by rw [hR]; exact Nat.le_of_ble_eq_true rfl, by rw [hR]; exact Nat.le_of_ble_eq_true rfl⟩) ⟨gPre_blind, g_recv C h 106 (by decide) (ci := 10) rfl rfl, gS_pre C h _⟩ rfl rfl hl.1 rfl (lv_room (Nat.le_of_ble_eq_true rfl)) dX10_back_68 ⟨Nat.zero_le _, Nat.zero_le _⟩) h (fun r_39 v_41 w_42 g_43 H locs p_40 h => ?_)
                obtain ⟨p_40, rfl, rfl, rfl⟩ := p_40
                have hd : -6000000 ≤ (r_39).toInt ∧ (r_39).toInt ≤ 6000000 := by rw [p_40]; exact detB (fun i hi => by rw [f_35 i (by omega), il_of rfl]; exact Ia i hi)
                have hdM : (r_39).toInt = (detM v).toInt := by rw [p_40, det_eq (f := w_31 109) (t := fun i j => (v 107 (3 * i + j)).toInt64) (fun i j hi hj => f_35 (3 * i + j) (by omega))]; rfl
                refine lv_lstore (lv' := [(5, .long (r_39)), (0, .ref (G.2.2 (106))), (1, .int (p1)), (2, .int (p2)), (3, .int (p3)), (4, .int (p4))]) hx hb dX10_back_71 hl (by decide) rfl (fun ls hl => ?_)
                refine lv_lload hx hb dX10_back_73 (lv_at hl 0 rfl) ?_
                refine lv_lconst (v := 0) hx hb dX10_back_75 (by decide) ?_
                refine W.lcmp hx hb dX10_back_76 ?_
                refine lv_if_ne (tgt := 83) hx hb dX10_back_77 (by decide) (fun c_44 => ?_) (fun c_44 => ?_)
                · have j_45 : ¬ ((r_39).toInt = 0) := fun q => c_44 ((l_eq0 rfl (by decide)).mpr q)
                  refine lv_iconst (v := 0) hx hb dX10_back_83 (by decide) ?_
                  have J86_47 : ∀ (n : Nat) (y_46 : Int32) (v_47 : Nat → Nat → Int32) (H : Heap) (locs : List Loc) (ls : Array Slot), (3 - (y_46).toInt).toNat < n → (mI v_47) → (fM 109 112 5 7 v w v_47 w_31) → (0 ≤ (y_46).toInt ∧ (y_46).toInt ≤ 3) → (∀ j : Nat, (j : Int) < (y_46).toInt → v_47 111 j = 0) → gS (gA G) G s v_47 w_31 sg H locs → lv_has ls 14 [(0, .ref (G.2.2 (106))), (1, .int (p1)), (2, .int (p2)), (3, .int (p3)), (4, .int (p4)), (5, .long (r_39)), (7, .int (y_46))] → W p l e R s m args below meth c H locs 0 0 Q (F0 m 86 ls []) := by
                    intro n
                    induction n with
                    | zero => intro y_46 v_47 H locs ls hm; exact absurd hm (Nat.not_lt_zero _)
                    | succ n ih86 =>
                      intro y_46 v_47 H locs ls hm u_48 u_49 f_50 f_51 h hl
                      have o_52 := u_48
                      obtain ⟨I7, I10, I18, I22, I27, I29, I32, Is, I35, Ia, Iar, Isz, Ian⟩ := o_52
                      refine lv_iload hx hb dX10_back_86 (lv_at hl 6 rfl) ?_
                      refine lv_iconst (v := 3) hx hb dX10_back_88 (by decide) ?_
                      refine lv_icmp_ge (tgt := 106) hx hb dX10_back_89 (by decide) (fun c_53 => ?_) (fun c_53 => ?_)
                      · have j_54 : 3 ≤ (y_46).toInt := (i_le (by decide) rfl).mp c_53
                        refine lv_aload_n hx hb dX10_back_106 rfl (lv_at hl 0 rfl) ?_
                        refine lv_iconst (v := 0) hx hb dX10_back_107 (by decide) ?_
                        refine g_put (ci := 10) (x := 0) (ty := .int) C h 106 (by decide) rfl rfl hi10 tyX10 tyX10_ok nmX10 5 (by decide) f153 rfl rfl (by decide +kernel) rfl rfl (Nat.le_of_ble_eq_true rfl) rfl dX10_back_108 (fun H locs h => ?_)
                        obtain ⟨v_55, hv_55⟩ : ∃ z, z = gu v_47 106 5 0 := ⟨_, rfl⟩
                        have h : gS (gA G) G s v_55 w_31 sg H locs := by rw [hv_55]; exact h
                        have u_56 : mI v_55 := by rw [hv_55]; exact u_48
                        have u_57 : fM 109 112 5 7 v w v_55 w_31 := by rw [hv_55]; exact (fM_f u_49 (by decide))
                        have hl0 : ∀ j, j < 3 → v_55 111 j = 0 := fun j hj => by rw [hv_55, gu_o (by decide)]; exact f_51 j (by omega)
                        refine lv_iconst (v := 0) hx hb dX10_back_111 (by decide) ?_
                        have J114_60 : ∀ (n : Nat) (y_58 : Int32) (v_59 : Nat → Nat → Int32) (w_60 : Nat → Nat → Int64) (H : Heap) (locs : List Loc) (ls : Array Slot), (A4 - (y_58).toInt).toNat < n → (mI v_59) → (fM 109 112 5 7 v w v_59 w_60) → (0 ≤ (y_58).toInt ∧ (y_58).toInt ≤ A4) → (bkI (nlM v p1 p2 p3) (y_58).toInt (v_59 111) (v_59 106 5).toInt) → (lbM v_59) → (mfE v w_60) → gS (gA G) G s v_59 w_60 sg H locs → lv_has ls 14 [(0, .ref (G.2.2 (106))), (1, .int (p1)), (2, .int (p2)), (3, .int (p3)), (4, .int (p4)), (5, .long (r_39)), (7, .int (y_58))] → W p l e R s m args below meth c H locs 0 0 Q (F0 m 114 ls []) := by
                          intro n
                          induction n with
                          | zero => intro y_58 v_59 w_60 H locs ls hm; exact absurd hm (Nat.not_lt_zero _)
                          | succ n ih114 =>
                            intro y_58 v_59 w_60 H locs ls hm u_61 u_62 f_63 f_64 f_65 f_66 h hl
                            have o_67 := u_61
                            obtain ⟨I7, I10, I18, I22, I27, I29, I32, Is, I35, Ia, Iar, Isz, Ian⟩ := o_67
                            have h108 : v_59 108 = v 108 := u_62.1 108 (by decide) (by decide)
                            refine lv_aload_n hx hb dX10_back_114 rfl (lv_at hl 0 rfl) ?_
                            refine g_geti (ci := 10) (x := v_59 106 5) C h 106 (by decide) rfl rfl hi10 5 (by decide) f153 rfl rfl rfl dX10_back_115 ?_
                            have J318_67 : ∀ (H : Heap) (locs : List Loc) (ls : Array Slot), ((y_58).toInt = A4 ∨ (v_59 106 5).toInt = 1) → gS (gA G) G s v_59 w_60 sg H locs → lv_has ls 14 [(0, .ref (G.2.2 (106))), (1, .int (p1)), (2, .int (p2)), (3, .int (p3)), (4, .int (p4)), (5, .long (r_39)), (7, .int (y_58))] → W p l e R s m args below meth c H locs 0 0 Q (F0 m 318 ls []) := by
                              intro  H locs ls f_68 h hl
                              refine lv_aload_n hx hb dX10_back_318 rfl (lv_at hl 0 rfl) ?_
                              refine lv_iconst (v := 0) hx hb dX10_back_319 (by decide) ?_
                              refine g_put (ci := 10) (x := 0) (ty := .int) C h 106 (by decide) rfl rfl hi10 tyX10 tyX10_ok nmX10 6 (by decide) f164 rfl rfl (by decide +kernel) rfl rfl (Nat.le_of_ble_eq_true rfl) rfl dX10_back_320 (fun H locs h => ?_)
                              obtain ⟨v_69, hv_69⟩ : ∃ z, z = gu v_59 106 6 0 := ⟨_, rfl⟩
                              have h : gS (gA G) G s v_69 w_60 sg H locs := by rw [hv_69]; exact h
                              have u_70 : mI v_69 := by rw [hv_69]; exact u_61
                              have u_71 : fM 109 112 5 7 v w v_69 w_60 := by rw [hv_69]; exact (fM_f u_62 (by decide))
                              refine lv_iconst (v := 0) hx hb dX10_back_323 (by decide) ?_
                              have J326_73 : ∀ (n : Nat) (y_72 : Int32) (v_73 : Nat → Nat → Int32) (H : Heap) (locs : List Loc) (ls : Array Slot), (3 - (y_72).toInt).toNat < n → (mI v_73) → (fM 109 112 5 7 v w v_73 w_60) → (0 ≤ (y_72).toInt ∧ (y_72).toInt ≤ 3) → (v_73 111 = v_69 111) → (v_73 106 5 = v_69 106 5) → (v_73 106 6 = amN (dMo v p1 p2 p3 (v_69 111)) ((y_72).toInt).toNat) → gS (gA G) G s v_73 w_60 sg H locs → lv_has ls 14 [(0, .ref (G.2.2 (106))), (1, .int (p1)), (2, .int (p2)), (3, .int (p3)), (4, .int (p4)), (5, .long (r_39)), (7, .int (y_58)), (8, .int (y_72))] → W p l e R s m args below meth c H locs 0 0 Q (F0 m 326 ls []) := by
                                intro n
                                induction n with
                                | zero => intro y_72 v_73 H locs ls hm; exact absurd hm (Nat.not_lt_zero _)
                                | succ n ih326 =>
                                  intro y_72 v_73 H locs ls hm u_74 u_75 f_76 f_77 f_78 f_79 h hl
                                  have o_80 := u_74
                                  obtain ⟨I7, I10, I18, I22, I27, I29, I32, Is, I35, Ia, Iar, Isz, Ian⟩ := o_80
                                  have h107 : v_73 107 = v 107 := u_75.1 107 (by decide) (by decide)
                                  have h108 : v_73 108 = v 108 := u_75.1 108 (by decide) (by decide)
                                  refine lv_iload hx hb dX10_back_326 (lv_at hl 7 rfl) ?_
                                  refine lv_iconst (v := 3) hx hb dX10_back_328 (by decide) ?_
                                  refine lv_icmp_ge (tgt := 422) hx hb dX10_back_329 (by decide) (fun c_81 => ?_) (fun c_81 => ?_)
                                  · have j_82 : 3 ≤ (y_72).toInt := (i_le (by decide) rfl).mp c_81
                                    refine lv_iload hx hb dX10_back_422 (lv_at hl 6 rfl) ?_
                                    exact ret y_58 v_73 w_60 sg _ _ _ _ dX10_back_424 h ⟨⟨u_74, u_75, Or.inr ⟨by unfold rF25; omega, Or.inr ⟨by omega, by omega, (by rw [f_77, f_78, hv_69]; exact f_64), (by rw [f_78, hv_69]; exact f_68), (by rw [f_79, f_77, show ((y_72).toInt).toNat = 3 by omega])⟩⟩⟩, rfl⟩
                                  · have j_82 : ¬ (3 ≤ (y_72).toInt) := fun q => c_81 ((i_le (by decide) rfl).mpr q)
                                    refine lv_aload_n hx hb dX10_back_332 rfl (lv_at hl 0 rfl) ?_
                                    refine lv_iload hx hb dX10_back_333 (lv_at hl 7 rfl) ?_
                                    refine lv_aload_n hx hb dX10_back_335 rfl (lv_at hl 0 rfl) ?_
                                    refine g_get (ci := 10) (x := .ref (G.2.2 (111))) C h 106 (by decide) rfl rfl hi10 4 (by decide) f23 rfl rfl dX10_back_336 ?_
                                    refine lv_iconst (v := 0) hx hb dX10_back_339 (by decide) ?_
                                    refine g_iald C h 111 (by decide) (by decide) (n := 3) (by decide) (vp_of (I := 0) (by decide) (by decide) (by decide)) dX10_back_340 ?_
                                    refine lv_topi (fun x_83 e_84 => ?_)
                                    have hx340 : x_83 = v_69 111 0 := by rw [e_84, f_77]; rfl
                                    refine lv_aload_n hx hb dX10_back_341 rfl (lv_at hl 0 rfl) ?_
                                    refine g_get (ci := 10) (x := .ref (G.2.2 (111))) C h 106 (by decide) rfl rfl hi10 4 (by decide) f23 rfl rfl dX10_back_342 ?_
                                    refine lv_iconst (v := 1) hx hb dX10_back_345 (by decide) ?_
                                    refine g_iald C h 111 (by decide) (by decide) (n := 3) (by decide) (vp_of (I := 1) (by decide) (by decide) (by decide)) dX10_back_346 ?_
                                    refine lv_topi (fun x_85 e_86 => ?_)
                                    have hx346 : x_85 = v_69 111 1 := by rw [e_86, f_77]; rfl
                                    refine lv_aload_n hx hb dX10_back_347 rfl (lv_at hl 0 rfl) ?_
                                    refine g_get (ci := 10) (x := .ref (G.2.2 (111))) C h 106 (by decide) rfl rfl hi10 4 (by decide) f23 rfl rfl dX10_back_348 ?_
                                    refine lv_iconst (v := 2) hx hb dX10_back_351 (by decide) ?_
                                    refine g_iald C h 111 (by decide) (by decide) (n := 3) (by decide) (vp_of (I := 2) (by decide) (by decide) (by decide)) dX10_back_352 ?_
                                    refine lv_topi (fun x_87 e_88 => ?_)
                                    have hx352 : x_87 = v_69 111 2 := by rw [e_88, f_77]; rfl
                                    refine g_calli C (va_runV (As := [.int (y_72), .int (x_83), .int (x_85), .int (x_87)]) (rest := []) C.1 (c_X10_readingOf l G v_73 w_60 sg y_72 (A1 := (y_72).toInt) rfl x_83 (A2 := (x_83).toInt) rfl x_85 (A3 := (x_85).toInt) rfl x_87 (A4 := (x_87).toInt) rfl (by omega) u_74) (cwV 4 hts gX10_back_X10_readingOf rfl rfl rfl (by decide +kernel) ⟨by rw [hR]; exact Nat.le_of_ble_eq_true rfl, by rw [hR]; exact Nat.le_of_ble_eq_true rfl⟩) ⟨gPre_blind, g_recv C h 106 (by decide) (ci := 10) rfl rfl, gS_pre C h _⟩ rfl rfl hl.1 rfl (lv_room (Nat.le_of_ble_eq_true rfl)) dX10_back_353 ⟨Nat.zero_le _, Nat.zero_le _⟩) h (fun r_89 v_91 w_92 g_93 H locs p_90 h => ?_)
                                    obtain ⟨p_90, rfl, rfl, rfl⟩ := p_90
                                    have hrc : r_89 = rd9 (fun j => v 107 (3 * (y_72 : Int32).toInt.toNat + j)) (fun j => v 108 (6 * (y_72 : Int32).toInt.toNat + j)) (v_69 111 0) (v_69 111 1) (v_69 111 2) := by rw [p_90, hx340, hx346, hx352, h107, h108]
                                    refine lv_iload hx hb dX10_back_356 (lv_at hl 7 rfl) ?_
                                    have J376_94 : ∀ (y_94 : Int32) (H : Heap) (locs : List Loc) (ls : Array Slot), (y_94 = sel3 (y_72 : Int32).toInt.toNat p1 p2 p3) → gS (gA G) G s v_73 w_60 sg H locs → lv_has ls 14 [(0, .ref (G.2.2 (106))), (1, .int (p1)), (2, .int (p2)), (3, .int (p3)), (4, .int (p4)), (5, .long (r_39)), (7, .int (y_58)), (8, .int (y_72))] → W p l e R s m args below meth c H locs 0 0 Q (F0 m 376 ls [.int (y_94), .int (r_89)]) := by
                                      intro y_94 H locs ls f_95 h hl
                                      refine lv_isub hx hb dX10_back_376 ?_
                                      refine lv_topi (fun x_96 e_97 => ?_)
                                      have hs377 : x_96 = dMo v p1 p2 p3 (v_69 111) (y_72 : Int32).toInt.toNat := by rw [e_97, f_95, hrc]; rfl
                                      refine lv_istore (lv' := [(9, .int (x_96)), (0, .ref (G.2.2 (106))), (1, .int (p1)), (2, .int (p2)), (3, .int (p3)), (4, .int (p4)), (5, .long (r_39)), (7, .int (y_58)), (8, .int (y_72))]) hx hb dX10_back_377 hl (by decide) rfl (fun ls hl => ?_)
                                      refine lv_iload hx hb dX10_back_379 (lv_at hl 0 rfl) ?_
                                      have J392_98 : ∀ (y_98 : Int32) (H : Heap) (locs : List Loc) (ls : Array Slot), (y_98 = abM x_96) → gS (gA G) G s v_73 w_60 sg H locs → lv_has ls 14 [(0, .ref (G.2.2 (106))), (1, .int (p1)), (2, .int (p2)), (3, .int (p3)), (4, .int (p4)), (5, .long (r_39)), (7, .int (y_58)), (8, .int (y_72)), (9, .int (x_96))] → W p l e R s m args below meth c H locs 0 0 Q (F0 m 392 ls [.int (y_98)]) := by
                                        intro y_98 H locs ls f_99 h hl
                                        refine lv_istore (lv' := [(9, .int (y_98)), (0, .ref (G.2.2 (106))), (1, .int (p1)), (2, .int (p2)), (3, .int (p3)), (4, .int (p4)), (5, .long (r_39)), (7, .int (y_58)), (8, .int (y_72))]) hx hb dX10_back_392 hl (by decide) rfl (fun ls hl => ?_)
                                        refine lv_aload_n hx hb dX10_back_394 rfl (lv_at hl 1 rfl) ?_
                                        refine lv_iload hx hb dX10_back_395 (lv_at hl 0 rfl) ?_
                                        refine lv_aload_n hx hb dX10_back_397 rfl (lv_at hl 1 rfl) ?_
                                        refine g_geti (ci := 10) (x := v_73 106 6) C h 106 (by decide) rfl rfl hi10 6 (by decide) f164 rfl rfl rfl dX10_back_398 ?_
                                        have J413_100 : ∀ (y_100 : Int32) (H : Heap) (locs : List Loc) (ls : Array Slot), (y_100 = mxM (v_73 106 6) y_98) → gS (gA G) G s v_73 w_60 sg H locs → lv_has ls 14 [(0, .ref (G.2.2 (106))), (1, .int (p1)), (2, .int (p2)), (3, .int (p3)), (4, .int (p4)), (5, .long (r_39)), (7, .int (y_58)), (8, .int (y_72)), (9, .int (y_98))] → W p l e R s m args below meth c H locs 0 0 Q (F0 m 413 ls [.int (y_100), .ref (G.2.2 (106))]) := by
                                          intro y_100 H locs ls f_101 h hl
                                          refine g_put (ci := 10) (x := y_100) (ty := .int) C h 106 (by decide) rfl rfl hi10 tyX10 tyX10_ok nmX10 6 (by decide) f164 rfl rfl (by decide +kernel) rfl rfl (Nat.le_of_ble_eq_true rfl) rfl dX10_back_413 (fun H locs h => ?_)
                                          obtain ⟨v_102, hv_102⟩ : ∃ z, z = gu v_73 106 6 y_100 := ⟨_, rfl⟩
                                          have h : gS (gA G) G s v_102 w_60 sg H locs := by rw [hv_102]; exact h
                                          have u_103 : mI v_102 := by rw [hv_102]; exact u_74
                                          have u_104 : fM 109 112 5 7 v w v_102 w_60 := by rw [hv_102]; exact (fM_f u_75 (by decide))
                                          obtain ⟨x_105, e_106⟩ : ∃ y : Int32, y = y_72 + 1 := ⟨_, rfl⟩
                                          have i_107 : x_105.toInt = (y_72).toInt + 1 := ia_add e_106 rfl (by decide) (by omega) (by omega)
                                          refine lv_iinc (v := x_105) (lv' := [(8, .int (x_105)), (0, .ref (G.2.2 (106))), (1, .int (p1)), (2, .int (p2)), (3, .int (p3)), (4, .int (p4)), (5, .long (r_39)), (7, .int (y_58)), (9, .int (y_98))]) hx hb dX10_back_416 hl (k := 7) rfl (by rw [e_106]; rfl) (by decide) rfl (fun ls hl => ?_)
                                          refine lv_goto (tgt := 326) hx hb dX10_back_419 (by decide) ?_
                                          exact ih326 x_105 v_102 _ _ _ (by omega) u_103 u_104 (by omega) (by rw [hv_102, gu_o (by decide)]; exact f_77) (by rw [hv_102, gu_n (by decide)]; exact f_78) (am_st f_79 f_101 f_99 hs377 hv_102 (by omega) (by omega)) h (lv_sub hl [1, 2, 3, 4, 5, 6, 7, 0] rfl)
                                        refine lv_icmp_le (tgt := 409) hx hb dX10_back_401 (by decide) (fun c_108 => ?_) (fun c_108 => ?_)
                                        · have j_109 : (y_98).toInt ≤ (v_73 106 6).toInt := (i_le rfl rfl).mp c_108
                                          refine lv_aload_n hx hb dX10_back_409 rfl (lv_at hl 1 rfl) ?_
                                          refine g_geti (ci := 10) (x := v_73 106 6) C h 106 (by decide) rfl rfl hi10 6 (by decide) f164 rfl rfl rfl dX10_back_410 ?_
                                          exact J413_100 (v_73 106 6) _ _ _ (by unfold mxM; first | (rw [if_pos (by omega)]; done) | (rw [if_neg (by omega)]; done)) h (lv_sub hl [1, 2, 3, 4, 5, 6, 7, 8, 0] rfl)
                                        · have j_109 : ¬ ((y_98).toInt ≤ (v_73 106 6).toInt) := fun q => c_108 ((i_le rfl rfl).mpr q)
                                          refine lv_iload hx hb dX10_back_404 (lv_at hl 0 rfl) ?_
                                          refine lv_goto (tgt := 413) hx hb dX10_back_406 (by decide) ?_
                                          exact J413_100 y_98 _ _ _ (by unfold mxM; first | (rw [if_pos (by omega)]; done) | (rw [if_neg (by omega)]; done)) h (lv_sub hl [1, 2, 3, 4, 5, 6, 7, 8, 0] rfl)
                                      refine lv_if_ge (tgt := 390) hx hb dX10_back_381 (by decide) (fun c_110 => ?_) (fun c_110 => ?_)
                                      · have j_111 : 0 ≤ (x_96).toInt := (i_le (by decide) rfl).mp c_110
                                        refine lv_iload hx hb dX10_back_390 (lv_at hl 0 rfl) ?_
                                        exact J392_98 x_96 _ _ _ (by unfold abM; first | (rw [if_neg (by omega)]; done) | (rw [if_pos (by omega)]; assumption)) h (lv_sub hl [1, 2, 3, 4, 5, 6, 7, 8, 0] rfl)
                                      · have j_111 : ¬ (0 ≤ (x_96).toInt) := fun q => c_110 ((i_le (by decide) rfl).mpr q)
                                        refine lv_iload hx hb dX10_back_384 (lv_at hl 0 rfl) ?_
                                        refine lv_ineg hx hb dX10_back_386 ?_
                                        refine lv_topi (fun x_112 e_113 => ?_)
                                        refine lv_goto (tgt := 392) hx hb dX10_back_387 (by decide) ?_
                                        exact J392_98 x_112 _ _ _ (by unfold abM; first | (rw [if_neg (by omega)]; done) | (rw [if_pos (by omega)]; assumption)) h (lv_sub hl [1, 2, 3, 4, 5, 6, 7, 8, 0] rfl)
                                    refine lv_if_ne (tgt := 365) hx hb dX10_back_358 (by decide) (fun c_114 => ?_) (fun c_114 => ?_)
                                    · have j_115 : ¬ ((y_72).toInt = 0) := fun q => c_114 ((i_eq rfl (by decide)).mpr q)
                                      refine lv_iload hx hb dX10_back_365 (lv_at hl 7 rfl) ?_
                                      refine lv_iconst (v := 1) hx hb dX10_back_367 (by decide) ?_
                                      refine lv_icmp_ne (tgt := 375) hx hb dX10_back_368 (by decide) (fun c_116 => ?_) (fun c_116 => ?_)
                                      · have j_117 : ¬ ((y_72).toInt = 1) := fun q => c_116 ((i_eq rfl (by decide)).mpr q)
                                        refine lv_iload_n hx hb dX10_back_375 rfl (lv_at hl 3 rfl) ?_
                                        exact J376_94 p3 _ _ _ (by unfold sel3; first | (rw [if_pos (by omega)]; done) | (rw [if_neg (by omega), if_pos (by omega)]; done) | (rw [if_neg (by omega), if_neg (by omega)]; done)) h (lv_sub hl [0, 1, 2, 3, 4, 5, 6, 7] rfl)
                                      · have j_117 : (y_72).toInt = 1 := (i_eq rfl (by decide)).mp c_116
                                        refine lv_iload_n hx hb dX10_back_371 rfl (lv_at hl 2 rfl) ?_
                                        refine lv_goto (tgt := 376) hx hb dX10_back_372 (by decide) ?_
                                        exact J376_94 p2 _ _ _ (by unfold sel3; first | (rw [if_pos (by omega)]; done) | (rw [if_neg (by omega), if_pos (by omega)]; done) | (rw [if_neg (by omega), if_neg (by omega)]; done)) h (lv_sub hl [0, 1, 2, 3, 4, 5, 6, 7] rfl)
                                    · have j_115 : (y_72).toInt = 0 := (i_eq rfl (by decide)).mp c_114
                                      refine lv_iload_n hx hb dX10_back_361 rfl (lv_at hl 1 rfl) ?_
                                      refine lv_goto (tgt := 376) hx hb dX10_back_362 (by decide) ?_
                                      exact J376_94 p1 _ _ _ (by unfold sel3; first | (rw [if_pos (by omega)]; done) | (rw [if_neg (by omega), if_pos (by omega)]; done) | (rw [if_neg (by omega), if_neg (by omega)]; done)) h (lv_sub hl [0, 1, 2, 3, 4, 5, 6, 7] rfl)
                              refine lv_istore (lv' := [(8, .int (0)), (0, .ref (G.2.2 (106))), (1, .int (p1)), (2, .int (p2)), (3, .int (p3)), (4, .int (p4)), (5, .long (r_39)), (7, .int (y_58))]) hx hb dX10_back_324 hl (by decide) rfl (fun ls hl => ?_)
                              exact J326_73 _ 0 v_69 _ _ _ (Nat.lt_succ_self _) u_70 u_71 (by omega) rfl rfl (by rw [hv_69, gu_y]; rfl) h (lv_sub hl [1, 2, 3, 4, 5, 6, 7, 0] rfl)
                            refine lv_if_ne (tgt := 318) hx hb dX10_back_118 (by decide) (fun c_118 => ?_) (fun c_118 => ?_)
                            · have j_119 : ¬ ((v_59 106 5).toInt = 0) := fun q => c_118 ((i_eq rfl (by decide)).mpr q)
                              exact J318_67  _ _ _ (by first | exact Or.inl (by omega) | exact Or.inr (bkI_1 f_64 (by omega))) h (lv_sub hl [0, 1, 2, 3, 4, 5, 6] rfl)
                            · have j_119 : (v_59 106 5).toInt = 0 := (i_eq rfl (by decide)).mp c_118
                              refine lv_iload hx hb dX10_back_121 (lv_at hl 6 rfl) ?_
                              refine lv_iload hx hb dX10_back_123 (lv_at hl 4 rfl) ?_
                              refine lv_icmp_ge (tgt := 318) hx hb dX10_back_125 (by decide) (fun c_120 => ?_) (fun c_120 => ?_)
                              · have j_121 : A4 ≤ (y_58).toInt := (i_le a4 rfl).mp c_120
                                exact J318_67  _ _ _ (by first | exact Or.inl (by omega) | exact Or.inr (bkI_1 f_64 (by omega))) h (lv_sub hl [0, 1, 2, 3, 4, 5, 6] rfl)
                              · have j_121 : ¬ (A4 ≤ (y_58).toInt) := fun q => c_120 ((i_le a4 rfl).mpr q)
                                refine lv_iconst (v := 0) hx hb dX10_back_128 (by decide) ?_
                                have J131_123 : ∀ (n : Nat) (y_122 : Int32) (w_123 : Nat → Nat → Int64) (H : Heap) (locs : List Loc) (ls : Array Slot), (3 - (y_122).toInt).toNat < n → (mI v_59) → (fM 109 112 5 7 v w v_59 w_123) → (0 ≤ (y_122).toInt ∧ (y_122).toInt ≤ 3) → (rtM v v_59 p1 p2 p3 w_123 (y_122).toInt) → (mfE v w_123) → gS (gA G) G s v_59 w_123 sg H locs → lv_has ls 14 [(0, .ref (G.2.2 (106))), (1, .int (p1)), (2, .int (p2)), (3, .int (p3)), (4, .int (p4)), (5, .long (r_39)), (7, .int (y_58)), (8, .int (y_122))] → W p l e R s m args below meth c H locs 0 0 Q (F0 m 131 ls []) := by
                                  intro n
                                  induction n with
                                  | zero => intro y_122 w_123 H locs ls hm; exact absurd hm (Nat.not_lt_zero _)
                                  | succ n ih131 =>
                                    intro y_122 w_123 H locs ls hm u_124 u_125 f_126 f_127 f_128 h hl
                                    have o_129 := u_124
                                    obtain ⟨I7, I10, I18, I22, I27, I29, I32, Is, I35, Ia, Iar, Isz, Ian⟩ := o_129
                                    refine lv_iload hx hb dX10_back_131 (lv_at hl 7 rfl) ?_
                                    refine lv_iconst (v := 3) hx hb dX10_back_133 (by decide) ?_
                                    refine lv_icmp_ge (tgt := 196) hx hb dX10_back_134 (by decide) (fun c_130 => ?_) (fun c_130 => ?_)
                                    · have j_131 : 3 ≤ (y_122).toInt := (i_le (by decide) rfl).mp c_130
                                      obtain ⟨W0, hW0⟩ : ∃ z, z = w_123 := ⟨_, rfl⟩
                                      have hrt : rtM v v_59 p1 p2 p3 W0 3 := by rw [hW0]; exact (show (y_122).toInt = 3 by omega) ▸ f_127
                                      have hm9 : mfE v W0 := by rw [hW0]; exact f_128
                                      have hB := dm_b Ia0 hm9 hrt m2 f_65 a1 a2 a3 (by unfold rF25; omega)
                                      refine lv_aload_n hx hb dX10_back_196 rfl (lv_at hl 0 rfl) ?_
                                      refine lv_iconst (v := 1) hx hb dX10_back_197 (by decide) ?_
                                      refine g_put (ci := 10) (x := 1) (ty := .int) C h 106 (by decide) rfl rfl hi10 tyX10 tyX10_ok nmX10 5 (by decide) f153 rfl rfl (by decide +kernel) rfl rfl (Nat.le_of_ble_eq_true rfl) rfl dX10_back_198 (fun H locs h => ?_)
                                      obtain ⟨v_132, hv_132⟩ : ∃ z, z = gu v_59 106 5 1 := ⟨_, rfl⟩
                                      have h : gS (gA G) G s v_132 w_123 sg H locs := by rw [hv_132]; exact h
                                      have u_133 : mI v_132 := by rw [hv_132]; exact u_124
                                      have u_134 : fM 109 112 5 7 v w v_132 w_123 := by rw [hv_132]; exact (fM_f u_125 (by decide))
                                      refine lv_aload_n hx hb dX10_back_201 rfl (lv_at hl 0 rfl) ?_
                                      refine lv_iconst (v := 0) hx hb dX10_back_202 (by decide) ?_
                                      refine g_calll C (va_runV (As := [.int (0)]) (rest := []) C.1 (c_X10_replaced l G v_132 w_123 sg (0) (A1 := 0) (by decide) (by omega) u_133) (cwV 1 hts gX10_back_X10_replaced rfl rfl rfl (by decide +kernel) ⟨by rw [hR]; exact Nat.le_of_ble_eq_true rfl, by rw [hR]; exact Nat.le_of_ble_eq_true rfl⟩) ⟨gPre_blind, g_recv C h 106 (by decide) (ci := 10) rfl rfl, gS_pre C h _⟩ rfl rfl hl.1 rfl (lv_room (Nat.le_of_ble_eq_true rfl)) dX10_back_203 ⟨Nat.zero_le _, Nat.zero_le _⟩) h (fun r_135 v_137 w_138 g_139 H locs p_136 h => ?_)
                                      obtain ⟨p_136, rfl, rfl⟩ := p_136
                                      have u_140 : mI v_132 := p_136.1
                                      have u_141 : fM 109 112 5 7 v w v_132 w_138 := fM_tr u_134 (fM_le p_136.2.1 (by decide))
                                      have o_142 := u_140
                                      obtain ⟨I7, I10, I18, I22, I27, I29, I32, Is, I35, Ia, Iar, Isz, Ian⟩ := o_142
                                      have hw0 : w_138 = W0 := p_136.2.2.1.trans hW0.symm
                                      have hd0 : r_135 = dsN (tmM W0 0) 3 := rpE rfl hW0 p_136.2.2.2
                                      have hB0 := hB 0 (by decide)
                                      rw [← hd0] at hB0
                                      unfold bdl at hB0
                                      refine lv_lload hx hb dX10_back_206 (lv_at hl 5 rfl) ?_
                                      refine g_calll C (va_runS (As := [.long (r_135), .long (r_39)]) (rest := []) C.1 (c_X10_nearest l G v_132 w_138 sg r_135 (A0 := (r_135).toInt) rfl r_39 (A2 := (r_39).toInt) rfl (by omega) (by omega)) (va_cwS 2 hts gX10_back_X10_nearest rfl rfl rfl (by decide +kernel) ⟨by rw [hR]; exact Nat.le_of_ble_eq_true rfl, by rw [hR]; exact Nat.le_of_ble_eq_true rfl⟩) ⟨gPre_blind, gS_pre C h _⟩ rfl rfl hl.1 rfl (lv_room (Nat.le_of_ble_eq_true rfl)) dX10_back_208 ⟨Nat.zero_le _, Nat.zero_le _⟩) h (fun r_143 v_145 w_146 g_147 H locs p_144 h => ?_)
                                      obtain ⟨p_144, rfl, rfl, rfl⟩ := p_144
                                      have hn0 : (r_143).toInt = nrI (dsN (tmM W0 0) 3).toInt (100 * (detM v).toInt) := by rw [p_144, hd0, hdM]
                                      have hc0 : -50 ≤ (r_143).toInt ∧ (r_143).toInt ≤ 50 := by rw [hn0]; exact nrI_b _ _
                                      refine lv_lstore (lv' := [(8, .long (r_143)), (0, .ref (G.2.2 (106))), (1, .int (p1)), (2, .int (p2)), (3, .int (p3)), (4, .int (p4)), (5, .long (r_39)), (7, .int (y_58))]) hx hb dX10_back_211 hl (by decide) rfl (fun ls hl => ?_)
                                      refine lv_aload_n hx hb dX10_back_213 rfl (lv_at hl 1 rfl) ?_
                                      refine lv_iconst (v := 1) hx hb dX10_back_214 (by decide) ?_
                                      refine g_calll C (va_runV (As := [.int (1)]) (rest := []) C.1 (c_X10_replaced l G v_132 w_138 sg (1) (A1 := 1) (by decide) (by omega) u_140) (cwV 1 hts gX10_back_X10_replaced rfl rfl rfl (by decide +kernel) ⟨by rw [hR]; exact Nat.le_of_ble_eq_true rfl, by rw [hR]; exact Nat.le_of_ble_eq_true rfl⟩) ⟨gPre_blind, g_recv C h 106 (by decide) (ci := 10) rfl rfl, gS_pre C h _⟩ rfl rfl hl.1 rfl (lv_room (Nat.le_of_ble_eq_true rfl)) dX10_back_215 ⟨Nat.zero_le _, Nat.zero_le _⟩) h (fun r_148 v_150 w_151 g_152 H locs p_149 h => ?_)
                                      obtain ⟨p_149, rfl, rfl⟩ := p_149
                                      have u_153 : mI v_132 := p_149.1
                                      have u_154 : fM 109 112 5 7 v w v_132 w_151 := fM_tr u_141 (fM_le p_149.2.1 (by decide))
                                      have o_155 := u_153
                                      obtain ⟨I7, I10, I18, I22, I27, I29, I32, Is, I35, Ia, Iar, Isz, Ian⟩ := o_155
                                      have hw1 : w_151 = W0 := p_149.2.2.1.trans hw0
                                      have hd1 : r_148 = dsN (tmM W0 1) 3 := rpE rfl hw0.symm p_149.2.2.2
                                      have hB1 := hB 1 (by decide)
                                      rw [← hd1] at hB1
                                      unfold bdl at hB1
                                      refine lv_lload hx hb dX10_back_218 (lv_at hl 6 rfl) ?_
                                      refine g_calll C (va_runS (As := [.long (r_148), .long (r_39)]) (rest := []) C.1 (c_X10_nearest l G v_132 w_151 sg r_148 (A0 := (r_148).toInt) rfl r_39 (A2 := (r_39).toInt) rfl (by omega) (by omega)) (va_cwS 2 hts gX10_back_X10_nearest rfl rfl rfl (by decide +kernel) ⟨by rw [hR]; exact Nat.le_of_ble_eq_true rfl, by rw [hR]; exact Nat.le_of_ble_eq_true rfl⟩) ⟨gPre_blind, gS_pre C h _⟩ rfl rfl hl.1 rfl (lv_room (Nat.le_of_ble_eq_true rfl)) dX10_back_220 ⟨Nat.zero_le _, Nat.zero_le _⟩) h (fun r_156 v_158 w_159 g_160 H locs p_157 h => ?_)
                                      obtain ⟨p_157, rfl, rfl, rfl⟩ := p_157
                                      have hn1 : (r_156).toInt = nrI (dsN (tmM W0 1) 3).toInt (100 * (detM v).toInt) := by rw [p_157, hd1, hdM]
                                      have hc1 : -50 ≤ (r_156).toInt ∧ (r_156).toInt ≤ 50 := by rw [hn1]; exact nrI_b _ _
                                      refine lv_lstore (lv' := [(10, .long (r_156)), (8, .long (r_143)), (0, .ref (G.2.2 (106))), (1, .int (p1)), (2, .int (p2)), (3, .int (p3)), (4, .int (p4)), (5, .long (r_39)), (7, .int (y_58))]) hx hb dX10_back_223 hl (by decide) rfl (fun ls hl => ?_)
                                      refine lv_aload_n hx hb dX10_back_225 rfl (lv_at hl 2 rfl) ?_
                                      refine lv_iconst (v := 2) hx hb dX10_back_226 (by decide) ?_
                                      refine g_calll C (va_runV (As := [.int (2)]) (rest := []) C.1 (c_X10_replaced l G v_132 w_151 sg (2) (A1 := 2) (by decide) (by omega) u_153) (cwV 1 hts gX10_back_X10_replaced rfl rfl rfl (by decide +kernel) ⟨by rw [hR]; exact Nat.le_of_ble_eq_true rfl, by rw [hR]; exact Nat.le_of_ble_eq_true rfl⟩) ⟨gPre_blind, g_recv C h 106 (by decide) (ci := 10) rfl rfl, gS_pre C h _⟩ rfl rfl hl.1 rfl (lv_room (Nat.le_of_ble_eq_true rfl)) dX10_back_227 ⟨Nat.zero_le _, Nat.zero_le _⟩) h (fun r_161 v_163 w_164 g_165 H locs p_162 h => ?_)
                                      obtain ⟨p_162, rfl, rfl⟩ := p_162
                                      have u_166 : mI v_132 := p_162.1
                                      have u_167 : fM 109 112 5 7 v w v_132 w_164 := fM_tr u_154 (fM_le p_162.2.1 (by decide))
                                      have o_168 := u_166
                                      obtain ⟨I7, I10, I18, I22, I27, I29, I32, Is, I35, Ia, Iar, Isz, Ian⟩ := o_168
                                      have hw2 : w_164 = W0 := p_162.2.2.1.trans hw1
                                      have hd2 : r_161 = dsN (tmM W0 2) 3 := rpE rfl hw1.symm p_162.2.2.2
                                      have hB2 := hB 2 (by decide)
                                      rw [← hd2] at hB2
                                      unfold bdl at hB2
                                      refine lv_lload hx hb dX10_back_230 (lv_at hl 7 rfl) ?_
                                      refine g_calll C (va_runS (As := [.long (r_161), .long (r_39)]) (rest := []) C.1 (c_X10_nearest l G v_132 w_164 sg r_161 (A0 := (r_161).toInt) rfl r_39 (A2 := (r_39).toInt) rfl (by omega) (by omega)) (va_cwS 2 hts gX10_back_X10_nearest rfl rfl rfl (by decide +kernel) ⟨by rw [hR]; exact Nat.le_of_ble_eq_true rfl, by rw [hR]; exact Nat.le_of_ble_eq_true rfl⟩) ⟨gPre_blind, gS_pre C h _⟩ rfl rfl hl.1 rfl (lv_room (Nat.le_of_ble_eq_true rfl)) dX10_back_232 ⟨Nat.zero_le _, Nat.zero_le _⟩) h (fun r_169 v_171 w_172 g_173 H locs p_170 h => ?_)
                                      obtain ⟨p_170, rfl, rfl, rfl⟩ := p_170
                                      have hn2 : (r_169).toInt = nrI (dsN (tmM W0 2) 3).toInt (100 * (detM v).toInt) := by rw [p_170, hd2, hdM]
                                      have hc2 : -50 ≤ (r_169).toInt ∧ (r_169).toInt ≤ 50 := by rw [hn2]; exact nrI_b _ _
                                      refine lv_lstore (lv' := [(12, .long (r_169)), (10, .long (r_156)), (8, .long (r_143)), (0, .ref (G.2.2 (106))), (1, .int (p1)), (2, .int (p2)), (3, .int (p3)), (4, .int (p4)), (5, .long (r_39)), (7, .int (y_58))]) hx hb dX10_back_235 hl (by decide) rfl (fun ls hl => ?_)
                                      refine lv_aload_n hx hb dX10_back_237 rfl (lv_at hl 3 rfl) ?_
                                      refine lv_lload hx hb dX10_back_238 (lv_at hl 2 rfl) ?_
                                      refine lv_aload_n hx hb dX10_back_240 rfl (lv_at hl 3 rfl) ?_
                                      refine g_get (ci := 10) (x := .ref (G.2.2 (111))) C h 106 (by decide) rfl rfl hi10 4 (by decide) f23 rfl rfl dX10_back_241 ?_
                                      refine lv_iconst (v := 0) hx hb dX10_back_244 (by decide) ?_
                                      refine g_iald C h 111 (by decide) (by decide) (n := 3) (by decide) (vp_of (I := 0) (by decide) (by decide) (by decide)) dX10_back_245 ?_
                                      refine lv_topi (fun x_174 e_175 => ?_)
                                      have hx245 : (x_174).toInt = (v_59 111 0).toInt := by rw [e_175, hv_132]; rfl
                                      have q_176 := i_rng x_174
                                      refine lv_i2l (v := (x_174 : Int32).toInt64) hx hb dX10_back_246 rfl ?_
                                      refine W.lcmp hx hb dX10_back_247 ?_
                                      have J282_177 : ∀ (y_177 : Int32) (H : Heap) (locs : List Loc) (ls : Array Slot), ((y_177).toInt = 0 ∨ (y_177).toInt = 1) → (((y_177).toInt = 1 ∧ ((r_143).toInt = (v_59 111 0).toInt ∧ (r_156).toInt = (v_59 111 1).toInt ∧ (r_169).toInt = (v_59 111 2).toInt)) ∨ ((y_177).toInt = 0 ∧ ¬ ((r_143).toInt = (v_59 111 0).toInt ∧ (r_156).toInt = (v_59 111 1).toInt ∧ (r_169).toInt = (v_59 111 2).toInt))) → gS (gA G) G s v_132 w_164 sg H locs → lv_has ls 14 [(0, .ref (G.2.2 (106))), (1, .int (p1)), (2, .int (p2)), (3, .int (p3)), (4, .int (p4)), (5, .long (r_39)), (7, .int (y_58)), (8, .long (r_143)), (10, .long (r_156)), (12, .long (r_169))] → W p l e R s m args below meth c H locs 0 0 Q (F0 m 282 ls [.int (y_177), .ref (G.2.2 (106))]) := by
                                        intro y_177 H locs ls f_178 f_179 h hl
                                        refine g_put (ci := 10) (x := y_177) (ty := .int) C h 106 (by decide) rfl rfl hi10 tyX10 tyX10_ok nmX10 5 (by decide) f153 rfl rfl (by decide +kernel) rfl rfl (Nat.le_of_ble_eq_true rfl) rfl dX10_back_282 (fun H locs h => ?_)
                                        obtain ⟨v_180, hv_180⟩ : ∃ z, z = gu v_132 106 5 y_177 := ⟨_, rfl⟩
                                        have h : gS (gA G) G s v_180 w_164 sg H locs := by rw [hv_180]; exact h
                                        have u_181 : mI v_180 := by rw [hv_180]; exact u_166
                                        have u_182 : fM 109 112 5 7 v w v_180 w_164 := by rw [hv_180]; exact (fM_f u_167 (by decide))
                                        refine lv_aload_n hx hb dX10_back_285 rfl (lv_at hl 0 rfl) ?_
                                        refine g_get (ci := 10) (x := .ref (G.2.2 (111))) C h 106 (by decide) rfl rfl hi10 4 (by decide) f23 rfl rfl dX10_back_286 ?_
                                        refine lv_iconst (v := 0) hx hb dX10_back_289 (by decide) ?_
                                        refine lv_lload hx hb dX10_back_290 (lv_at hl 7 rfl) ?_
                                        refine lv_l2i hx hb dX10_back_292 rfl ?_
                                        refine lv_topi (fun x_183 e_184 => ?_)
                                        have hl0_ := l2i_I e_184 rfl (by omega) (by omega)
                                        refine g_iast C h 111 (by decide) (by decide) (n := 3) (by decide) (vp_of (I := 0) (by decide) (by decide) (by decide)) dX10_back_293 (fun H locs h => ?_)
                                        obtain ⟨v_185, hv_185⟩ : ∃ z, z = gu v_180 111 0 x_183 := ⟨_, rfl⟩
                                        have h : gS (gA G) G s v_185 w_164 sg H locs := by rw [hv_185]; exact h
                                        have u_186 : mI v_185 := by rw [hv_185]; exact u_181
                                        have u_187 : fM 109 112 5 7 v w v_185 w_164 := by rw [hv_185]; exact (fM_v u_182 (by decide))
                                        refine lv_aload_n hx hb dX10_back_294 rfl (lv_at hl 0 rfl) ?_
                                        refine g_get (ci := 10) (x := .ref (G.2.2 (111))) C h 106 (by decide) rfl rfl hi10 4 (by decide) f23 rfl rfl dX10_back_295 ?_
                                        refine lv_iconst (v := 1) hx hb dX10_back_298 (by decide) ?_
                                        refine lv_lload hx hb dX10_back_299 (lv_at hl 8 rfl) ?_
                                        refine lv_l2i hx hb dX10_back_301 rfl ?_
                                        refine lv_topi (fun x_188 e_189 => ?_)
                                        have hl1_ := l2i_I e_189 rfl (by omega) (by omega)
                                        refine g_iast C h 111 (by decide) (by decide) (n := 3) (by decide) (vp_of (I := 1) (by decide) (by decide) (by decide)) dX10_back_302 (fun H locs h => ?_)
                                        obtain ⟨v_190, hv_190⟩ : ∃ z, z = gu v_185 111 1 x_188 := ⟨_, rfl⟩
                                        have h : gS (gA G) G s v_190 w_164 sg H locs := by rw [hv_190]; exact h
                                        have u_191 : mI v_190 := by rw [hv_190]; exact u_186
                                        have u_192 : fM 109 112 5 7 v w v_190 w_164 := by rw [hv_190]; exact (fM_v u_187 (by decide))
                                        refine lv_aload_n hx hb dX10_back_303 rfl (lv_at hl 0 rfl) ?_
                                        refine g_get (ci := 10) (x := .ref (G.2.2 (111))) C h 106 (by decide) rfl rfl hi10 4 (by decide) f23 rfl rfl dX10_back_304 ?_
                                        refine lv_iconst (v := 2) hx hb dX10_back_307 (by decide) ?_
                                        refine lv_lload hx hb dX10_back_308 (lv_at hl 9 rfl) ?_
                                        refine lv_l2i hx hb dX10_back_310 rfl ?_
                                        refine lv_topi (fun x_193 e_194 => ?_)
                                        have hl2_ := l2i_I e_194 rfl (by omega) (by omega)
                                        refine g_iast C h 111 (by decide) (by decide) (n := 3) (by decide) (vp_of (I := 2) (by decide) (by decide) (by decide)) dX10_back_311 (fun H locs h => ?_)
                                        obtain ⟨v_195, hv_195⟩ : ∃ z, z = gu v_190 111 2 x_193 := ⟨_, rfl⟩
                                        have h : gS (gA G) G s v_195 w_164 sg H locs := by rw [hv_195]; exact h
                                        have u_196 : mI v_195 := by rw [hv_195]; exact u_191
                                        have u_197 : fM 109 112 5 7 v w v_195 w_164 := by rw [hv_195]; exact (fM_v u_192 (by decide))
                                        obtain ⟨x_198, e_199⟩ : ∃ y : Int32, y = y_58 + 1 := ⟨_, rfl⟩
                                        have i_200 : x_198.toInt = (y_58).toInt + 1 := ia_add e_199 rfl (by decide) (by omega) (by omega)
                                        refine lv_iinc (v := x_198) (lv' := [(7, .int (x_198)), (0, .ref (G.2.2 (106))), (1, .int (p1)), (2, .int (p2)), (3, .int (p3)), (4, .int (p4)), (5, .long (r_39)), (8, .long (r_143)), (10, .long (r_156)), (12, .long (r_169))]) hx hb dX10_back_312 hl (k := 6) rfl (by rw [e_199]; rfl) (by decide) rfl (fun ls hl => ?_)
                                        refine lv_goto (tgt := 114) hx hb dX10_back_315 (by decide) ?_
                                        exact ih114 x_198 v_195 w_164 _ _ _ (by omega) u_196 u_197 (by omega) (bm_round (k' := (x_198 : Int32).toInt) (vm := v_195) (W0 := W0) (u := 1) f_64 (by omega) (by rw [hv_195, hv_190, hv_185, hv_180, hv_132]) hm9 hrt hl0_ hl1_ hl2_ hn0 hn1 hn2 f_179 (by omega) (by omega)).1 (bm_round (k' := (x_198 : Int32).toInt) (vm := v_195) (W0 := W0) (u := 1) f_64 (by omega) (by rw [hv_195, hv_190, hv_185, hv_180, hv_132]) hm9 hrt hl0_ hl1_ hl2_ hn0 hn1 hn2 f_179 (by omega) (by omega)).2 (by rw [hw2]; exact hm9) h (lv_sub hl [1, 2, 3, 4, 5, 6, 0] rfl)
                                      have J281_200 : ∀ (H : Heap) (locs : List Loc) (ls : Array Slot), (¬ ((r_143).toInt = (v_59 111 0).toInt ∧ (r_156).toInt = (v_59 111 1).toInt ∧ (r_169).toInt = (v_59 111 2).toInt)) → gS (gA G) G s v_132 w_164 sg H locs → lv_has ls 14 [(0, .ref (G.2.2 (106))), (1, .int (p1)), (2, .int (p2)), (3, .int (p3)), (4, .int (p4)), (5, .long (r_39)), (7, .int (y_58)), (8, .long (r_143)), (10, .long (r_156)), (12, .long (r_169))] → W p l e R s m args below meth c H locs 0 0 Q (F0 m 281 ls [.ref (G.2.2 (106))]) := by
                                        intro  H locs ls f_201 h hl
                                        refine lv_iconst (v := 0) hx hb dX10_back_281 (by decide) ?_
                                        exact J282_177 0 _ _ _ (by omega) (by omega) h (lv_sub hl [0, 1, 2, 3, 4, 5, 6, 7, 8, 9] rfl)
                                      refine lv_if_ne (tgt := 281) hx hb dX10_back_248 (by decide) (fun c_202 => ?_) (fun c_202 => ?_)
                                      · have j_203 : ¬ ((r_143).toInt = (x_174).toInt) := fun q => c_202 ((l_eq0 rfl (il_of rfl)).mpr q)
                                        exact J281_200  _ _ _ (by omega) h (lv_sub hl [3, 4, 5, 6, 7, 8, 9, 2, 1, 0] rfl)
                                      · have j_203 : (r_143).toInt = (x_174).toInt := (l_eq0 rfl (il_of rfl)).mp c_202
                                        refine lv_lload hx hb dX10_back_251 (lv_at hl 1 rfl) ?_
                                        refine lv_aload_n hx hb dX10_back_253 rfl (lv_at hl 3 rfl) ?_
                                        refine g_get (ci := 10) (x := .ref (G.2.2 (111))) C h 106 (by decide) rfl rfl hi10 4 (by decide) f23 rfl rfl dX10_back_254 ?_
                                        refine lv_iconst (v := 1) hx hb dX10_back_257 (by decide) ?_
                                        refine g_iald C h 111 (by decide) (by decide) (n := 3) (by decide) (vp_of (I := 1) (by decide) (by decide) (by decide)) dX10_back_258 ?_
                                        refine lv_topi (fun x_204 e_205 => ?_)
                                        have hx258 : (x_204).toInt = (v_59 111 1).toInt := by rw [e_205, hv_132]; rfl
                                        have q_206 := i_rng x_204
                                        refine lv_i2l (v := (x_204 : Int32).toInt64) hx hb dX10_back_259 rfl ?_
                                        refine W.lcmp hx hb dX10_back_260 ?_
                                        refine lv_if_ne (tgt := 281) hx hb dX10_back_261 (by decide) (fun c_207 => ?_) (fun c_207 => ?_)
                                        · have j_208 : ¬ ((r_156).toInt = (x_204).toInt) := fun q => c_207 ((l_eq0 rfl (il_of rfl)).mpr q)
                                          exact J281_200  _ _ _ (by omega) h (lv_sub hl [3, 4, 5, 6, 7, 8, 9, 2, 1, 0] rfl)
                                        · have j_208 : (r_156).toInt = (x_204).toInt := (l_eq0 rfl (il_of rfl)).mp c_207
                                          refine lv_lload hx hb dX10_back_264 (lv_at hl 0 rfl) ?_
                                          refine lv_aload_n hx hb dX10_back_266 rfl (lv_at hl 3 rfl) ?_
                                          refine g_get (ci := 10) (x := .ref (G.2.2 (111))) C h 106 (by decide) rfl rfl hi10 4 (by decide) f23 rfl rfl dX10_back_267 ?_
                                          refine lv_iconst (v := 2) hx hb dX10_back_270 (by decide) ?_
                                          refine g_iald C h 111 (by decide) (by decide) (n := 3) (by decide) (vp_of (I := 2) (by decide) (by decide) (by decide)) dX10_back_271 ?_
                                          refine lv_topi (fun x_209 e_210 => ?_)
                                          have hx271 : (x_209).toInt = (v_59 111 2).toInt := by rw [e_210, hv_132]; rfl
                                          have q_211 := i_rng x_209
                                          refine lv_i2l (v := (x_209 : Int32).toInt64) hx hb dX10_back_272 rfl ?_
                                          refine W.lcmp hx hb dX10_back_273 ?_
                                          refine lv_if_ne (tgt := 281) hx hb dX10_back_274 (by decide) (fun c_212 => ?_) (fun c_212 => ?_)
                                          · have j_213 : ¬ ((r_169).toInt = (x_209).toInt) := fun q => c_212 ((l_eq0 rfl (il_of rfl)).mpr q)
                                            exact J281_200  _ _ _ (by omega) h (lv_sub hl [3, 4, 5, 6, 7, 8, 9, 2, 1, 0] rfl)
                                          · have j_213 : (r_169).toInt = (x_209).toInt := (l_eq0 rfl (il_of rfl)).mp c_212
                                            refine lv_iconst (v := 1) hx hb dX10_back_277 (by decide) ?_
                                            refine lv_goto (tgt := 282) hx hb dX10_back_278 (by decide) ?_
                                            exact J282_177 1 _ _ _ (by omega) (by omega) h (lv_sub hl [3, 4, 5, 6, 7, 8, 9, 2, 1, 0] rfl)
                                    · have j_131 : ¬ (3 ≤ (y_122).toInt) := fun q => c_130 ((i_le (by decide) rfl).mpr q)
                                      refine lv_aload_n hx hb dX10_back_137 rfl (lv_at hl 0 rfl) ?_
                                      refine g_get (ci := 10) (x := .ref (G.2.2 (110))) C h 106 (by decide) rfl rfl hi10 3 (by decide) f20 rfl rfl dX10_back_138 ?_
                                      refine lv_iload hx hb dX10_back_141 (lv_at hl 7 rfl) ?_
                                      refine lv_iload hx hb dX10_back_143 (lv_at hl 7 rfl) ?_
                                      have J163_214 : ∀ (y_214 : Int32) (H : Heap) (locs : List Loc) (ls : Array Slot), (y_214 = sel3 (y_122 : Int32).toInt.toNat p1 p2 p3) → gS (gA G) G s v_59 w_123 sg H locs → lv_has ls 14 [(0, .ref (G.2.2 (106))), (1, .int (p1)), (2, .int (p2)), (3, .int (p3)), (4, .int (p4)), (5, .long (r_39)), (7, .int (y_58)), (8, .int (y_122))] → W p l e R s m args below meth c H locs 0 0 Q (F0 m 163 ls [.int (y_214), .int (y_122), .ref (G.2.2 (110))]) := by
                                        intro y_214 H locs ls f_215 h hl
                                        refine lv_aload_n hx hb dX10_back_163 rfl (lv_at hl 0 rfl) ?_
                                        refine lv_iload hx hb dX10_back_164 (lv_at hl 7 rfl) ?_
                                        refine lv_aload_n hx hb dX10_back_166 rfl (lv_at hl 0 rfl) ?_
                                        refine g_get (ci := 10) (x := .ref (G.2.2 (111))) C h 106 (by decide) rfl rfl hi10 4 (by decide) f23 rfl rfl dX10_back_167 ?_
                                        refine lv_iconst (v := 0) hx hb dX10_back_170 (by decide) ?_
                                        refine g_iald C h 111 (by decide) (by decide) (n := 3) (by decide) (vp_of (I := 0) (by decide) (by decide) (by decide)) dX10_back_171 ?_
                                        refine lv_topi (fun x_216 e_217 => ?_)
                                        have hx171 : x_216 = v_59 111 0 := e_217
                                        refine lv_aload_n hx hb dX10_back_172 rfl (lv_at hl 0 rfl) ?_
                                        refine g_get (ci := 10) (x := .ref (G.2.2 (111))) C h 106 (by decide) rfl rfl hi10 4 (by decide) f23 rfl rfl dX10_back_173 ?_
                                        refine lv_iconst (v := 1) hx hb dX10_back_176 (by decide) ?_
                                        refine g_iald C h 111 (by decide) (by decide) (n := 3) (by decide) (vp_of (I := 1) (by decide) (by decide) (by decide)) dX10_back_177 ?_
                                        refine lv_topi (fun x_218 e_219 => ?_)
                                        have hx177 : x_218 = v_59 111 1 := e_219
                                        refine lv_aload_n hx hb dX10_back_178 rfl (lv_at hl 0 rfl) ?_
                                        refine g_get (ci := 10) (x := .ref (G.2.2 (111))) C h 106 (by decide) rfl rfl hi10 4 (by decide) f23 rfl rfl dX10_back_179 ?_
                                        refine lv_iconst (v := 2) hx hb dX10_back_182 (by decide) ?_
                                        refine g_iald C h 111 (by decide) (by decide) (n := 3) (by decide) (vp_of (I := 2) (by decide) (by decide) (by decide)) dX10_back_183 ?_
                                        refine lv_topi (fun x_220 e_221 => ?_)
                                        have hx183 : x_220 = v_59 111 2 := e_221
                                        refine g_calli C (va_runV (As := [.int (y_122), .int (x_216), .int (x_218), .int (x_220)]) (rest := [.int (y_214), .int (y_122), .ref (G.2.2 (110))]) C.1 (c_X10_products l G v_59 w_123 sg y_122 (A1 := (y_122).toInt) rfl x_216 (A2 := (x_216).toInt) rfl x_218 (A3 := (x_218).toInt) rfl x_220 (A4 := (x_220).toInt) rfl (by omega) u_124) (cwV 4 hts gX10_back_X10_products rfl rfl rfl (by decide +kernel) ⟨by rw [hR]; exact Nat.le_of_ble_eq_true rfl, by rw [hR]; exact Nat.le_of_ble_eq_true rfl⟩) ⟨gPre_blind, g_recv C h 106 (by decide) (ci := 10) rfl rfl, gS_pre C h _⟩ rfl rfl hl.1 rfl (lv_room (Nat.le_of_ble_eq_true rfl)) dX10_back_184 ⟨Nat.zero_le _, Nat.zero_le _⟩) h (fun r_222 v_224 w_225 g_226 H locs p_223 h => ?_)
                                        obtain ⟨p_223, rfl, rfl, rfl⟩ := p_223
                                        have hpr : r_222 = pr6 (fun j => v 108 (6 * (y_122 : Int32).toInt.toNat + j)) (v_59 111 0) (v_59 111 1) (v_59 111 2) := by rw [p_223, hx171, hx177, hx183, h108]
                                        refine lv_isub hx hb dX10_back_187 ?_
                                        refine lv_topi (fun x_227 e_228 => ?_)
                                        have hs188 : x_227 = rmV v v_59 p1 p2 p3 (y_122 : Int32).toInt.toNat := by rw [e_228, f_215, hpr]; rfl
                                        have q_229 := i_rng x_227
                                        refine lv_i2l (v := (x_227 : Int32).toInt64) hx hb dX10_back_188 rfl ?_
                                        refine g_last C h 110 (by decide) (by decide) (n := 3) (by decide) (vp_of rfl (by omega) (by omega)) dX10_back_189 (fun H locs h => ?_)
                                        obtain ⟨w_230, hw_230⟩ : ∃ z, z = gul w_123 110 ((y_122 : Int32).toNatClampNeg) ((x_227 : Int32).toInt64) := ⟨_, rfl⟩
                                        have h : gS (gA G) G s v_59 w_230 sg H locs := by rw [hw_230]; exact h
                                        have u_231 : fM 109 112 5 7 v w v_59 w_230 := by rw [hw_230]; exact (fM_w u_125 (by decide))
                                        obtain ⟨x_232, e_233⟩ : ∃ y : Int32, y = y_122 + 1 := ⟨_, rfl⟩
                                        have i_234 : x_232.toInt = (y_122).toInt + 1 := ia_add e_233 rfl (by decide) (by omega) (by omega)
                                        refine lv_iinc (v := x_232) (lv' := [(8, .int (x_232)), (0, .ref (G.2.2 (106))), (1, .int (p1)), (2, .int (p2)), (3, .int (p3)), (4, .int (p4)), (5, .long (r_39)), (7, .int (y_58))]) hx hb dX10_back_190 hl (k := 7) rfl (by rw [e_233]; rfl) (by decide) rfl (fun ls hl => ?_)
                                        refine lv_goto (tgt := 131) hx hb dX10_back_193 (by decide) ?_
                                        exact ih131 x_232 w_230 _ _ _ (by omega) u_124 u_231 (by omega) (rm_st f_127 hw_230 rfl (by omega) (by omega) (congrArg Int32.toInt64 hs188)) (mfE_st f_128 hw_230) h (lv_sub hl [1, 2, 3, 4, 5, 6, 7, 0] rfl)
                                      refine lv_if_ne (tgt := 152) hx hb dX10_back_145 (by decide) (fun c_235 => ?_) (fun c_235 => ?_)
                                      · have j_236 : ¬ ((y_122).toInt = 0) := fun q => c_235 ((i_eq rfl (by decide)).mpr q)
                                        refine lv_iload hx hb dX10_back_152 (lv_at hl 7 rfl) ?_
                                        refine lv_iconst (v := 1) hx hb dX10_back_154 (by decide) ?_
                                        refine lv_icmp_ne (tgt := 162) hx hb dX10_back_155 (by decide) (fun c_237 => ?_) (fun c_237 => ?_)
                                        · have j_238 : ¬ ((y_122).toInt = 1) := fun q => c_237 ((i_eq rfl (by decide)).mpr q)
                                          refine lv_iload_n hx hb dX10_back_162 rfl (lv_at hl 3 rfl) ?_
                                          exact J163_214 p3 _ _ _ (by unfold sel3; first | (rw [if_pos (by omega)]; done) | (rw [if_neg (by omega), if_pos (by omega)]; done) | (rw [if_neg (by omega), if_neg (by omega)]; done)) h (lv_sub hl [0, 1, 2, 3, 4, 5, 6, 7] rfl)
                                        · have j_238 : (y_122).toInt = 1 := (i_eq rfl (by decide)).mp c_237
                                          refine lv_iload_n hx hb dX10_back_158 rfl (lv_at hl 2 rfl) ?_
                                          refine lv_goto (tgt := 163) hx hb dX10_back_159 (by decide) ?_
                                          exact J163_214 p2 _ _ _ (by unfold sel3; first | (rw [if_pos (by omega)]; done) | (rw [if_neg (by omega), if_pos (by omega)]; done) | (rw [if_neg (by omega), if_neg (by omega)]; done)) h (lv_sub hl [0, 1, 2, 3, 4, 5, 6, 7] rfl)
                                      · have j_236 : (y_122).toInt = 0 := (i_eq rfl (by decide)).mp c_235
                                        refine lv_iload_n hx hb dX10_back_148 rfl (lv_at hl 1 rfl) ?_
                                        refine lv_goto (tgt := 163) hx hb dX10_back_149 (by decide) ?_
                                        exact J163_214 p1 _ _ _ (by unfold sel3; first | (rw [if_pos (by omega)]; done) | (rw [if_neg (by omega), if_pos (by omega)]; done) | (rw [if_neg (by omega), if_neg (by omega)]; done)) h (lv_sub hl [0, 1, 2, 3, 4, 5, 6, 7] rfl)
                                refine lv_istore (lv' := [(8, .int (0)), (0, .ref (G.2.2 (106))), (1, .int (p1)), (2, .int (p2)), (3, .int (p3)), (4, .int (p4)), (5, .long (r_39)), (7, .int (y_58))]) hx hb dX10_back_129 hl (by decide) rfl (fun ls hl => ?_)
                                exact J131_123 _ 0 w_60 _ _ _ (Nat.lt_succ_self _) u_61 u_62 (by omega) rtM_0 f_66 h (lv_sub hl [1, 2, 3, 4, 5, 6, 7, 0] rfl)
                        refine lv_istore (lv' := [(7, .int (0)), (0, .ref (G.2.2 (106))), (1, .int (p1)), (2, .int (p2)), (3, .int (p3)), (4, .int (p4)), (5, .long (r_39))]) hx hb dX10_back_112 hl (by decide) rfl (fun ls hl => ?_)
                        exact J114_60 _ 0 v_55 w_31 _ _ _ (Nat.lt_succ_self _) u_56 u_57 (by omega) (bkI_0 (by decide) (by rw [hv_55, gu_y]; decide) hl0) (fun j hj => by rw [hl0 j hj]; exact ⟨by decide, by decide⟩) (fun j hj => f_35 j (by omega)) h (lv_sub hl [1, 2, 3, 4, 5, 6, 0] rfl)
                      · have j_54 : ¬ (3 ≤ (y_46).toInt) := fun q => c_53 ((i_le (by decide) rfl).mpr q)
                        refine lv_aload_n hx hb dX10_back_92 rfl (lv_at hl 0 rfl) ?_
                        refine g_get (ci := 10) (x := .ref (G.2.2 (111))) C h 106 (by decide) rfl rfl hi10 4 (by decide) f23 rfl rfl dX10_back_93 ?_
                        refine lv_iload hx hb dX10_back_96 (lv_at hl 6 rfl) ?_
                        refine lv_iconst (v := 0) hx hb dX10_back_98 (by decide) ?_
                        refine g_iast C h 111 (by decide) (by decide) (n := 3) (by decide) (vp_of rfl (by omega) (by omega)) dX10_back_99 (fun H locs h => ?_)
                        obtain ⟨v_239, hv_239⟩ : ∃ z, z = gu v_47 111 ((y_46 : Int32).toNatClampNeg) 0 := ⟨_, rfl⟩
                        have h : gS (gA G) G s v_239 w_31 sg H locs := by rw [hv_239]; exact h
                        have u_240 : mI v_239 := by rw [hv_239]; exact u_48
                        have u_241 : fM 109 112 5 7 v w v_239 w_31 := by rw [hv_239]; exact (fM_v u_49 (by decide))
                        obtain ⟨x_242, e_243⟩ : ∃ y : Int32, y = y_46 + 1 := ⟨_, rfl⟩
                        have i_244 : x_242.toInt = (y_46).toInt + 1 := ia_add e_243 rfl (by decide) (by omega) (by omega)
                        refine lv_iinc (v := x_242) (lv' := [(7, .int (x_242)), (0, .ref (G.2.2 (106))), (1, .int (p1)), (2, .int (p2)), (3, .int (p3)), (4, .int (p4)), (5, .long (r_39))]) hx hb dX10_back_100 hl (k := 6) rfl (by rw [e_243]; rfl) (by decide) rfl (fun ls hl => ?_)
                        refine lv_goto (tgt := 86) hx hb dX10_back_103 (by decide) ?_
                        exact ih86 x_242 v_239 _ _ _ (by omega) u_240 u_241 (by omega) (zr_st f_51 hv_239 rfl (by omega) (by omega)) h (lv_sub hl [1, 2, 3, 4, 5, 6, 0] rfl)
                  refine lv_istore (lv' := [(7, .int (0)), (5, .long (r_39)), (0, .ref (G.2.2 (106))), (1, .int (p1)), (2, .int (p2)), (3, .int (p3)), (4, .int (p4))]) hx hb dX10_back_84 hl (by decide) rfl (fun ls hl => ?_)
                  exact J86_47 _ 0 v _ _ _ (Nat.lt_succ_self _) u_32 u_33 (by omega) (fun j hj => by omega) h (lv_sub hl [2, 3, 4, 5, 6, 1, 0] rfl)
                · have j_45 : (r_39).toInt = 0 := (l_eq0 rfl (by decide)).mp c_44
                  refine lv_bipush (v := (-2)) hx hb dX10_back_80 (by decide) ?_
                  exact ret (-2) v w_31 sg _ _ _ _ dX10_back_82 h ⟨⟨u_32, u_33, Or.inr ⟨by unfold rF25; omega, Or.inl ⟨by omega, rfl, rfl⟩⟩⟩, rfl⟩
              · have j_38 : ¬ (9 ≤ (y_30).toInt) := fun q => c_37 ((i_le (by decide) rfl).mpr q)
                refine lv_aload_n hx hb dX10_back_46 rfl (lv_at hl 0 rfl) ?_
                refine g_get (ci := 10) (x := .ref (G.2.2 (109))) C h 106 (by decide) rfl rfl hi10 2 (by decide) f16 rfl rfl dX10_back_47 ?_
                refine lv_iload hx hb dX10_back_50 (lv_at hl 5 rfl) ?_
                refine lv_aload_n hx hb dX10_back_52 rfl (lv_at hl 0 rfl) ?_
                refine g_get (ci := 10) (x := .ref (G.2.2 (107))) C h 106 (by decide) rfl rfl hi10 0 (by decide) f7 rfl rfl dX10_back_53 ?_
                refine lv_iload hx hb dX10_back_56 (lv_at hl 5 rfl) ?_
                refine g_iald C h 107 (by decide) (by decide) (n := 9) (by decide) (vp_of rfl (by omega) (by omega)) dX10_back_58 ?_
                refine lv_topi (fun x_245 e_246 => ?_)
                have q_247 := i_rng x_245
                refine lv_i2l (v := (x_245 : Int32).toInt64) hx hb dX10_back_59 rfl ?_
                refine g_last C h 109 (by decide) (by decide) (n := 9) (by decide) (vp_of rfl (by omega) (by omega)) dX10_back_60 (fun H locs h => ?_)
                obtain ⟨w_248, hw_248⟩ : ∃ z, z = gul w_31 109 ((y_30 : Int32).toNatClampNeg) ((x_245 : Int32).toInt64) := ⟨_, rfl⟩
                have h : gS (gA G) G s v w_248 sg H locs := by rw [hw_248]; exact h
                have u_249 : fM 109 112 5 7 v w v w_248 := by rw [hw_248]; exact (fM_w u_33 (by decide))
                obtain ⟨x_250, e_251⟩ : ∃ y : Int32, y = y_30 + 1 := ⟨_, rfl⟩
                have i_252 : x_250.toInt = (y_30).toInt + 1 := ia_add e_251 rfl (by decide) (by omega) (by omega)
                refine lv_iinc (v := x_250) (lv' := [(5, .int (x_250)), (0, .ref (G.2.2 (106))), (1, .int (p1)), (2, .int (p2)), (3, .int (p3)), (4, .int (p4))]) hx hb dX10_back_61 hl (k := 5) rfl (by rw [e_251]; rfl) (by decide) rfl (fun ls hl => ?_)
                refine lv_goto (tgt := 39) hx hb dX10_back_64 (by decide) ?_
                exact ih39 x_250 w_248 _ _ _ (by omega) u_32 u_249 (by omega) (by rw [hw_248]; exact fill_w f_35 rfl (by omega) (by omega) (by subst_vars; rfl)) h (lv_sub hl [1, 2, 3, 4, 5, 0] rfl)
          refine lv_istore (lv' := [(5, .int (0)), (0, .ref (G.2.2 (106))), (1, .int (p1)), (2, .int (p2)), (3, .int (p3)), (4, .int (p4))]) hx hb dX10_back_37 hl (by decide) rfl (fun ls hl => ?_)
          exact J39_31 _ 0 w _ _ _ (Nat.lt_succ_self _) mi fM_rf (by omega) (by intro j hj; omega) h (lv_sub hl [1, 2, 3, 4, 5, 0] rfl)
        · skip
          refine lv_if_ne (tgt := 36) hx hb dX10_back_31 (by decide) (fun c_253 => absurd (by decide) c_253) (fun _ => ?_)
          refine lv_iconst (v := (-1)) hx hb dX10_back_34 (by decide) ?_
          exact ret (-1) v w sg _ _ _ _ dX10_back_35 h ⟨⟨mi, fM_rf, Or.inl ⟨by unfold rF25; omega, rfl, rfl⟩⟩, rfl⟩
      · skip
        refine lv_if_eq (tgt := 34) hx hb dX10_back_18 (by decide) (fun _ => ?_) (fun c_254 => absurd (by decide) c_254)
        refine lv_iconst (v := (-1)) hx hb dX10_back_34 (by decide) ?_
        exact ret (-1) v w sg _ _ _ _ dX10_back_35 h ⟨⟨mi, fM_rf, Or.inl ⟨by unfold rF25; omega, rfl, rfl⟩⟩, rfl⟩
    · skip
      refine lv_if_eq (tgt := 34) hx hb dX10_back_11 (by decide) (fun _ => ?_) (fun c_255 => absurd (by decide) c_255)
      refine lv_iconst (v := (-1)) hx hb dX10_back_34 (by decide) ?_
      exact ret (-1) v w sg _ _ _ _ dX10_back_35 h ⟨⟨mi, fM_rf, Or.inl ⟨by unfold rF25; omega, rfl, rfl⟩⟩, rfl⟩
  · skip
    refine lv_if_eq (tgt := 34) hx hb dX10_back_4 (by decide) (fun _ => ?_) (fun c_256 => absurd (by decide) c_256)
    refine lv_iconst (v := (-1)) hx hb dX10_back_34 (by decide) ?_
    exact ret (-1) v w sg _ _ _ _ dX10_back_35 h ⟨⟨mi, fM_rf, Or.inl ⟨by unfold rF25; omega, rfl, rfl⟩⟩, rfl⟩
