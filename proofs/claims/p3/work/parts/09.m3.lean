set_option maxHeartbeats 4000000 in
set_option maxRecDepth 100000 in
theorem c_X10_back (l : Launch) (G : gG) (v : Nat → Nat → Int32) (w : Nat → Nat → Int64) (sg : Nat → Nat) (p1 : Int32) {A1 : Int} (a1 : p1.toInt = A1) (p2 : Int32) {A2 : Int} (a2 : p2.toInt = A2) (p3 : Int32) {A3 : Int} (a3 : p3.toInt = A3) (p4 : Int32) {A4 : Int} (a4 : p4.toInt = A4) (mi : mI v) : Met l yX10_back wsX10_back ({ frames := 2, cells := 0, slots := 0, locals := 54 }) (gPre G v w sg [.ref (G.2.2 (106)), .int (p1), .int (p2), .int (p3), .int (p4)]) (gQi G (fun r v' w' sg' => (mI v' ∧ fM 109 112 5 7 v w v' w') ∧ sg = sg')) 0 0 (gA G) := by
  refine gM_ofi (cc := cX10_back) (maxL := 14) (by decide) rfl (Nat.le_of_ble_eq_true rfl) ?_
  intro p e R s m args below meth c Q ls C hR ret h hl
  have hx := C.1.1
  have hb := C.1.2.1
  have hown := C.1.2.2.2.1
  have hts := C.1.2.2.2.2
  have hl : lv_has ls 14 [(0, .ref (G.2.2 (106))), (1, .int (p1)), (2, .int (p2)), (3, .int (p3)), (4, .int (p4))] := hl
  have q1 := i_rng p1; rw [a1] at q1
  have q2 := i_rng p2; rw [a2] at q2
  have q3 := i_rng p3; rw [a3] at q3
  have q4 := i_rng p4; rw [a4] at q4
  have z_m2 : ((-2) : Int32).toInt = (-2) := by decide
  have z_m1 : ((-1) : Int32).toInt = (-1) := by decide
  have z_0 : (0 : Int32).toInt = 0 := by decide
  have z_1 : (1 : Int32).toInt = 1 := by decide
  have z_2 : (2 : Int32).toInt = 2 := by decide
  have z_3 : (3 : Int32).toInt = 3 := by decide
  have z_9 : (9 : Int32).toInt = 9 := by decide
  have k120 : (Cond.constantLong RX10 120 (50)).before args s = true := hts _ (by decide +kernel)
  have f153 : Cond.fieldLink RX10 153 "WindHallModel" "still" "I" ∈ wsX10_back := by decide +kernel
  have hi10 : ∀ x ∈ u_ws RX10 TX10 42, x ∈ wsX10_back := fun x q => List.mem_cons_of_mem _ (List.mem_append_right _ q)
  have f164 : Cond.fieldLink RX10 164 "WindHallModel" "away" "I" ∈ wsX10_back := by decide +kernel
  have f23 : Cond.fieldLink RX10 23 "WindHallModel" "loads" "[I" ∈ wsX10_back := by decide +kernel
  have f20 : Cond.fieldLink RX10 20 "WindHallModel" "right" "[J" ∈ wsX10_back := by decide +kernel
  have f16 : Cond.fieldLink RX10 16 "WindHallModel" "m" "[J" ∈ wsX10_back := by decide +kernel
  have f7 : Cond.fieldLink RX10 7 "WindHallModel" "a" "[I" ∈ wsX10_back := by decide +kernel
  have o_1 := mi
  obtain ⟨I7, I10, I18, I22, I27, I29, I32, Is, I35, Ia, Iar, Isz, Ian⟩ := o_1
  refine lv_iload_n hx hb dX10_back_0 rfl (lv_at hl 1 rfl) ?_
  refine g_calli C (va_runS (As := [.int (p1)]) (rest := []) C.1 (c_X10_isReading l G v w sg p1 (A0 := A1) a1) (va_cwS 1 hts gX10_back_X10_isReading rfl rfl rfl (by decide +kernel) ⟨by rw [hR]; exact Nat.le_of_ble_eq_true rfl, by rw [hR]; exact Nat.le_of_ble_eq_true rfl⟩) ⟨gPre_blind, gS_pre C h _⟩ rfl rfl hl.1 rfl (lv_room (Nat.le_of_ble_eq_true rfl)) dX10_back_1 ⟨Nat.zero_le _, Nat.zero_le _⟩) h (fun r_2 v_4 w_5 g_6 H locs p_3 h => ?_)
  obtain ⟨p_3, rfl, rfl, rfl⟩ := p_3
  rcases p_3 with ⟨rfl, t_7⟩ | ⟨rfl, t_7⟩
  · skip
    refine lv_if_eq (tgt := 34) hx hb dX10_back_4 (by decide) (fun c_8 => absurd c_8 (by decide)) (fun _ => ?_)
    refine lv_iload_n hx hb dX10_back_7 rfl (lv_at hl 2 rfl) ?_
    refine g_calli C (va_runS (As := [.int (p2)]) (rest := []) C.1 (c_X10_isReading l G v w sg p2 (A0 := A2) a2) (va_cwS 1 hts gX10_back_X10_isReading rfl rfl rfl (by decide +kernel) ⟨by rw [hR]; exact Nat.le_of_ble_eq_true rfl, by rw [hR]; exact Nat.le_of_ble_eq_true rfl⟩) ⟨gPre_blind, gS_pre C h _⟩ rfl rfl hl.1 rfl (lv_room (Nat.le_of_ble_eq_true rfl)) dX10_back_8 ⟨Nat.zero_le _, Nat.zero_le _⟩) h (fun r_9 v_11 w_12 g_13 H locs p_10 h => ?_)
    obtain ⟨p_10, rfl, rfl, rfl⟩ := p_10
    rcases p_10 with ⟨rfl, t_14⟩ | ⟨rfl, t_14⟩
    · skip
      refine lv_if_eq (tgt := 34) hx hb dX10_back_11 (by decide) (fun c_15 => absurd c_15 (by decide)) (fun _ => ?_)
      refine lv_iload_n hx hb dX10_back_14 rfl (lv_at hl 3 rfl) ?_
      refine g_calli C (va_runS (As := [.int (p3)]) (rest := []) C.1 (c_X10_isReading l G v w sg p3 (A0 := A3) a3) (va_cwS 1 hts gX10_back_X10_isReading rfl rfl rfl (by decide +kernel) ⟨by rw [hR]; exact Nat.le_of_ble_eq_true rfl, by rw [hR]; exact Nat.le_of_ble_eq_true rfl⟩) ⟨gPre_blind, gS_pre C h _⟩ rfl rfl hl.1 rfl (lv_room (Nat.le_of_ble_eq_true rfl)) dX10_back_15 ⟨Nat.zero_le _, Nat.zero_le _⟩) h (fun r_16 v_18 w_19 g_20 H locs p_17 h => ?_)
      obtain ⟨p_17, rfl, rfl, rfl⟩ := p_17
      rcases p_17 with ⟨rfl, t_21⟩ | ⟨rfl, t_21⟩
      · skip
        refine lv_if_eq (tgt := 34) hx hb dX10_back_18 (by decide) (fun c_22 => absurd c_22 (by decide)) (fun _ => ?_)
        refine lv_iload hx hb dX10_back_21 (lv_at hl 4 rfl) ?_
        refine lv_i2l (v := (p4 : Int32).toInt64) hx hb dX10_back_23 rfl ?_
        refine lv_lconst (v := 1) hx hb dX10_back_24 (by decide) ?_
        refine lv_ldc2 hx hb hown k120 dX10_back_25 ?_
        refine g_calli C (va_runS (As := [.long ((p4 : Int32).toInt64), .long (1), .long (50)]) (rest := []) C.1 (c_X10_in l G v w sg ((p4 : Int32).toInt64) (A0 := A4) (il_of a4) (1) (A2 := 1) (by decide) (50) (A4 := 50) (by decide)) (va_cwS 3 hts gX10_back_X10_in rfl rfl rfl (by decide +kernel) ⟨by rw [hR]; exact Nat.le_of_ble_eq_true rfl, by rw [hR]; exact Nat.le_of_ble_eq_true rfl⟩) ⟨gPre_blind, gS_pre C h _⟩ rfl rfl hl.1 rfl (lv_room (Nat.le_of_ble_eq_true rfl)) dX10_back_28 ⟨Nat.zero_le _, Nat.zero_le _⟩) h (fun r_23 v_25 w_26 g_27 H locs p_24 h => ?_)
        obtain ⟨p_24, rfl, rfl, rfl⟩ := p_24
        rcases p_24 with ⟨rfl, t_28⟩ | ⟨rfl, t_28⟩
        · skip
          refine lv_if_ne (tgt := 36) hx hb dX10_back_31 (by decide) (fun _ => ?_) (fun c_29 => absurd c_29 (by decide))
          refine lv_iconst (v := 0) hx hb dX10_back_36 (by decide) ?_
          have J39_31 : ∀ (n : Nat) (y_30 : Int32) (w_31 : Nat → Nat → Int64) (H : Heap) (locs : List Loc) (ls : Array Slot), (9 - (y_30).toInt).toNat < n → (mI v) → (fM 109 112 5 7 v w v w_31) → (0 ≤ (y_30).toInt ∧ (y_30).toInt ≤ 9) → (∀ j : Nat, (j : Int) < (y_30).toInt → w_31 109 j = (v 107 j).toInt64) → gS (gA G) G s v w_31 sg H locs → lv_has ls 14 [(0, .ref (G.2.2 (106))), (1, .int (p1)), (2, .int (p2)), (3, .int (p3)), (4, .int (p4)), (5, .int (y_30))] → W p l e R s m args below meth c H locs 0 0 Q (F0 m 39 ls []) := by
            intro n
            induction n with
            | zero => intro y_30 w_31 H locs ls hm; exact absurd hm (Nat.not_lt_zero _)
            | succ n ih39 =>
              intro y_30 w_31 H locs ls hm u_32 u_33 f_34 f_35 h hl
              have o_36 := u_32
              obtain ⟨I7, I10, I18, I22, I27, I29, I32, Is, I35, Ia, Iar, Isz, Ian⟩ := o_36
              refine lv_iload hx hb dX10_back_39 (lv_at hl 5 rfl) ?_
              refine lv_bipush (v := 9) hx hb dX10_back_41 (by decide) ?_
              refine lv_icmp_ge (tgt := 67) hx hb dX10_back_43 (by decide) (fun c_37 => ?_) (fun c_37 => ?_)
              · have j_38 : 9 ≤ (y_30).toInt := (i_le (by decide) rfl).mp c_37
                refine lv_aload_n hx hb dX10_back_67 rfl (lv_at hl 0 rfl) ?_
                refine g_calll C (va_runV (As := []) (rest := []) C.1 (c_X10_determinant l G v w_31 sg  u_32) (cwV 0 hts gX10_back_X10_determinant rfl rfl rfl (by decide +kernel) ⟨by rw [hR]; exact Nat.le_of_ble_eq_true rfl, by rw [hR]; exact Nat.le_of_ble_eq_true rfl⟩) ⟨gPre_blind, g_recv C h 106 (by decide) (ci := 10) rfl rfl, gS_pre C h _⟩ rfl rfl hl.1 rfl (lv_room (Nat.le_of_ble_eq_true rfl)) dX10_back_68 ⟨Nat.zero_le _, Nat.zero_le _⟩) h (fun r_39 v_41 w_42 g_43 H locs p_40 h => ?_)
                obtain ⟨p_40, rfl, rfl, rfl⟩ := p_40
                have hd : -6000000 ≤ (r_39).toInt ∧ (r_39).toInt ≤ 6000000 := by rw [p_40]; exact detB (fun i hi => by rw [f_35 i (by omega), il_of rfl]; exact Ia i hi)
                refine lv_lstore (lv' := [(5, .long (r_39)), (0, .ref (G.2.2 (106))), (1, .int (p1)), (2, .int (p2)), (3, .int (p3)), (4, .int (p4))]) hx hb dX10_back_71 hl (by decide) rfl (fun ls hl => ?_)
                refine lv_lload hx hb dX10_back_73 (lv_at hl 0 rfl) ?_
                refine lv_lconst (v := 0) hx hb dX10_back_75 (by decide) ?_
                refine W.lcmp hx hb dX10_back_76 ?_
                refine lv_if_ne (tgt := 83) hx hb dX10_back_77 (by decide) (fun c_44 => ?_) (fun c_44 => ?_)
                · have j_45 : ¬ ((r_39).toInt = 0) := fun q => c_44 ((l_eq0 rfl (by decide)).mpr q)
                  refine lv_iconst (v := 0) hx hb dX10_back_83 (by decide) ?_
                  have J86_47 : ∀ (n : Nat) (y_46 : Int32) (v_47 : Nat → Nat → Int32) (H : Heap) (locs : List Loc) (ls : Array Slot), (3 - (y_46).toInt).toNat < n → (mI v_47) → (fM 109 112 5 7 v w v_47 w_31) → (0 ≤ (y_46).toInt ∧ (y_46).toInt ≤ 3) → gS (gA G) G s v_47 w_31 sg H locs → lv_has ls 14 [(0, .ref (G.2.2 (106))), (1, .int (p1)), (2, .int (p2)), (3, .int (p3)), (4, .int (p4)), (5, .long (r_39)), (7, .int (y_46))] → W p l e R s m args below meth c H locs 0 0 Q (F0 m 86 ls []) := by
                    intro n
                    induction n with
                    | zero => intro y_46 v_47 H locs ls hm; exact absurd hm (Nat.not_lt_zero _)
                    | succ n ih86 =>
                      intro y_46 v_47 H locs ls hm u_48 u_49 f_50 h hl
                      have o_51 := u_48
                      obtain ⟨I7, I10, I18, I22, I27, I29, I32, Is, I35, Ia, Iar, Isz, Ian⟩ := o_51
                      refine lv_iload hx hb dX10_back_86 (lv_at hl 6 rfl) ?_
                      refine lv_iconst (v := 3) hx hb dX10_back_88 (by decide) ?_
                      refine lv_icmp_ge (tgt := 106) hx hb dX10_back_89 (by decide) (fun c_52 => ?_) (fun c_52 => ?_)
                      · have j_53 : 3 ≤ (y_46).toInt := (i_le (by decide) rfl).mp c_52
                        refine lv_aload_n hx hb dX10_back_106 rfl (lv_at hl 0 rfl) ?_
                        refine lv_iconst (v := 0) hx hb dX10_back_107 (by decide) ?_
                        refine g_put (ci := 10) (x := 0) (ty := .int) C h 106 (by decide) rfl rfl hi10 tyX10 tyX10_ok nmX10 5 (by decide) f153 rfl rfl (by decide +kernel) rfl rfl (Nat.le_of_ble_eq_true rfl) rfl dX10_back_108 (fun H locs h => ?_)
                        obtain ⟨v_54, hv_54⟩ : ∃ z, z = gu v_47 106 5 0 := ⟨_, rfl⟩
                        have h : gS (gA G) G s v_54 w_31 sg H locs := by rw [hv_54]; exact h
                        have u_55 : mI v_54 := by rw [hv_54]; exact u_48
                        have u_56 : fM 109 112 5 7 v w v_54 w_31 := by rw [hv_54]; exact (fM_f u_49 (by decide))
                        refine lv_iconst (v := 0) hx hb dX10_back_111 (by decide) ?_
                        have J114_59 : ∀ (n : Nat) (y_57 : Int32) (v_58 : Nat → Nat → Int32) (w_59 : Nat → Nat → Int64) (H : Heap) (locs : List Loc) (ls : Array Slot), (A4 - (y_57).toInt).toNat < n → (mI v_58) → (fM 109 112 5 7 v w v_58 w_59) → (0 ≤ (y_57).toInt ∧ (y_57).toInt ≤ A4) → gS (gA G) G s v_58 w_59 sg H locs → lv_has ls 14 [(0, .ref (G.2.2 (106))), (1, .int (p1)), (2, .int (p2)), (3, .int (p3)), (4, .int (p4)), (5, .long (r_39)), (7, .int (y_57))] → W p l e R s m args below meth c H locs 0 0 Q (F0 m 114 ls []) := by
                          intro n
                          induction n with
                          | zero => intro y_57 v_58 w_59 H locs ls hm; exact absurd hm (Nat.not_lt_zero _)
                          | succ n ih114 =>
                            intro y_57 v_58 w_59 H locs ls hm u_60 u_61 f_62 h hl
                            have o_63 := u_60
                            obtain ⟨I7, I10, I18, I22, I27, I29, I32, Is, I35, Ia, Iar, Isz, Ian⟩ := o_63
                            refine lv_aload_n hx hb dX10_back_114 rfl (lv_at hl 0 rfl) ?_
                            refine g_geti (ci := 10) (x := v_58 106 5) C h 106 (by decide) rfl rfl hi10 5 (by decide) f153 rfl rfl rfl dX10_back_115 ?_
                            have J318_63 : ∀ (H : Heap) (locs : List Loc) (ls : Array Slot), gS (gA G) G s v_58 w_59 sg H locs → lv_has ls 14 [(0, .ref (G.2.2 (106))), (1, .int (p1)), (2, .int (p2)), (3, .int (p3)), (4, .int (p4)), (5, .long (r_39)), (7, .int (y_57))] → W p l e R s m args below meth c H locs 0 0 Q (F0 m 318 ls []) := by
                              intro  H locs ls  h hl
                              refine lv_aload_n hx hb dX10_back_318 rfl (lv_at hl 0 rfl) ?_
                              refine lv_iconst (v := 0) hx hb dX10_back_319 (by decide) ?_
                              refine g_put (ci := 10) (x := 0) (ty := .int) C h 106 (by decide) rfl rfl hi10 tyX10 tyX10_ok nmX10 6 (by decide) f164 rfl rfl (by decide +kernel) rfl rfl (Nat.le_of_ble_eq_true rfl) rfl dX10_back_320 (fun H locs h => ?_)
                              obtain ⟨v_64, hv_64⟩ : ∃ z, z = gu v_58 106 6 0 := ⟨_, rfl⟩
                              have h : gS (gA G) G s v_64 w_59 sg H locs := by rw [hv_64]; exact h
                              have u_65 : mI v_64 := by rw [hv_64]; exact u_60
                              have u_66 : fM 109 112 5 7 v w v_64 w_59 := by rw [hv_64]; exact (fM_f u_61 (by decide))
                              refine lv_iconst (v := 0) hx hb dX10_back_323 (by decide) ?_
                              have J326_68 : ∀ (n : Nat) (y_67 : Int32) (v_68 : Nat → Nat → Int32) (H : Heap) (locs : List Loc) (ls : Array Slot), (3 - (y_67).toInt).toNat < n → (mI v_68) → (fM 109 112 5 7 v w v_68 w_59) → (0 ≤ (y_67).toInt ∧ (y_67).toInt ≤ 3) → gS (gA G) G s v_68 w_59 sg H locs → lv_has ls 14 [(0, .ref (G.2.2 (106))), (1, .int (p1)), (2, .int (p2)), (3, .int (p3)), (4, .int (p4)), (5, .long (r_39)), (7, .int (y_57)), (8, .int (y_67))] → W p l e R s m args below meth c H locs 0 0 Q (F0 m 326 ls []) := by
                                intro n
                                induction n with
                                | zero => intro y_67 v_68 H locs ls hm; exact absurd hm (Nat.not_lt_zero _)
                                | succ n ih326 =>
                                  intro y_67 v_68 H locs ls hm u_69 u_70 f_71 h hl
                                  have o_72 := u_69
                                  obtain ⟨I7, I10, I18, I22, I27, I29, I32, Is, I35, Ia, Iar, Isz, Ian⟩ := o_72
                                  refine lv_iload hx hb dX10_back_326 (lv_at hl 7 rfl) ?_
                                  refine lv_iconst (v := 3) hx hb dX10_back_328 (by decide) ?_
                                  refine lv_icmp_ge (tgt := 422) hx hb dX10_back_329 (by decide) (fun c_73 => ?_) (fun c_73 => ?_)
                                  · have j_74 : 3 ≤ (y_67).toInt := (i_le (by decide) rfl).mp c_73
                                    refine lv_iload hx hb dX10_back_422 (lv_at hl 6 rfl) ?_
                                    exact ret y_57 v_68 w_59 sg _ _ _ _ dX10_back_424 h ⟨⟨u_69, u_70⟩, rfl⟩
                                  · have j_74 : ¬ (3 ≤ (y_67).toInt) := fun q => c_73 ((i_le (by decide) rfl).mpr q)
                                    refine lv_aload_n hx hb dX10_back_332 rfl (lv_at hl 0 rfl) ?_
                                    refine lv_iload hx hb dX10_back_333 (lv_at hl 7 rfl) ?_
                                    refine lv_aload_n hx hb dX10_back_335 rfl (lv_at hl 0 rfl) ?_
                                    refine g_get (ci := 10) (x := .ref (G.2.2 (111))) C h 106 (by decide) rfl rfl hi10 4 (by decide) f23 rfl rfl dX10_back_336 ?_
                                    refine lv_iconst (v := 0) hx hb dX10_back_339 (by decide) ?_
                                    refine g_iald C h 111 (by decide) (by decide) (n := 3) (by decide) (vp_of (I := 0) (by decide) (by decide) (by decide)) dX10_back_340 ?_
                                    refine lv_topi (fun x_75 e_76 => ?_)
                                    refine lv_aload_n hx hb dX10_back_341 rfl (lv_at hl 0 rfl) ?_
                                    refine g_get (ci := 10) (x := .ref (G.2.2 (111))) C h 106 (by decide) rfl rfl hi10 4 (by decide) f23 rfl rfl dX10_back_342 ?_
                                    refine lv_iconst (v := 1) hx hb dX10_back_345 (by decide) ?_
                                    refine g_iald C h 111 (by decide) (by decide) (n := 3) (by decide) (vp_of (I := 1) (by decide) (by decide) (by decide)) dX10_back_346 ?_
                                    refine lv_topi (fun x_77 e_78 => ?_)
                                    refine lv_aload_n hx hb dX10_back_347 rfl (lv_at hl 0 rfl) ?_
                                    refine g_get (ci := 10) (x := .ref (G.2.2 (111))) C h 106 (by decide) rfl rfl hi10 4 (by decide) f23 rfl rfl dX10_back_348 ?_
                                    refine lv_iconst (v := 2) hx hb dX10_back_351 (by decide) ?_
                                    refine g_iald C h 111 (by decide) (by decide) (n := 3) (by decide) (vp_of (I := 2) (by decide) (by decide) (by decide)) dX10_back_352 ?_
                                    refine lv_topi (fun x_79 e_80 => ?_)
                                    refine g_calli C (va_runV (As := [.int (y_67), .int (x_75), .int (x_77), .int (x_79)]) (rest := []) C.1 (c_X10_readingOf l G v_68 w_59 sg y_67 (A1 := (y_67).toInt) rfl x_75 (A2 := (x_75).toInt) rfl x_77 (A3 := (x_77).toInt) rfl x_79 (A4 := (x_79).toInt) rfl (by omega) u_69) (cwV 4 hts gX10_back_X10_readingOf rfl rfl rfl (by decide +kernel) ⟨by rw [hR]; exact Nat.le_of_ble_eq_true rfl, by rw [hR]; exact Nat.le_of_ble_eq_true rfl⟩) ⟨gPre_blind, g_recv C h 106 (by decide) (ci := 10) rfl rfl, gS_pre C h _⟩ rfl rfl hl.1 rfl (lv_room (Nat.le_of_ble_eq_true rfl)) dX10_back_353 ⟨Nat.zero_le _, Nat.zero_le _⟩) h (fun r_81 v_83 w_84 g_85 H locs p_82 h => ?_)
                                    obtain ⟨p_82, rfl, rfl, rfl⟩ := p_82
                                    refine lv_iload hx hb dX10_back_356 (lv_at hl 7 rfl) ?_
                                    have J376_86 : ∀ (y_86 : Int32) (H : Heap) (locs : List Loc) (ls : Array Slot), gS (gA G) G s v_68 w_59 sg H locs → lv_has ls 14 [(0, .ref (G.2.2 (106))), (1, .int (p1)), (2, .int (p2)), (3, .int (p3)), (4, .int (p4)), (5, .long (r_39)), (7, .int (y_57)), (8, .int (y_67))] → W p l e R s m args below meth c H locs 0 0 Q (F0 m 376 ls [.int (y_86), .int (r_81)]) := by
                                      intro y_86 H locs ls  h hl
                                      refine lv_isub hx hb dX10_back_376 ?_
                                      refine lv_topi (fun x_87 e_88 => ?_)
                                      refine lv_istore (lv' := [(9, .int (x_87)), (0, .ref (G.2.2 (106))), (1, .int (p1)), (2, .int (p2)), (3, .int (p3)), (4, .int (p4)), (5, .long (r_39)), (7, .int (y_57)), (8, .int (y_67))]) hx hb dX10_back_377 hl (by decide) rfl (fun ls hl => ?_)
                                      refine lv_iload hx hb dX10_back_379 (lv_at hl 0 rfl) ?_
                                      have J392_89 : ∀ (y_89 : Int32) (H : Heap) (locs : List Loc) (ls : Array Slot), gS (gA G) G s v_68 w_59 sg H locs → lv_has ls 14 [(0, .ref (G.2.2 (106))), (1, .int (p1)), (2, .int (p2)), (3, .int (p3)), (4, .int (p4)), (5, .long (r_39)), (7, .int (y_57)), (8, .int (y_67)), (9, .int (x_87))] → W p l e R s m args below meth c H locs 0 0 Q (F0 m 392 ls [.int (y_89)]) := by
                                        intro y_89 H locs ls  h hl
                                        refine lv_istore (lv' := [(9, .int (y_89)), (0, .ref (G.2.2 (106))), (1, .int (p1)), (2, .int (p2)), (3, .int (p3)), (4, .int (p4)), (5, .long (r_39)), (7, .int (y_57)), (8, .int (y_67))]) hx hb dX10_back_392 hl (by decide) rfl (fun ls hl => ?_)
                                        refine lv_aload_n hx hb dX10_back_394 rfl (lv_at hl 1 rfl) ?_
                                        refine lv_iload hx hb dX10_back_395 (lv_at hl 0 rfl) ?_
                                        refine lv_aload_n hx hb dX10_back_397 rfl (lv_at hl 1 rfl) ?_
                                        refine g_geti (ci := 10) (x := v_68 106 6) C h 106 (by decide) rfl rfl hi10 6 (by decide) f164 rfl rfl rfl dX10_back_398 ?_
                                        have J413_90 : ∀ (y_90 : Int32) (H : Heap) (locs : List Loc) (ls : Array Slot), gS (gA G) G s v_68 w_59 sg H locs → lv_has ls 14 [(0, .ref (G.2.2 (106))), (1, .int (p1)), (2, .int (p2)), (3, .int (p3)), (4, .int (p4)), (5, .long (r_39)), (7, .int (y_57)), (8, .int (y_67)), (9, .int (y_89))] → W p l e R s m args below meth c H locs 0 0 Q (F0 m 413 ls [.int (y_90), .ref (G.2.2 (106))]) := by
                                          intro y_90 H locs ls  h hl
                                          refine g_put (ci := 10) (x := y_90) (ty := .int) C h 106 (by decide) rfl rfl hi10 tyX10 tyX10_ok nmX10 6 (by decide) f164 rfl rfl (by decide +kernel) rfl rfl (Nat.le_of_ble_eq_true rfl) rfl dX10_back_413 (fun H locs h => ?_)
                                          obtain ⟨v_91, hv_91⟩ : ∃ z, z = gu v_68 106 6 y_90 := ⟨_, rfl⟩
                                          have h : gS (gA G) G s v_91 w_59 sg H locs := by rw [hv_91]; exact h
                                          have u_92 : mI v_91 := by rw [hv_91]; exact u_69
                                          have u_93 : fM 109 112 5 7 v w v_91 w_59 := by rw [hv_91]; exact (fM_f u_70 (by decide))
                                          obtain ⟨x_94, e_95⟩ : ∃ y : Int32, y = y_67 + 1 := ⟨_, rfl⟩
                                          have i_96 : x_94.toInt = (y_67).toInt + 1 := ia_add e_95 rfl (by decide) (by omega) (by omega)
                                          refine lv_iinc (v := x_94) (lv' := [(8, .int (x_94)), (0, .ref (G.2.2 (106))), (1, .int (p1)), (2, .int (p2)), (3, .int (p3)), (4, .int (p4)), (5, .long (r_39)), (7, .int (y_57)), (9, .int (y_89))]) hx hb dX10_back_416 hl (k := 7) rfl (by rw [e_95]; rfl) (by decide) rfl (fun ls hl => ?_)
                                          refine lv_goto (tgt := 326) hx hb dX10_back_419 (by decide) ?_
                                          exact ih326 x_94 v_91 _ _ _ (by omega) u_92 u_93 (by omega) h (lv_sub hl [1, 2, 3, 4, 5, 6, 7, 0] rfl)
                                        refine lv_icmp_le (tgt := 409) hx hb dX10_back_401 (by decide) (fun c_97 => ?_) (fun c_97 => ?_)
                                        · have j_98 : (y_89).toInt ≤ (v_68 106 6).toInt := (i_le rfl rfl).mp c_97
                                          refine lv_aload_n hx hb dX10_back_409 rfl (lv_at hl 1 rfl) ?_
                                          refine g_geti (ci := 10) (x := v_68 106 6) C h 106 (by decide) rfl rfl hi10 6 (by decide) f164 rfl rfl rfl dX10_back_410 ?_
                                          exact J413_90 (v_68 106 6) _ _ _  h (lv_sub hl [1, 2, 3, 4, 5, 6, 7, 8, 0] rfl)
                                        · have j_98 : ¬ ((y_89).toInt ≤ (v_68 106 6).toInt) := fun q => c_97 ((i_le rfl rfl).mpr q)
                                          refine lv_iload hx hb dX10_back_404 (lv_at hl 0 rfl) ?_
                                          refine lv_goto (tgt := 413) hx hb dX10_back_406 (by decide) ?_
                                          exact J413_90 y_89 _ _ _  h (lv_sub hl [1, 2, 3, 4, 5, 6, 7, 8, 0] rfl)
                                      refine lv_if_ge (tgt := 390) hx hb dX10_back_381 (by decide) (fun c_99 => ?_) (fun c_99 => ?_)
                                      · have j_100 : 0 ≤ (x_87).toInt := (i_le (by decide) rfl).mp c_99
                                        refine lv_iload hx hb dX10_back_390 (lv_at hl 0 rfl) ?_
                                        exact J392_89 x_87 _ _ _  h (lv_sub hl [1, 2, 3, 4, 5, 6, 7, 8, 0] rfl)
                                      · have j_100 : ¬ (0 ≤ (x_87).toInt) := fun q => c_99 ((i_le (by decide) rfl).mpr q)
                                        refine lv_iload hx hb dX10_back_384 (lv_at hl 0 rfl) ?_
                                        refine lv_ineg hx hb dX10_back_386 ?_
                                        refine lv_topi (fun x_101 e_102 => ?_)
                                        refine lv_goto (tgt := 392) hx hb dX10_back_387 (by decide) ?_
                                        exact J392_89 x_101 _ _ _  h (lv_sub hl [1, 2, 3, 4, 5, 6, 7, 8, 0] rfl)
                                    refine lv_if_ne (tgt := 365) hx hb dX10_back_358 (by decide) (fun c_103 => ?_) (fun c_103 => ?_)
                                    · have j_104 : ¬ ((y_67).toInt = 0) := fun q => c_103 ((i_eq rfl (by decide)).mpr q)
                                      refine lv_iload hx hb dX10_back_365 (lv_at hl 7 rfl) ?_
                                      refine lv_iconst (v := 1) hx hb dX10_back_367 (by decide) ?_
                                      refine lv_icmp_ne (tgt := 375) hx hb dX10_back_368 (by decide) (fun c_105 => ?_) (fun c_105 => ?_)
                                      · have j_106 : ¬ ((y_67).toInt = 1) := fun q => c_105 ((i_eq rfl (by decide)).mpr q)
                                        refine lv_iload_n hx hb dX10_back_375 rfl (lv_at hl 3 rfl) ?_
                                        exact J376_86 p3 _ _ _  h (lv_sub hl [0, 1, 2, 3, 4, 5, 6, 7] rfl)
                                      · have j_106 : (y_67).toInt = 1 := (i_eq rfl (by decide)).mp c_105
                                        refine lv_iload_n hx hb dX10_back_371 rfl (lv_at hl 2 rfl) ?_
                                        refine lv_goto (tgt := 376) hx hb dX10_back_372 (by decide) ?_
                                        exact J376_86 p2 _ _ _  h (lv_sub hl [0, 1, 2, 3, 4, 5, 6, 7] rfl)
                                    · have j_104 : (y_67).toInt = 0 := (i_eq rfl (by decide)).mp c_103
                                      refine lv_iload_n hx hb dX10_back_361 rfl (lv_at hl 1 rfl) ?_
                                      refine lv_goto (tgt := 376) hx hb dX10_back_362 (by decide) ?_
                                      exact J376_86 p1 _ _ _  h (lv_sub hl [0, 1, 2, 3, 4, 5, 6, 7] rfl)
                              refine lv_istore (lv' := [(8, .int (0)), (0, .ref (G.2.2 (106))), (1, .int (p1)), (2, .int (p2)), (3, .int (p3)), (4, .int (p4)), (5, .long (r_39)), (7, .int (y_57))]) hx hb dX10_back_324 hl (by decide) rfl (fun ls hl => ?_)
                              exact J326_68 _ 0 v_64 _ _ _ (Nat.lt_succ_self _) u_65 u_66 (by omega) h (lv_sub hl [1, 2, 3, 4, 5, 6, 7, 0] rfl)
                            refine lv_if_ne (tgt := 318) hx hb dX10_back_118 (by decide) (fun c_107 => ?_) (fun c_107 => ?_)
                            · have j_108 : ¬ ((v_58 106 5).toInt = 0) := fun q => c_107 ((i_eq rfl (by decide)).mpr q)
                              exact J318_63  _ _ _  h (lv_sub hl [0, 1, 2, 3, 4, 5, 6] rfl)
                            · have j_108 : (v_58 106 5).toInt = 0 := (i_eq rfl (by decide)).mp c_107
                              refine lv_iload hx hb dX10_back_121 (lv_at hl 6 rfl) ?_
                              refine lv_iload hx hb dX10_back_123 (lv_at hl 4 rfl) ?_
                              refine lv_icmp_ge (tgt := 318) hx hb dX10_back_125 (by decide) (fun c_109 => ?_) (fun c_109 => ?_)
                              · have j_110 : A4 ≤ (y_57).toInt := (i_le a4 rfl).mp c_109
                                exact J318_63  _ _ _  h (lv_sub hl [0, 1, 2, 3, 4, 5, 6] rfl)
                              · have j_110 : ¬ (A4 ≤ (y_57).toInt) := fun q => c_109 ((i_le a4 rfl).mpr q)
                                refine lv_iconst (v := 0) hx hb dX10_back_128 (by decide) ?_
                                have J131_112 : ∀ (n : Nat) (y_111 : Int32) (w_112 : Nat → Nat → Int64) (H : Heap) (locs : List Loc) (ls : Array Slot), (3 - (y_111).toInt).toNat < n → (mI v_58) → (fM 109 112 5 7 v w v_58 w_112) → (0 ≤ (y_111).toInt ∧ (y_111).toInt ≤ 3) → gS (gA G) G s v_58 w_112 sg H locs → lv_has ls 14 [(0, .ref (G.2.2 (106))), (1, .int (p1)), (2, .int (p2)), (3, .int (p3)), (4, .int (p4)), (5, .long (r_39)), (7, .int (y_57)), (8, .int (y_111))] → W p l e R s m args below meth c H locs 0 0 Q (F0 m 131 ls []) := by
                                  intro n
                                  induction n with
                                  | zero => intro y_111 w_112 H locs ls hm; exact absurd hm (Nat.not_lt_zero _)
                                  | succ n ih131 =>
                                    intro y_111 w_112 H locs ls hm u_113 u_114 f_115 h hl
                                    have o_116 := u_113
                                    obtain ⟨I7, I10, I18, I22, I27, I29, I32, Is, I35, Ia, Iar, Isz, Ian⟩ := o_116
                                    refine lv_iload hx hb dX10_back_131 (lv_at hl 7 rfl) ?_
                                    refine lv_iconst (v := 3) hx hb dX10_back_133 (by decide) ?_
                                    refine lv_icmp_ge (tgt := 196) hx hb dX10_back_134 (by decide) (fun c_117 => ?_) (fun c_117 => ?_)
                                    · have j_118 : 3 ≤ (y_111).toInt := (i_le (by decide) rfl).mp c_117
                                      refine lv_aload_n hx hb dX10_back_196 rfl (lv_at hl 0 rfl) ?_
                                      refine lv_iconst (v := 1) hx hb dX10_back_197 (by decide) ?_
                                      refine g_put (ci := 10) (x := 1) (ty := .int) C h 106 (by decide) rfl rfl hi10 tyX10 tyX10_ok nmX10 5 (by decide) f153 rfl rfl (by decide +kernel) rfl rfl (Nat.le_of_ble_eq_true rfl) rfl dX10_back_198 (fun H locs h => ?_)
                                      obtain ⟨v_119, hv_119⟩ : ∃ z, z = gu v_58 106 5 1 := ⟨_, rfl⟩
                                      have h : gS (gA G) G s v_119 w_112 sg H locs := by rw [hv_119]; exact h
                                      have u_120 : mI v_119 := by rw [hv_119]; exact u_113
                                      have u_121 : fM 109 112 5 7 v w v_119 w_112 := by rw [hv_119]; exact (fM_f u_114 (by decide))
                                      refine lv_aload_n hx hb dX10_back_201 rfl (lv_at hl 0 rfl) ?_
                                      refine lv_iconst (v := 0) hx hb dX10_back_202 (by decide) ?_
                                      refine g_calll C (va_runV (As := [.int (0)]) (rest := []) C.1 (c_X10_replaced l G v_119 w_112 sg (0) (A1 := 0) (by decide) (by omega) u_120) (cwV 1 hts gX10_back_X10_replaced rfl rfl rfl (by decide +kernel) ⟨by rw [hR]; exact Nat.le_of_ble_eq_true rfl, by rw [hR]; exact Nat.le_of_ble_eq_true rfl⟩) ⟨gPre_blind, g_recv C h 106 (by decide) (ci := 10) rfl rfl, gS_pre C h _⟩ rfl rfl hl.1 rfl (lv_room (Nat.le_of_ble_eq_true rfl)) dX10_back_203 ⟨Nat.zero_le _, Nat.zero_le _⟩) h (fun r_122 v_124 w_125 g_126 H locs p_123 h => ?_)
                                      obtain ⟨p_123, rfl, rfl⟩ := p_123
                                      have u_127 : mI v_119 := p_123.1
                                      have u_128 : fM 109 112 5 7 v w v_119 w_125 := fM_tr u_121 (fM_le p_123.2 (by decide))
                                      have o_129 := u_127
                                      obtain ⟨I7, I10, I18, I22, I27, I29, I32, Is, I35, Ia, Iar, Isz, Ian⟩ := o_129
                                      refine lv_lload hx hb dX10_back_206 (lv_at hl 5 rfl) ?_
                                      refine g_calll C (va_runS (As := [.long (r_122), .long (r_39)]) (rest := []) C.1 (c_X10_nearest l G v_119 w_125 sg r_122 (A0 := (r_122).toInt) rfl r_39 (A2 := (r_39).toInt) rfl (by omega)) (va_cwS 2 hts gX10_back_X10_nearest rfl rfl rfl (by decide +kernel) ⟨by rw [hR]; exact Nat.le_of_ble_eq_true rfl, by rw [hR]; exact Nat.le_of_ble_eq_true rfl⟩) ⟨gPre_blind, gS_pre C h _⟩ rfl rfl hl.1 rfl (lv_room (Nat.le_of_ble_eq_true rfl)) dX10_back_208 ⟨Nat.zero_le _, Nat.zero_le _⟩) h (fun r_130 v_132 w_133 g_134 H locs p_131 h => ?_)
                                      obtain ⟨p_131, rfl, rfl, rfl⟩ := p_131
                                      refine lv_lstore (lv' := [(8, .long (r_130)), (0, .ref (G.2.2 (106))), (1, .int (p1)), (2, .int (p2)), (3, .int (p3)), (4, .int (p4)), (5, .long (r_39)), (7, .int (y_57))]) hx hb dX10_back_211 hl (by decide) rfl (fun ls hl => ?_)
                                      refine lv_aload_n hx hb dX10_back_213 rfl (lv_at hl 1 rfl) ?_
                                      refine lv_iconst (v := 1) hx hb dX10_back_214 (by decide) ?_
                                      refine g_calll C (va_runV (As := [.int (1)]) (rest := []) C.1 (c_X10_replaced l G v_119 w_125 sg (1) (A1 := 1) (by decide) (by omega) u_127) (cwV 1 hts gX10_back_X10_replaced rfl rfl rfl (by decide +kernel) ⟨by rw [hR]; exact Nat.le_of_ble_eq_true rfl, by rw [hR]; exact Nat.le_of_ble_eq_true rfl⟩) ⟨gPre_blind, g_recv C h 106 (by decide) (ci := 10) rfl rfl, gS_pre C h _⟩ rfl rfl hl.1 rfl (lv_room (Nat.le_of_ble_eq_true rfl)) dX10_back_215 ⟨Nat.zero_le _, Nat.zero_le _⟩) h (fun r_135 v_137 w_138 g_139 H locs p_136 h => ?_)
                                      obtain ⟨p_136, rfl, rfl⟩ := p_136
                                      have u_140 : mI v_119 := p_136.1
                                      have u_141 : fM 109 112 5 7 v w v_119 w_138 := fM_tr u_128 (fM_le p_136.2 (by decide))
                                      have o_142 := u_140
                                      obtain ⟨I7, I10, I18, I22, I27, I29, I32, Is, I35, Ia, Iar, Isz, Ian⟩ := o_142
                                      refine lv_lload hx hb dX10_back_218 (lv_at hl 6 rfl) ?_
                                      refine g_calll C (va_runS (As := [.long (r_135), .long (r_39)]) (rest := []) C.1 (c_X10_nearest l G v_119 w_138 sg r_135 (A0 := (r_135).toInt) rfl r_39 (A2 := (r_39).toInt) rfl (by omega)) (va_cwS 2 hts gX10_back_X10_nearest rfl rfl rfl (by decide +kernel) ⟨by rw [hR]; exact Nat.le_of_ble_eq_true rfl, by rw [hR]; exact Nat.le_of_ble_eq_true rfl⟩) ⟨gPre_blind, gS_pre C h _⟩ rfl rfl hl.1 rfl (lv_room (Nat.le_of_ble_eq_true rfl)) dX10_back_220 ⟨Nat.zero_le _, Nat.zero_le _⟩) h (fun r_143 v_145 w_146 g_147 H locs p_144 h => ?_)
                                      obtain ⟨p_144, rfl, rfl, rfl⟩ := p_144
                                      refine lv_lstore (lv' := [(10, .long (r_143)), (8, .long (r_130)), (0, .ref (G.2.2 (106))), (1, .int (p1)), (2, .int (p2)), (3, .int (p3)), (4, .int (p4)), (5, .long (r_39)), (7, .int (y_57))]) hx hb dX10_back_223 hl (by decide) rfl (fun ls hl => ?_)
                                      refine lv_aload_n hx hb dX10_back_225 rfl (lv_at hl 2 rfl) ?_
                                      refine lv_iconst (v := 2) hx hb dX10_back_226 (by decide) ?_
                                      refine g_calll C (va_runV (As := [.int (2)]) (rest := []) C.1 (c_X10_replaced l G v_119 w_138 sg (2) (A1 := 2) (by decide) (by omega) u_140) (cwV 1 hts gX10_back_X10_replaced rfl rfl rfl (by decide +kernel) ⟨by rw [hR]; exact Nat.le_of_ble_eq_true rfl, by rw [hR]; exact Nat.le_of_ble_eq_true rfl⟩) ⟨gPre_blind, g_recv C h 106 (by decide) (ci := 10) rfl rfl, gS_pre C h _⟩ rfl rfl hl.1 rfl (lv_room (Nat.le_of_ble_eq_true rfl)) dX10_back_227 ⟨Nat.zero_le _, Nat.zero_le _⟩) h (fun r_148 v_150 w_151 g_152 H locs p_149 h => ?_)
                                      obtain ⟨p_149, rfl, rfl⟩ := p_149
                                      have u_153 : mI v_119 := p_149.1
                                      have u_154 : fM 109 112 5 7 v w v_119 w_151 := fM_tr u_141 (fM_le p_149.2 (by decide))
                                      have o_155 := u_153
                                      obtain ⟨I7, I10, I18, I22, I27, I29, I32, Is, I35, Ia, Iar, Isz, Ian⟩ := o_155
                                      refine lv_lload hx hb dX10_back_230 (lv_at hl 7 rfl) ?_
                                      refine g_calll C (va_runS (As := [.long (r_148), .long (r_39)]) (rest := []) C.1 (c_X10_nearest l G v_119 w_151 sg r_148 (A0 := (r_148).toInt) rfl r_39 (A2 := (r_39).toInt) rfl (by omega)) (va_cwS 2 hts gX10_back_X10_nearest rfl rfl rfl (by decide +kernel) ⟨by rw [hR]; exact Nat.le_of_ble_eq_true rfl, by rw [hR]; exact Nat.le_of_ble_eq_true rfl⟩) ⟨gPre_blind, gS_pre C h _⟩ rfl rfl hl.1 rfl (lv_room (Nat.le_of_ble_eq_true rfl)) dX10_back_232 ⟨Nat.zero_le _, Nat.zero_le _⟩) h (fun r_156 v_158 w_159 g_160 H locs p_157 h => ?_)
                                      obtain ⟨p_157, rfl, rfl, rfl⟩ := p_157
                                      refine lv_lstore (lv' := [(12, .long (r_156)), (10, .long (r_143)), (8, .long (r_130)), (0, .ref (G.2.2 (106))), (1, .int (p1)), (2, .int (p2)), (3, .int (p3)), (4, .int (p4)), (5, .long (r_39)), (7, .int (y_57))]) hx hb dX10_back_235 hl (by decide) rfl (fun ls hl => ?_)
                                      refine lv_aload_n hx hb dX10_back_237 rfl (lv_at hl 3 rfl) ?_
                                      refine lv_lload hx hb dX10_back_238 (lv_at hl 2 rfl) ?_
                                      refine lv_aload_n hx hb dX10_back_240 rfl (lv_at hl 3 rfl) ?_
                                      refine g_get (ci := 10) (x := .ref (G.2.2 (111))) C h 106 (by decide) rfl rfl hi10 4 (by decide) f23 rfl rfl dX10_back_241 ?_
                                      refine lv_iconst (v := 0) hx hb dX10_back_244 (by decide) ?_
                                      refine g_iald C h 111 (by decide) (by decide) (n := 3) (by decide) (vp_of (I := 0) (by decide) (by decide) (by decide)) dX10_back_245 ?_
                                      refine lv_topi (fun x_161 e_162 => ?_)
                                      have q_163 := i_rng x_161
                                      refine lv_i2l (v := (x_161 : Int32).toInt64) hx hb dX10_back_246 rfl ?_
                                      refine W.lcmp hx hb dX10_back_247 ?_
                                      have J282_164 : ∀ (y_164 : Int32) (H : Heap) (locs : List Loc) (ls : Array Slot), gS (gA G) G s v_119 w_151 sg H locs → lv_has ls 14 [(0, .ref (G.2.2 (106))), (1, .int (p1)), (2, .int (p2)), (3, .int (p3)), (4, .int (p4)), (5, .long (r_39)), (7, .int (y_57)), (8, .long (r_130)), (10, .long (r_143)), (12, .long (r_156))] → W p l e R s m args below meth c H locs 0 0 Q (F0 m 282 ls [.int (y_164), .ref (G.2.2 (106))]) := by
                                        intro y_164 H locs ls  h hl
                                        refine g_put (ci := 10) (x := y_164) (ty := .int) C h 106 (by decide) rfl rfl hi10 tyX10 tyX10_ok nmX10 5 (by decide) f153 rfl rfl (by decide +kernel) rfl rfl (Nat.le_of_ble_eq_true rfl) rfl dX10_back_282 (fun H locs h => ?_)
                                        obtain ⟨v_165, hv_165⟩ : ∃ z, z = gu v_119 106 5 y_164 := ⟨_, rfl⟩
                                        have h : gS (gA G) G s v_165 w_151 sg H locs := by rw [hv_165]; exact h
                                        have u_166 : mI v_165 := by rw [hv_165]; exact u_153
                                        have u_167 : fM 109 112 5 7 v w v_165 w_151 := by rw [hv_165]; exact (fM_f u_154 (by decide))
                                        refine lv_aload_n hx hb dX10_back_285 rfl (lv_at hl 0 rfl) ?_
                                        refine g_get (ci := 10) (x := .ref (G.2.2 (111))) C h 106 (by decide) rfl rfl hi10 4 (by decide) f23 rfl rfl dX10_back_286 ?_
                                        refine lv_iconst (v := 0) hx hb dX10_back_289 (by decide) ?_
                                        refine lv_lload hx hb dX10_back_290 (lv_at hl 7 rfl) ?_
                                        refine lv_l2i hx hb dX10_back_292 rfl ?_
                                        refine lv_topi (fun x_168 e_169 => ?_)
                                        refine g_iast C h 111 (by decide) (by decide) (n := 3) (by decide) (vp_of (I := 0) (by decide) (by decide) (by decide)) dX10_back_293 (fun H locs h => ?_)
                                        obtain ⟨v_170, hv_170⟩ : ∃ z, z = gu v_165 111 0 x_168 := ⟨_, rfl⟩
                                        have h : gS (gA G) G s v_170 w_151 sg H locs := by rw [hv_170]; exact h
                                        have u_171 : mI v_170 := by rw [hv_170]; exact u_166
                                        have u_172 : fM 109 112 5 7 v w v_170 w_151 := by rw [hv_170]; exact (fM_v u_167 (by decide))
                                        refine lv_aload_n hx hb dX10_back_294 rfl (lv_at hl 0 rfl) ?_
                                        refine g_get (ci := 10) (x := .ref (G.2.2 (111))) C h 106 (by decide) rfl rfl hi10 4 (by decide) f23 rfl rfl dX10_back_295 ?_
                                        refine lv_iconst (v := 1) hx hb dX10_back_298 (by decide) ?_
                                        refine lv_lload hx hb dX10_back_299 (lv_at hl 8 rfl) ?_
                                        refine lv_l2i hx hb dX10_back_301 rfl ?_
                                        refine lv_topi (fun x_173 e_174 => ?_)
                                        refine g_iast C h 111 (by decide) (by decide) (n := 3) (by decide) (vp_of (I := 1) (by decide) (by decide) (by decide)) dX10_back_302 (fun H locs h => ?_)
                                        obtain ⟨v_175, hv_175⟩ : ∃ z, z = gu v_170 111 1 x_173 := ⟨_, rfl⟩
                                        have h : gS (gA G) G s v_175 w_151 sg H locs := by rw [hv_175]; exact h
                                        have u_176 : mI v_175 := by rw [hv_175]; exact u_171
                                        have u_177 : fM 109 112 5 7 v w v_175 w_151 := by rw [hv_175]; exact (fM_v u_172 (by decide))
                                        refine lv_aload_n hx hb dX10_back_303 rfl (lv_at hl 0 rfl) ?_
                                        refine g_get (ci := 10) (x := .ref (G.2.2 (111))) C h 106 (by decide) rfl rfl hi10 4 (by decide) f23 rfl rfl dX10_back_304 ?_
                                        refine lv_iconst (v := 2) hx hb dX10_back_307 (by decide) ?_
                                        refine lv_lload hx hb dX10_back_308 (lv_at hl 9 rfl) ?_
                                        refine lv_l2i hx hb dX10_back_310 rfl ?_
                                        refine lv_topi (fun x_178 e_179 => ?_)
                                        refine g_iast C h 111 (by decide) (by decide) (n := 3) (by decide) (vp_of (I := 2) (by decide) (by decide) (by decide)) dX10_back_311 (fun H locs h => ?_)
                                        obtain ⟨v_180, hv_180⟩ : ∃ z, z = gu v_175 111 2 x_178 := ⟨_, rfl⟩
                                        have h : gS (gA G) G s v_180 w_151 sg H locs := by rw [hv_180]; exact h
                                        have u_181 : mI v_180 := by rw [hv_180]; exact u_176
                                        have u_182 : fM 109 112 5 7 v w v_180 w_151 := by rw [hv_180]; exact (fM_v u_177 (by decide))
                                        obtain ⟨x_183, e_184⟩ : ∃ y : Int32, y = y_57 + 1 := ⟨_, rfl⟩
                                        have i_185 : x_183.toInt = (y_57).toInt + 1 := ia_add e_184 rfl (by decide) (by omega) (by omega)
                                        refine lv_iinc (v := x_183) (lv' := [(7, .int (x_183)), (0, .ref (G.2.2 (106))), (1, .int (p1)), (2, .int (p2)), (3, .int (p3)), (4, .int (p4)), (5, .long (r_39)), (8, .long (r_130)), (10, .long (r_143)), (12, .long (r_156))]) hx hb dX10_back_312 hl (k := 6) rfl (by rw [e_184]; rfl) (by decide) rfl (fun ls hl => ?_)
                                        refine lv_goto (tgt := 114) hx hb dX10_back_315 (by decide) ?_
                                        exact ih114 x_183 v_180 w_151 _ _ _ (by omega) u_181 u_182 (by omega) h (lv_sub hl [1, 2, 3, 4, 5, 6, 0] rfl)
                                      have J281_185 : ∀ (H : Heap) (locs : List Loc) (ls : Array Slot), gS (gA G) G s v_119 w_151 sg H locs → lv_has ls 14 [(0, .ref (G.2.2 (106))), (1, .int (p1)), (2, .int (p2)), (3, .int (p3)), (4, .int (p4)), (5, .long (r_39)), (7, .int (y_57)), (8, .long (r_130)), (10, .long (r_143)), (12, .long (r_156))] → W p l e R s m args below meth c H locs 0 0 Q (F0 m 281 ls [.ref (G.2.2 (106))]) := by
                                        intro  H locs ls  h hl
                                        refine lv_iconst (v := 0) hx hb dX10_back_281 (by decide) ?_
                                        exact J282_164 0 _ _ _  h (lv_sub hl [0, 1, 2, 3, 4, 5, 6, 7, 8, 9] rfl)
                                      refine lv_if_ne (tgt := 281) hx hb dX10_back_248 (by decide) (fun c_186 => ?_) (fun c_186 => ?_)
                                      · have j_187 : ¬ ((r_130).toInt = (x_161).toInt) := fun q => c_186 ((l_eq0 rfl (il_of rfl)).mpr q)
                                        exact J281_185  _ _ _  h (lv_sub hl [3, 4, 5, 6, 7, 8, 9, 2, 1, 0] rfl)
                                      · have j_187 : (r_130).toInt = (x_161).toInt := (l_eq0 rfl (il_of rfl)).mp c_186
                                        refine lv_lload hx hb dX10_back_251 (lv_at hl 1 rfl) ?_
                                        refine lv_aload_n hx hb dX10_back_253 rfl (lv_at hl 3 rfl) ?_
                                        refine g_get (ci := 10) (x := .ref (G.2.2 (111))) C h 106 (by decide) rfl rfl hi10 4 (by decide) f23 rfl rfl dX10_back_254 ?_
                                        refine lv_iconst (v := 1) hx hb dX10_back_257 (by decide) ?_
                                        refine g_iald C h 111 (by decide) (by decide) (n := 3) (by decide) (vp_of (I := 1) (by decide) (by decide) (by decide)) dX10_back_258 ?_
                                        refine lv_topi (fun x_188 e_189 => ?_)
                                        have q_190 := i_rng x_188
                                        refine lv_i2l (v := (x_188 : Int32).toInt64) hx hb dX10_back_259 rfl ?_
                                        refine W.lcmp hx hb dX10_back_260 ?_
                                        refine lv_if_ne (tgt := 281) hx hb dX10_back_261 (by decide) (fun c_191 => ?_) (fun c_191 => ?_)
                                        · have j_192 : ¬ ((r_143).toInt = (x_188).toInt) := fun q => c_191 ((l_eq0 rfl (il_of rfl)).mpr q)
                                          exact J281_185  _ _ _  h (lv_sub hl [3, 4, 5, 6, 7, 8, 9, 2, 1, 0] rfl)
                                        · have j_192 : (r_143).toInt = (x_188).toInt := (l_eq0 rfl (il_of rfl)).mp c_191
                                          refine lv_lload hx hb dX10_back_264 (lv_at hl 0 rfl) ?_
                                          refine lv_aload_n hx hb dX10_back_266 rfl (lv_at hl 3 rfl) ?_
                                          refine g_get (ci := 10) (x := .ref (G.2.2 (111))) C h 106 (by decide) rfl rfl hi10 4 (by decide) f23 rfl rfl dX10_back_267 ?_
                                          refine lv_iconst (v := 2) hx hb dX10_back_270 (by decide) ?_
                                          refine g_iald C h 111 (by decide) (by decide) (n := 3) (by decide) (vp_of (I := 2) (by decide) (by decide) (by decide)) dX10_back_271 ?_
                                          refine lv_topi (fun x_193 e_194 => ?_)
                                          have q_195 := i_rng x_193
                                          refine lv_i2l (v := (x_193 : Int32).toInt64) hx hb dX10_back_272 rfl ?_
                                          refine W.lcmp hx hb dX10_back_273 ?_
                                          refine lv_if_ne (tgt := 281) hx hb dX10_back_274 (by decide) (fun c_196 => ?_) (fun c_196 => ?_)
                                          · have j_197 : ¬ ((r_156).toInt = (x_193).toInt) := fun q => c_196 ((l_eq0 rfl (il_of rfl)).mpr q)
                                            exact J281_185  _ _ _  h (lv_sub hl [3, 4, 5, 6, 7, 8, 9, 2, 1, 0] rfl)
                                          · have j_197 : (r_156).toInt = (x_193).toInt := (l_eq0 rfl (il_of rfl)).mp c_196
                                            refine lv_iconst (v := 1) hx hb dX10_back_277 (by decide) ?_
                                            refine lv_goto (tgt := 282) hx hb dX10_back_278 (by decide) ?_
                                            exact J282_164 1 _ _ _  h (lv_sub hl [3, 4, 5, 6, 7, 8, 9, 2, 1, 0] rfl)
                                    · have j_118 : ¬ (3 ≤ (y_111).toInt) := fun q => c_117 ((i_le (by decide) rfl).mpr q)
                                      refine lv_aload_n hx hb dX10_back_137 rfl (lv_at hl 0 rfl) ?_
                                      refine g_get (ci := 10) (x := .ref (G.2.2 (110))) C h 106 (by decide) rfl rfl hi10 3 (by decide) f20 rfl rfl dX10_back_138 ?_
                                      refine lv_iload hx hb dX10_back_141 (lv_at hl 7 rfl) ?_
                                      refine lv_iload hx hb dX10_back_143 (lv_at hl 7 rfl) ?_
                                      have J163_198 : ∀ (y_198 : Int32) (H : Heap) (locs : List Loc) (ls : Array Slot), gS (gA G) G s v_58 w_112 sg H locs → lv_has ls 14 [(0, .ref (G.2.2 (106))), (1, .int (p1)), (2, .int (p2)), (3, .int (p3)), (4, .int (p4)), (5, .long (r_39)), (7, .int (y_57)), (8, .int (y_111))] → W p l e R s m args below meth c H locs 0 0 Q (F0 m 163 ls [.int (y_198), .int (y_111), .ref (G.2.2 (110))]) := by
                                        intro y_198 H locs ls  h hl
                                        refine lv_aload_n hx hb dX10_back_163 rfl (lv_at hl 0 rfl) ?_
                                        refine lv_iload hx hb dX10_back_164 (lv_at hl 7 rfl) ?_
                                        refine lv_aload_n hx hb dX10_back_166 rfl (lv_at hl 0 rfl) ?_
                                        refine g_get (ci := 10) (x := .ref (G.2.2 (111))) C h 106 (by decide) rfl rfl hi10 4 (by decide) f23 rfl rfl dX10_back_167 ?_
                                        refine lv_iconst (v := 0) hx hb dX10_back_170 (by decide) ?_
                                        refine g_iald C h 111 (by decide) (by decide) (n := 3) (by decide) (vp_of (I := 0) (by decide) (by decide) (by decide)) dX10_back_171 ?_
                                        refine lv_topi (fun x_199 e_200 => ?_)
                                        refine lv_aload_n hx hb dX10_back_172 rfl (lv_at hl 0 rfl) ?_
                                        refine g_get (ci := 10) (x := .ref (G.2.2 (111))) C h 106 (by decide) rfl rfl hi10 4 (by decide) f23 rfl rfl dX10_back_173 ?_
                                        refine lv_iconst (v := 1) hx hb dX10_back_176 (by decide) ?_
                                        refine g_iald C h 111 (by decide) (by decide) (n := 3) (by decide) (vp_of (I := 1) (by decide) (by decide) (by decide)) dX10_back_177 ?_
                                        refine lv_topi (fun x_201 e_202 => ?_)
                                        refine lv_aload_n hx hb dX10_back_178 rfl (lv_at hl 0 rfl) ?_
                                        refine g_get (ci := 10) (x := .ref (G.2.2 (111))) C h 106 (by decide) rfl rfl hi10 4 (by decide) f23 rfl rfl dX10_back_179 ?_
                                        refine lv_iconst (v := 2) hx hb dX10_back_182 (by decide) ?_
                                        refine g_iald C h 111 (by decide) (by decide) (n := 3) (by decide) (vp_of (I := 2) (by decide) (by decide) (by decide)) dX10_back_183 ?_
                                        refine lv_topi (fun x_203 e_204 => ?_)
                                        refine g_calli C (va_runV (As := [.int (y_111), .int (x_199), .int (x_201), .int (x_203)]) (rest := [.int (y_198), .int (y_111), .ref (G.2.2 (110))]) C.1 (c_X10_products l G v_58 w_112 sg y_111 (A1 := (y_111).toInt) rfl x_199 (A2 := (x_199).toInt) rfl x_201 (A3 := (x_201).toInt) rfl x_203 (A4 := (x_203).toInt) rfl (by omega) u_113) (cwV 4 hts gX10_back_X10_products rfl rfl rfl (by decide +kernel) ⟨by rw [hR]; exact Nat.le_of_ble_eq_true rfl, by rw [hR]; exact Nat.le_of_ble_eq_true rfl⟩) ⟨gPre_blind, g_recv C h 106 (by decide) (ci := 10) rfl rfl, gS_pre C h _⟩ rfl rfl hl.1 rfl (lv_room (Nat.le_of_ble_eq_true rfl)) dX10_back_184 ⟨Nat.zero_le _, Nat.zero_le _⟩) h (fun r_205 v_207 w_208 g_209 H locs p_206 h => ?_)
                                        obtain ⟨p_206, rfl, rfl, rfl⟩ := p_206
                                        refine lv_isub hx hb dX10_back_187 ?_
                                        refine lv_topi (fun x_210 e_211 => ?_)
                                        have q_212 := i_rng x_210
                                        refine lv_i2l (v := (x_210 : Int32).toInt64) hx hb dX10_back_188 rfl ?_
                                        refine g_last C h 110 (by decide) (by decide) (n := 3) (by decide) (vp_of rfl (by omega) (by omega)) dX10_back_189 (fun H locs h => ?_)
                                        obtain ⟨w_213, hw_213⟩ : ∃ z, z = gul w_112 110 ((y_111 : Int32).toNatClampNeg) ((x_210 : Int32).toInt64) := ⟨_, rfl⟩
                                        have h : gS (gA G) G s v_58 w_213 sg H locs := by rw [hw_213]; exact h
                                        have u_214 : fM 109 112 5 7 v w v_58 w_213 := by rw [hw_213]; exact (fM_w u_114 (by decide))
                                        obtain ⟨x_215, e_216⟩ : ∃ y : Int32, y = y_111 + 1 := ⟨_, rfl⟩
                                        have i_217 : x_215.toInt = (y_111).toInt + 1 := ia_add e_216 rfl (by decide) (by omega) (by omega)
                                        refine lv_iinc (v := x_215) (lv' := [(8, .int (x_215)), (0, .ref (G.2.2 (106))), (1, .int (p1)), (2, .int (p2)), (3, .int (p3)), (4, .int (p4)), (5, .long (r_39)), (7, .int (y_57))]) hx hb dX10_back_190 hl (k := 7) rfl (by rw [e_216]; rfl) (by decide) rfl (fun ls hl => ?_)
                                        refine lv_goto (tgt := 131) hx hb dX10_back_193 (by decide) ?_
                                        exact ih131 x_215 w_213 _ _ _ (by omega) u_113 u_214 (by omega) h (lv_sub hl [1, 2, 3, 4, 5, 6, 7, 0] rfl)
                                      refine lv_if_ne (tgt := 152) hx hb dX10_back_145 (by decide) (fun c_218 => ?_) (fun c_218 => ?_)
                                      · have j_219 : ¬ ((y_111).toInt = 0) := fun q => c_218 ((i_eq rfl (by decide)).mpr q)
                                        refine lv_iload hx hb dX10_back_152 (lv_at hl 7 rfl) ?_
                                        refine lv_iconst (v := 1) hx hb dX10_back_154 (by decide) ?_
                                        refine lv_icmp_ne (tgt := 162) hx hb dX10_back_155 (by decide) (fun c_220 => ?_) (fun c_220 => ?_)
                                        · have j_221 : ¬ ((y_111).toInt = 1) := fun q => c_220 ((i_eq rfl (by decide)).mpr q)
                                          refine lv_iload_n hx hb dX10_back_162 rfl (lv_at hl 3 rfl) ?_
                                          exact J163_198 p3 _ _ _  h (lv_sub hl [0, 1, 2, 3, 4, 5, 6, 7] rfl)
                                        · have j_221 : (y_111).toInt = 1 := (i_eq rfl (by decide)).mp c_220
                                          refine lv_iload_n hx hb dX10_back_158 rfl (lv_at hl 2 rfl) ?_
                                          refine lv_goto (tgt := 163) hx hb dX10_back_159 (by decide) ?_
                                          exact J163_198 p2 _ _ _  h (lv_sub hl [0, 1, 2, 3, 4, 5, 6, 7] rfl)
                                      · have j_219 : (y_111).toInt = 0 := (i_eq rfl (by decide)).mp c_218
                                        refine lv_iload_n hx hb dX10_back_148 rfl (lv_at hl 1 rfl) ?_
                                        refine lv_goto (tgt := 163) hx hb dX10_back_149 (by decide) ?_
                                        exact J163_198 p1 _ _ _  h (lv_sub hl [0, 1, 2, 3, 4, 5, 6, 7] rfl)
                                refine lv_istore (lv' := [(8, .int (0)), (0, .ref (G.2.2 (106))), (1, .int (p1)), (2, .int (p2)), (3, .int (p3)), (4, .int (p4)), (5, .long (r_39)), (7, .int (y_57))]) hx hb dX10_back_129 hl (by decide) rfl (fun ls hl => ?_)
                                exact J131_112 _ 0 w_59 _ _ _ (Nat.lt_succ_self _) u_60 u_61 (by omega) h (lv_sub hl [1, 2, 3, 4, 5, 6, 7, 0] rfl)
                        refine lv_istore (lv' := [(7, .int (0)), (0, .ref (G.2.2 (106))), (1, .int (p1)), (2, .int (p2)), (3, .int (p3)), (4, .int (p4)), (5, .long (r_39))]) hx hb dX10_back_112 hl (by decide) rfl (fun ls hl => ?_)
                        exact J114_59 _ 0 v_54 w_31 _ _ _ (Nat.lt_succ_self _) u_55 u_56 (by omega) h (lv_sub hl [1, 2, 3, 4, 5, 6, 0] rfl)
                      · have j_53 : ¬ (3 ≤ (y_46).toInt) := fun q => c_52 ((i_le (by decide) rfl).mpr q)
                        refine lv_aload_n hx hb dX10_back_92 rfl (lv_at hl 0 rfl) ?_
                        refine g_get (ci := 10) (x := .ref (G.2.2 (111))) C h 106 (by decide) rfl rfl hi10 4 (by decide) f23 rfl rfl dX10_back_93 ?_
                        refine lv_iload hx hb dX10_back_96 (lv_at hl 6 rfl) ?_
                        refine lv_iconst (v := 0) hx hb dX10_back_98 (by decide) ?_
                        refine g_iast C h 111 (by decide) (by decide) (n := 3) (by decide) (vp_of rfl (by omega) (by omega)) dX10_back_99 (fun H locs h => ?_)
                        obtain ⟨v_222, hv_222⟩ : ∃ z, z = gu v_47 111 ((y_46 : Int32).toNatClampNeg) 0 := ⟨_, rfl⟩
                        have h : gS (gA G) G s v_222 w_31 sg H locs := by rw [hv_222]; exact h
                        have u_223 : mI v_222 := by rw [hv_222]; exact u_48
                        have u_224 : fM 109 112 5 7 v w v_222 w_31 := by rw [hv_222]; exact (fM_v u_49 (by decide))
                        obtain ⟨x_225, e_226⟩ : ∃ y : Int32, y = y_46 + 1 := ⟨_, rfl⟩
                        have i_227 : x_225.toInt = (y_46).toInt + 1 := ia_add e_226 rfl (by decide) (by omega) (by omega)
                        refine lv_iinc (v := x_225) (lv' := [(7, .int (x_225)), (0, .ref (G.2.2 (106))), (1, .int (p1)), (2, .int (p2)), (3, .int (p3)), (4, .int (p4)), (5, .long (r_39))]) hx hb dX10_back_100 hl (k := 6) rfl (by rw [e_226]; rfl) (by decide) rfl (fun ls hl => ?_)
                        refine lv_goto (tgt := 86) hx hb dX10_back_103 (by decide) ?_
                        exact ih86 x_225 v_222 _ _ _ (by omega) u_223 u_224 (by omega) h (lv_sub hl [1, 2, 3, 4, 5, 6, 0] rfl)
                  refine lv_istore (lv' := [(7, .int (0)), (5, .long (r_39)), (0, .ref (G.2.2 (106))), (1, .int (p1)), (2, .int (p2)), (3, .int (p3)), (4, .int (p4))]) hx hb dX10_back_84 hl (by decide) rfl (fun ls hl => ?_)
                  exact J86_47 _ 0 v _ _ _ (Nat.lt_succ_self _) u_32 u_33 (by omega) h (lv_sub hl [2, 3, 4, 5, 6, 1, 0] rfl)
                · have j_45 : (r_39).toInt = 0 := (l_eq0 rfl (by decide)).mp c_44
                  refine lv_bipush (v := (-2)) hx hb dX10_back_80 (by decide) ?_
                  exact ret (-2) v w_31 sg _ _ _ _ dX10_back_82 h ⟨⟨u_32, u_33⟩, rfl⟩
              · have j_38 : ¬ (9 ≤ (y_30).toInt) := fun q => c_37 ((i_le (by decide) rfl).mpr q)
                refine lv_aload_n hx hb dX10_back_46 rfl (lv_at hl 0 rfl) ?_
                refine g_get (ci := 10) (x := .ref (G.2.2 (109))) C h 106 (by decide) rfl rfl hi10 2 (by decide) f16 rfl rfl dX10_back_47 ?_
                refine lv_iload hx hb dX10_back_50 (lv_at hl 5 rfl) ?_
                refine lv_aload_n hx hb dX10_back_52 rfl (lv_at hl 0 rfl) ?_
                refine g_get (ci := 10) (x := .ref (G.2.2 (107))) C h 106 (by decide) rfl rfl hi10 0 (by decide) f7 rfl rfl dX10_back_53 ?_
                refine lv_iload hx hb dX10_back_56 (lv_at hl 5 rfl) ?_
                refine g_iald C h 107 (by decide) (by decide) (n := 9) (by decide) (vp_of rfl (by omega) (by omega)) dX10_back_58 ?_
                refine lv_topi (fun x_228 e_229 => ?_)
                have q_230 := i_rng x_228
                refine lv_i2l (v := (x_228 : Int32).toInt64) hx hb dX10_back_59 rfl ?_
                refine g_last C h 109 (by decide) (by decide) (n := 9) (by decide) (vp_of rfl (by omega) (by omega)) dX10_back_60 (fun H locs h => ?_)
                obtain ⟨w_231, hw_231⟩ : ∃ z, z = gul w_31 109 ((y_30 : Int32).toNatClampNeg) ((x_228 : Int32).toInt64) := ⟨_, rfl⟩
                have h : gS (gA G) G s v w_231 sg H locs := by rw [hw_231]; exact h
                have u_232 : fM 109 112 5 7 v w v w_231 := by rw [hw_231]; exact (fM_w u_33 (by decide))
                obtain ⟨x_233, e_234⟩ : ∃ y : Int32, y = y_30 + 1 := ⟨_, rfl⟩
                have i_235 : x_233.toInt = (y_30).toInt + 1 := ia_add e_234 rfl (by decide) (by omega) (by omega)
                refine lv_iinc (v := x_233) (lv' := [(5, .int (x_233)), (0, .ref (G.2.2 (106))), (1, .int (p1)), (2, .int (p2)), (3, .int (p3)), (4, .int (p4))]) hx hb dX10_back_61 hl (k := 5) rfl (by rw [e_234]; rfl) (by decide) rfl (fun ls hl => ?_)
                refine lv_goto (tgt := 39) hx hb dX10_back_64 (by decide) ?_
                exact ih39 x_233 w_231 _ _ _ (by omega) u_32 u_232 (by omega) (by rw [hw_231]; exact fill_w f_35 rfl (by omega) (by omega) (by subst_vars; rfl)) h (lv_sub hl [1, 2, 3, 4, 5, 0] rfl)
          refine lv_istore (lv' := [(5, .int (0)), (0, .ref (G.2.2 (106))), (1, .int (p1)), (2, .int (p2)), (3, .int (p3)), (4, .int (p4))]) hx hb dX10_back_37 hl (by decide) rfl (fun ls hl => ?_)
          exact J39_31 _ 0 w _ _ _ (Nat.lt_succ_self _) mi fM_rf (by omega) (by intro j hj; omega) h (lv_sub hl [1, 2, 3, 4, 5, 0] rfl)
        · skip
          refine lv_if_ne (tgt := 36) hx hb dX10_back_31 (by decide) (fun c_236 => absurd (by decide) c_236) (fun _ => ?_)
          refine lv_iconst (v := (-1)) hx hb dX10_back_34 (by decide) ?_
          exact ret (-1) v w sg _ _ _ _ dX10_back_35 h ⟨⟨mi, fM_rf⟩, rfl⟩
      · skip
        refine lv_if_eq (tgt := 34) hx hb dX10_back_18 (by decide) (fun _ => ?_) (fun c_237 => absurd (by decide) c_237)
        refine lv_iconst (v := (-1)) hx hb dX10_back_34 (by decide) ?_
        exact ret (-1) v w sg _ _ _ _ dX10_back_35 h ⟨⟨mi, fM_rf⟩, rfl⟩
    · skip
      refine lv_if_eq (tgt := 34) hx hb dX10_back_11 (by decide) (fun _ => ?_) (fun c_238 => absurd (by decide) c_238)
      refine lv_iconst (v := (-1)) hx hb dX10_back_34 (by decide) ?_
      exact ret (-1) v w sg _ _ _ _ dX10_back_35 h ⟨⟨mi, fM_rf⟩, rfl⟩
  · skip
    refine lv_if_eq (tgt := 34) hx hb dX10_back_4 (by decide) (fun _ => ?_) (fun c_239 => absurd (by decide) c_239)
    refine lv_iconst (v := (-1)) hx hb dX10_back_34 (by decide) ?_
    exact ret (-1) v w sg _ _ _ _ dX10_back_35 h ⟨⟨mi, fM_rf⟩, rfl⟩
