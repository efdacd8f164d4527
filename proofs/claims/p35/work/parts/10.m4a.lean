set_option maxHeartbeats 4000000 in
set_option maxRecDepth 100000 in
theorem c_X10_point (l : Launch) (G : gG) (v : Nat → Nat → Int32) (w : Nat → Nat → Int64) (sg : Nat → Nat) (p1 : Int32) {A1 : Int} (a1 : p1.toInt = A1) (p2 : Int32) {A2 : Int} (a2 : p2.toInt = A2) (p3 : Int32) {A3 : Int} (a3 : p3.toInt = A3) (p4 : Int32) {A4 : Int} (a4 : p4.toInt = A4) (p5 : Int32) {A5 : Int} (a5 : p5.toInt = A5) (p6 : Int32) {A6 : Int} (a6 : p6.toInt = A6) (mi : mI v) : Met l yX10_point wsX10_point ({ frames := 2, cells := 0, slots := 0, locals := 45 }) (gPre G v w sg [.ref (G.2.2 (106)), .int (p1), .int (p2), .int (p3), .int (p4), .int (p5), .int (p6)]) (gQi G (fun r v' w' sg' => (mI v' ∧ fM 112 114 7 8 v w v' w ∧ ((¬ rF7 A1 A2 A3 A4 A5 A6 ∧ r = -1 ∧ v' = v) ∨ (rF7 A1 A2 A3 A4 A5 A6 ∧ 12 ≤ (v 106 7).toInt ∧ r = -3 ∧ v' = v) ∨ (rF7 A1 A2 A3 A4 A5 A6 ∧ (v 106 7).toInt < 12 ∧ r = v 106 7 + 1 ∧ v' = (gu (gu (gu (gu (gu (gu (gu v 112 (3 * (v 106 7).toInt).toNat p1) 112 (3 * (v 106 7).toInt + 1).toNat p2) 112 (3 * (v 106 7).toInt + 2).toNat p3) 113 (3 * (v 106 7).toInt).toNat p4) 113 (3 * (v 106 7).toInt + 1).toNat p5) 113 (3 * (v 106 7).toInt + 2).toNat p6) 106 7 (v 106 7 + 1))))) ∧ w = w' ∧ sg = sg')) 0 0 (gA G) := by
  refine gM_ofi (cc := cX10_point) (maxL := 8) (by decide) rfl (Nat.le_of_ble_eq_true rfl) ?_
  intro p e R s m args below meth c Q ls C hR ret h hl
  have hx := C.1.1
  have hb := C.1.2.1
  have hown := C.1.2.2.2.1
  have hts := C.1.2.2.2.2
  have hl : lv_has ls 8 [(0, .ref (G.2.2 (106))), (1, .int (p1)), (2, .int (p2)), (3, .int (p3)), (4, .int (p4)), (5, .int (p5)), (6, .int (p6))] := hl
  have q1 := i_rng p1; rw [a1] at q1
  have q2 := i_rng p2; rw [a2] at q2
  have q3 := i_rng p3; rw [a3] at q3
  have q4 := i_rng p4; rw [a4] at q4
  have q5 := i_rng p5; rw [a5] at q5
  have q6 := i_rng p6; rw [a6] at q6
  have z_m3 : ((-3) : Int32).toInt = (-3) := by decide
  have z_m1 : ((-1) : Int32).toInt = (-1) := by decide
  have z_0 : (0 : Int32).toInt = 0 := by decide
  have z_1 : (1 : Int32).toInt = 1 := by decide
  have z_2 : (2 : Int32).toInt = 2 := by decide
  have z_3 : (3 : Int32).toInt = 3 := by decide
  have z_12 : (12 : Int32).toInt = 12 := by decide
  have f170 : Cond.fieldLink RX10 170 "WindHallModel" "points" "I" ∈ wsX10_point := by decide +kernel
  have hi10 : ∀ x ∈ u_ws RX10 TX10 42, x ∈ wsX10_point := fun x q => List.mem_cons_of_mem _ (List.mem_append_right _ q)
  have f26 : Cond.fieldLink RX10 26 "WindHallModel" "pLoads" "[I" ∈ wsX10_point := by decide +kernel
  have f29 : Cond.fieldLink RX10 29 "WindHallModel" "pReads" "[I" ∈ wsX10_point := by decide +kernel
  have o_1 := mi
  obtain ⟨I7, I10, I18, I22, I27, I29, I32, Is, I35, Ia, Iar, Isz, Ian⟩ := o_1
  refine lv_iload_n hx hb dX10_point_0 rfl (lv_at hl 1 rfl) ?_
  refine g_calli C (va_runS (As := [.int (p1)]) (rest := []) C.1 (c_X10_isLoad l G v w sg p1 (A0 := A1) a1) (va_cwS 1 hts gX10_point_X10_isLoad rfl rfl rfl (by decide +kernel) ⟨by rw [hR]; exact Nat.le_of_ble_eq_true rfl, by rw [hR]; exact Nat.le_of_ble_eq_true rfl⟩) ⟨gPre_blind, gS_pre C h _⟩ rfl rfl hl.1 rfl (lv_room (Nat.le_of_ble_eq_true rfl)) dX10_point_1 ⟨Nat.zero_le _, Nat.zero_le _⟩) h (fun r_2 v_4 w_5 g_6 H locs p_3 h => ?_)
  obtain ⟨p_3, rfl, rfl, rfl⟩ := p_3
  rcases p_3 with ⟨rfl, t_7⟩ | ⟨rfl, t_7⟩
  · skip
    refine lv_if_eq (tgt := 45) hx hb dX10_point_4 (by decide) (fun c_8 => absurd c_8 (by decide)) (fun _ => ?_)
    refine lv_iload_n hx hb dX10_point_7 rfl (lv_at hl 2 rfl) ?_
    refine g_calli C (va_runS (As := [.int (p2)]) (rest := []) C.1 (c_X10_isLoad l G v w sg p2 (A0 := A2) a2) (va_cwS 1 hts gX10_point_X10_isLoad rfl rfl rfl (by decide +kernel) ⟨by rw [hR]; exact Nat.le_of_ble_eq_true rfl, by rw [hR]; exact Nat.le_of_ble_eq_true rfl⟩) ⟨gPre_blind, gS_pre C h _⟩ rfl rfl hl.1 rfl (lv_room (Nat.le_of_ble_eq_true rfl)) dX10_point_8 ⟨Nat.zero_le _, Nat.zero_le _⟩) h (fun r_9 v_11 w_12 g_13 H locs p_10 h => ?_)
    obtain ⟨p_10, rfl, rfl, rfl⟩ := p_10
    rcases p_10 with ⟨rfl, t_14⟩ | ⟨rfl, t_14⟩
    · skip
      refine lv_if_eq (tgt := 45) hx hb dX10_point_11 (by decide) (fun c_15 => absurd c_15 (by decide)) (fun _ => ?_)
      refine lv_iload_n hx hb dX10_point_14 rfl (lv_at hl 3 rfl) ?_
      refine g_calli C (va_runS (As := [.int (p3)]) (rest := []) C.1 (c_X10_isLoad l G v w sg p3 (A0 := A3) a3) (va_cwS 1 hts gX10_point_X10_isLoad rfl rfl rfl (by decide +kernel) ⟨by rw [hR]; exact Nat.le_of_ble_eq_true rfl, by rw [hR]; exact Nat.le_of_ble_eq_true rfl⟩) ⟨gPre_blind, gS_pre C h _⟩ rfl rfl hl.1 rfl (lv_room (Nat.le_of_ble_eq_true rfl)) dX10_point_15 ⟨Nat.zero_le _, Nat.zero_le _⟩) h (fun r_16 v_18 w_19 g_20 H locs p_17 h => ?_)
      obtain ⟨p_17, rfl, rfl, rfl⟩ := p_17
      rcases p_17 with ⟨rfl, t_21⟩ | ⟨rfl, t_21⟩
      · skip
        refine lv_if_eq (tgt := 45) hx hb dX10_point_18 (by decide) (fun c_22 => absurd c_22 (by decide)) (fun _ => ?_)
        refine lv_iload hx hb dX10_point_21 (lv_at hl 4 rfl) ?_
        refine g_calli C (va_runS (As := [.int (p4)]) (rest := []) C.1 (c_X10_isReading l G v w sg p4 (A0 := A4) a4) (va_cwS 1 hts gX10_point_X10_isReading rfl rfl rfl (by decide +kernel) ⟨by rw [hR]; exact Nat.le_of_ble_eq_true rfl, by rw [hR]; exact Nat.le_of_ble_eq_true rfl⟩) ⟨gPre_blind, gS_pre C h _⟩ rfl rfl hl.1 rfl (lv_room (Nat.le_of_ble_eq_true rfl)) dX10_point_23 ⟨Nat.zero_le _, Nat.zero_le _⟩) h (fun r_23 v_25 w_26 g_27 H locs p_24 h => ?_)
        obtain ⟨p_24, rfl, rfl, rfl⟩ := p_24
        rcases p_24 with ⟨rfl, t_28⟩ | ⟨rfl, t_28⟩
        · skip
          refine lv_if_eq (tgt := 45) hx hb dX10_point_26 (by decide) (fun c_29 => absurd c_29 (by decide)) (fun _ => ?_)
          refine lv_iload hx hb dX10_point_29 (lv_at hl 5 rfl) ?_
          refine g_calli C (va_runS (As := [.int (p5)]) (rest := []) C.1 (c_X10_isReading l G v w sg p5 (A0 := A5) a5) (va_cwS 1 hts gX10_point_X10_isReading rfl rfl rfl (by decide +kernel) ⟨by rw [hR]; exact Nat.le_of_ble_eq_true rfl, by rw [hR]; exact Nat.le_of_ble_eq_true rfl⟩) ⟨gPre_blind, gS_pre C h _⟩ rfl rfl hl.1 rfl (lv_room (Nat.le_of_ble_eq_true rfl)) dX10_point_31 ⟨Nat.zero_le _, Nat.zero_le _⟩) h (fun r_30 v_32 w_33 g_34 H locs p_31 h => ?_)
          obtain ⟨p_31, rfl, rfl, rfl⟩ := p_31
          rcases p_31 with ⟨rfl, t_35⟩ | ⟨rfl, t_35⟩
          · skip
            refine lv_if_eq (tgt := 45) hx hb dX10_point_34 (by decide) (fun c_36 => absurd c_36 (by decide)) (fun _ => ?_)
            refine lv_iload hx hb dX10_point_37 (lv_at hl 6 rfl) ?_
            refine g_calli C (va_runS (As := [.int (p6)]) (rest := []) C.1 (c_X10_isReading l G v w sg p6 (A0 := A6) a6) (va_cwS 1 hts gX10_point_X10_isReading rfl rfl rfl (by decide +kernel) ⟨by rw [hR]; exact Nat.le_of_ble_eq_true rfl, by rw [hR]; exact Nat.le_of_ble_eq_true rfl⟩) ⟨gPre_blind, gS_pre C h _⟩ rfl rfl hl.1 rfl (lv_room (Nat.le_of_ble_eq_true rfl)) dX10_point_39 ⟨Nat.zero_le _, Nat.zero_le _⟩) h (fun r_37 v_39 w_40 g_41 H locs p_38 h => ?_)
            obtain ⟨p_38, rfl, rfl, rfl⟩ := p_38
            rcases p_38 with ⟨rfl, t_42⟩ | ⟨rfl, t_42⟩
            · skip
              refine lv_if_ne (tgt := 47) hx hb dX10_point_42 (by decide) (fun _ => ?_) (fun c_43 => absurd c_43 (by decide))
              refine lv_aload_n hx hb dX10_point_47 rfl (lv_at hl 0 rfl) ?_
              refine g_geti (ci := 10) (x := v 106 7) C h 106 (by decide) rfl rfl hi10 7 (by decide) f170 rfl rfl rfl dX10_point_48 ?_
              refine lv_bipush (v := 12) hx hb dX10_point_51 (by decide) ?_
              refine lv_icmp_ne (tgt := 59) hx hb dX10_point_53 (by decide) (fun c_44 => ?_) (fun c_44 => ?_)
              · have j_45 : ¬ ((v 106 7).toInt = 12) := fun q => c_44 ((i_eq rfl (by decide)).mpr q)
                refine lv_iconst (v := 3) hx hb dX10_point_59 (by decide) ?_
                refine lv_aload_n hx hb dX10_point_60 rfl (lv_at hl 0 rfl) ?_
                refine g_geti (ci := 10) (x := v 106 7) C h 106 (by decide) rfl rfl hi10 7 (by decide) f170 rfl rfl rfl dX10_point_61 ?_
                refine lv_imul hx hb dX10_point_64 ?_
                refine lv_topi (fun x_46 e_47 => ?_)
                have i_48 : x_46.toInt = 3 * (v 106 7).toInt := ia_mul e_47 (by decide) rfl (by omega) (by omega)
                refine lv_istore (lv' := [(7, .int (x_46)), (0, .ref (G.2.2 (106))), (1, .int (p1)), (2, .int (p2)), (3, .int (p3)), (4, .int (p4)), (5, .int (p5)), (6, .int (p6))]) hx hb dX10_point_65 hl (by decide) rfl (fun ls hl => ?_)
                refine lv_aload_n hx hb dX10_point_67 rfl (lv_at hl 1 rfl) ?_
                refine g_get (ci := 10) (x := .ref (G.2.2 (112))) C h 106 (by decide) rfl rfl hi10 8 (by decide) f26 rfl rfl dX10_point_68 ?_
                refine lv_iload hx hb dX10_point_71 (lv_at hl 0 rfl) ?_
                refine lv_iload_n hx hb dX10_point_73 rfl (lv_at hl 2 rfl) ?_
                refine g_iast C h 112 (by decide) (by decide) (n := 36) (by decide) (vp_of i_48 (by omega) (by omega)) dX10_point_74 (fun H locs h => ?_)
                obtain ⟨v_49, hv_49⟩ : ∃ z, z = gu v 112 ((x_46 : Int32).toNatClampNeg) p1 := ⟨_, rfl⟩
                have h : gS (gA G) G s v_49 w sg H locs := by rw [hv_49]; exact h
                have u_50 : mI v_49 := by rw [hv_49]; exact mi
                have u_51 : fM 112 114 7 8 v w v_49 w := by rw [hv_49]; exact (fM_v fM_rf (by decide))
                refine lv_aload_n hx hb dX10_point_75 rfl (lv_at hl 1 rfl) ?_
                refine g_get (ci := 10) (x := .ref (G.2.2 (112))) C h 106 (by decide) rfl rfl hi10 8 (by decide) f26 rfl rfl dX10_point_76 ?_
                refine lv_iload hx hb dX10_point_79 (lv_at hl 0 rfl) ?_
                refine lv_iconst (v := 1) hx hb dX10_point_81 (by decide) ?_
                refine lv_iadd hx hb dX10_point_82 ?_
                refine lv_topi (fun x_52 e_53 => ?_)
                have i_54 : x_52.toInt = (3 * (v 106 7).toInt) + 1 := ia_add e_53 i_48 (by decide) (by omega) (by omega)
                refine lv_iload_n hx hb dX10_point_83 rfl (lv_at hl 3 rfl) ?_
                refine g_iast C h 112 (by decide) (by decide) (n := 36) (by decide) (vp_of i_54 (by omega) (by omega)) dX10_point_84 (fun H locs h => ?_)
                obtain ⟨v_55, hv_55⟩ : ∃ z, z = gu v_49 112 ((x_52 : Int32).toNatClampNeg) p2 := ⟨_, rfl⟩
                have h : gS (gA G) G s v_55 w sg H locs := by rw [hv_55]; exact h
                have u_56 : mI v_55 := by rw [hv_55]; exact u_50
                have u_57 : fM 112 114 7 8 v w v_55 w := by rw [hv_55]; exact (fM_v u_51 (by decide))
                refine lv_aload_n hx hb dX10_point_85 rfl (lv_at hl 1 rfl) ?_
                refine g_get (ci := 10) (x := .ref (G.2.2 (112))) C h 106 (by decide) rfl rfl hi10 8 (by decide) f26 rfl rfl dX10_point_86 ?_
                refine lv_iload hx hb dX10_point_89 (lv_at hl 0 rfl) ?_
                refine lv_iconst (v := 2) hx hb dX10_point_91 (by decide) ?_
                refine lv_iadd hx hb dX10_point_92 ?_
                refine lv_topi (fun x_58 e_59 => ?_)
                have i_60 : x_58.toInt = (3 * (v 106 7).toInt) + 2 := ia_add e_59 i_48 (by decide) (by omega) (by omega)
                refine lv_iload_n hx hb dX10_point_93 rfl (lv_at hl 4 rfl) ?_
                refine g_iast C h 112 (by decide) (by decide) (n := 36) (by decide) (vp_of i_60 (by omega) (by omega)) dX10_point_94 (fun H locs h => ?_)
                obtain ⟨v_61, hv_61⟩ : ∃ z, z = gu v_55 112 ((x_58 : Int32).toNatClampNeg) p3 := ⟨_, rfl⟩
                have h : gS (gA G) G s v_61 w sg H locs := by rw [hv_61]; exact h
                have u_62 : mI v_61 := by rw [hv_61]; exact u_56
                have u_63 : fM 112 114 7 8 v w v_61 w := by rw [hv_61]; exact (fM_v u_57 (by decide))
                refine lv_aload_n hx hb dX10_point_95 rfl (lv_at hl 1 rfl) ?_
                refine g_get (ci := 10) (x := .ref (G.2.2 (113))) C h 106 (by decide) rfl rfl hi10 9 (by decide) f29 rfl rfl dX10_point_96 ?_
                refine lv_iload hx hb dX10_point_99 (lv_at hl 0 rfl) ?_
                refine lv_iload hx hb dX10_point_101 (lv_at hl 5 rfl) ?_
                refine g_iast C h 113 (by decide) (by decide) (n := 36) (by decide) (vp_of i_48 (by omega) (by omega)) dX10_point_103 (fun H locs h => ?_)
                obtain ⟨v_64, hv_64⟩ : ∃ z, z = gu v_61 113 ((x_46 : Int32).toNatClampNeg) p4 := ⟨_, rfl⟩
                have h : gS (gA G) G s v_64 w sg H locs := by rw [hv_64]; exact h
                have u_65 : mI v_64 := by rw [hv_64]; exact u_62
                have u_66 : fM 112 114 7 8 v w v_64 w := by rw [hv_64]; exact (fM_v u_63 (by decide))
                refine lv_aload_n hx hb dX10_point_104 rfl (lv_at hl 1 rfl) ?_
                refine g_get (ci := 10) (x := .ref (G.2.2 (113))) C h 106 (by decide) rfl rfl hi10 9 (by decide) f29 rfl rfl dX10_point_105 ?_
                refine lv_iload hx hb dX10_point_108 (lv_at hl 0 rfl) ?_
                refine lv_iconst (v := 1) hx hb dX10_point_110 (by decide) ?_
                refine lv_iadd hx hb dX10_point_111 ?_
                refine lv_topi (fun x_67 e_68 => ?_)
                have i_69 : x_67.toInt = (3 * (v 106 7).toInt) + 1 := ia_add e_68 i_48 (by decide) (by omega) (by omega)
                refine lv_iload hx hb dX10_point_112 (lv_at hl 6 rfl) ?_
                refine g_iast C h 113 (by decide) (by decide) (n := 36) (by decide) (vp_of i_69 (by omega) (by omega)) dX10_point_114 (fun H locs h => ?_)
                obtain ⟨v_70, hv_70⟩ : ∃ z, z = gu v_64 113 ((x_67 : Int32).toNatClampNeg) p5 := ⟨_, rfl⟩
                have h : gS (gA G) G s v_70 w sg H locs := by rw [hv_70]; exact h
                have u_71 : mI v_70 := by rw [hv_70]; exact u_65
                have u_72 : fM 112 114 7 8 v w v_70 w := by rw [hv_70]; exact (fM_v u_66 (by decide))
                refine lv_aload_n hx hb dX10_point_115 rfl (lv_at hl 1 rfl) ?_
                refine g_get (ci := 10) (x := .ref (G.2.2 (113))) C h 106 (by decide) rfl rfl hi10 9 (by decide) f29 rfl rfl dX10_point_116 ?_
                refine lv_iload hx hb dX10_point_119 (lv_at hl 0 rfl) ?_
                refine lv_iconst (v := 2) hx hb dX10_point_121 (by decide) ?_
                refine lv_iadd hx hb dX10_point_122 ?_
                refine lv_topi (fun x_73 e_74 => ?_)
                have i_75 : x_73.toInt = (3 * (v 106 7).toInt) + 2 := ia_add e_74 i_48 (by decide) (by omega) (by omega)
                refine lv_iload hx hb dX10_point_123 (lv_at hl 7 rfl) ?_
                refine g_iast C h 113 (by decide) (by decide) (n := 36) (by decide) (vp_of i_75 (by omega) (by omega)) dX10_point_125 (fun H locs h => ?_)
                obtain ⟨v_76, hv_76⟩ : ∃ z, z = gu v_70 113 ((x_73 : Int32).toNatClampNeg) p6 := ⟨_, rfl⟩
                have h : gS (gA G) G s v_76 w sg H locs := by rw [hv_76]; exact h
                have u_77 : mI v_76 := by rw [hv_76]; exact u_71
                have u_78 : fM 112 114 7 8 v w v_76 w := by rw [hv_76]; exact (fM_v u_72 (by decide))
                refine lv_aload_n hx hb dX10_point_126 rfl (lv_at hl 1 rfl) ?_
                refine lv_dup hx hb dX10_point_127 rfl ?_
                refine g_geti (ci := 10) (x := v 106 7) C h 106 (by decide) rfl rfl hi10 7 (by decide) f170 rfl rfl (by rw [hv_76, hv_70, hv_64, hv_61, hv_55, hv_49] <;> rfl) dX10_point_128 ?_
                refine lv_iconst (v := 1) hx hb dX10_point_131 (by decide) ?_
                refine lv_iadd hx hb dX10_point_132 ?_
                refine lv_topi (fun x_79 e_80 => ?_)
                have i_81 : x_79.toInt = (v 106 7).toInt + 1 := ia_add e_80 rfl (by decide) (by omega) (by omega)
                refine g_put (ci := 10) (x := x_79) (ty := .int) C h 106 (by decide) rfl rfl hi10 tyX10 tyX10_ok nmX10 7 (by decide) f170 rfl rfl (by decide +kernel) rfl rfl (Nat.le_of_ble_eq_true rfl) rfl dX10_point_133 (fun H locs h => ?_)
                obtain ⟨v_82, hv_82⟩ : ∃ z, z = gu v_76 106 7 x_79 := ⟨_, rfl⟩
                have h : gS (gA G) G s v_82 w sg H locs := by rw [hv_82]; exact h
                have u_83 : mI v_82 := by rw [hv_82]; exact (mI_7 u_77 (by omega))
                have u_84 : fM 112 114 7 8 v w v_82 w := by rw [hv_82]; exact (fM_f u_78 (by decide))
                refine lv_aload_n hx hb dX10_point_136 rfl (lv_at hl 1 rfl) ?_
                refine g_geti (ci := 10) (x := x_79) C h 106 (by decide) rfl rfl hi10 7 (by decide) f170 rfl rfl (by rw [hv_82] <;> rfl) dX10_point_137 ?_
                exact ret x_79 v_82 w sg _ _ _ _ dX10_point_140 h ⟨⟨u_83, u_84, Or.inr (Or.inr ⟨by unfold rF7; omega, by omega, by assumption, (by rw [hv_82, hv_76, hv_70, hv_64, hv_61, hv_55, hv_49] <;> exact (gu_cg (gu_cg (gu_cg (gu_cg (gu_cg (gu_cg (gu_cg rfl rfl ((cl_nat i_48).trans (by omega)) rfl) rfl ((cl_nat i_54).trans (by omega)) rfl) rfl ((cl_nat i_60).trans (by omega)) rfl) rfl ((cl_nat i_48).trans (by omega)) rfl) rfl ((cl_nat i_69).trans (by omega)) rfl) rfl ((cl_nat i_75).trans (by omega)) rfl) rfl rfl e_80))⟩)⟩, rfl, rfl⟩
              · have j_45 : (v 106 7).toInt = 12 := (i_eq rfl (by decide)).mp c_44
                refine lv_bipush (v := (-3)) hx hb dX10_point_56 (by decide) ?_
                exact ret (-3) v w sg _ _ _ _ dX10_point_58 h ⟨⟨mi, fM_rf, Or.inr (Or.inl ⟨by unfold rF7; omega, by omega, rfl, rfl⟩)⟩, rfl, rfl⟩
            · skip
              refine lv_if_ne (tgt := 47) hx hb dX10_point_42 (by decide) (fun c_85 => absurd (by decide) c_85) (fun _ => ?_)
              refine lv_iconst (v := (-1)) hx hb dX10_point_45 (by decide) ?_
              exact ret (-1) v w sg _ _ _ _ dX10_point_46 h ⟨⟨mi, fM_rf, Or.inl ⟨by unfold rF7; omega, rfl, rfl⟩⟩, rfl, rfl⟩
          · skip
            refine lv_if_eq (tgt := 45) hx hb dX10_point_34 (by decide) (fun _ => ?_) (fun c_86 => absurd (by decide) c_86)
            refine lv_iconst (v := (-1)) hx hb dX10_point_45 (by decide) ?_
            exact ret (-1) v w sg _ _ _ _ dX10_point_46 h ⟨⟨mi, fM_rf, Or.inl ⟨by unfold rF7; omega, rfl, rfl⟩⟩, rfl, rfl⟩
        · skip
          refine lv_if_eq (tgt := 45) hx hb dX10_point_26 (by decide) (fun _ => ?_) (fun c_87 => absurd (by decide) c_87)
          refine lv_iconst (v := (-1)) hx hb dX10_point_45 (by decide) ?_
          exact ret (-1) v w sg _ _ _ _ dX10_point_46 h ⟨⟨mi, fM_rf, Or.inl ⟨by unfold rF7; omega, rfl, rfl⟩⟩, rfl, rfl⟩
      · skip
        refine lv_if_eq (tgt := 45) hx hb dX10_point_18 (by decide) (fun _ => ?_) (fun c_88 => absurd (by decide) c_88)
        refine lv_iconst (v := (-1)) hx hb dX10_point_45 (by decide) ?_
        exact ret (-1) v w sg _ _ _ _ dX10_point_46 h ⟨⟨mi, fM_rf, Or.inl ⟨by unfold rF7; omega, rfl, rfl⟩⟩, rfl, rfl⟩
    · skip
      refine lv_if_eq (tgt := 45) hx hb dX10_point_11 (by decide) (fun _ => ?_) (fun c_89 => absurd (by decide) c_89)
      refine lv_iconst (v := (-1)) hx hb dX10_point_45 (by decide) ?_
      exact ret (-1) v w sg _ _ _ _ dX10_point_46 h ⟨⟨mi, fM_rf, Or.inl ⟨by unfold rF7; omega, rfl, rfl⟩⟩, rfl, rfl⟩
  · skip
    refine lv_if_eq (tgt := 45) hx hb dX10_point_4 (by decide) (fun _ => ?_) (fun c_90 => absurd (by decide) c_90)
    refine lv_iconst (v := (-1)) hx hb dX10_point_45 (by decide) ?_
    exact ret (-1) v w sg _ _ _ _ dX10_point_46 h ⟨⟨mi, fM_rf, Or.inl ⟨by unfold rF7; omega, rfl, rfl⟩⟩, rfl, rfl⟩

set_option maxHeartbeats 4000000 in
set_option maxRecDepth 100000 in
theorem c_X10_divisor (l : Launch) (G : gG) (v : Nat → Nat → Int32) (w : Nat → Nat → Int64) (sg : Nat → Nat) (p0 : Int64) {A0 : Int} (a0 : p0.toInt = A0) (p2 : Int64) {A2 : Int} (a2 : p2.toInt = A2) (hd : A2 ≠ 0) : Met l yX10_divisor wsX10_divisor ({ frames := 0, cells := 0, slots := 0, locals := 0 }) (gPre G v w sg [.long (p0), .long (p2)]) (gQl G (fun r v' w' sg' => (r.toInt ≠ 0 ∧ dvP A0 A2 r.toInt) ∧ v = v' ∧ w = w' ∧ sg = sg')) 0 0 (gA G) := by
  refine gM_ofl (cc := cX10_divisor) (maxL := 10) (by decide) rfl (Nat.le_of_ble_eq_true rfl) ?_
  intro p e R s m args below meth c Q ls C hR ret h hl
  have hx := C.1.1
  have hb := C.1.2.1
  have hown := C.1.2.2.2.1
  have hts := C.1.2.2.2.2
  have hl : lv_has ls 10 [(0, .long (p0)), (2, .long (p2))] := hl
  have q0 := l_rng p0; rw [a0] at q0
  have q2 := l_rng p2; rw [a2] at q2
  have z_0 : (0 : Int32).toInt = 0 := by decide
  have z_1 : (1 : Int32).toInt = 1 := by decide
  refine lv_lload_n hx hb dX10_divisor_0 rfl (lv_at hl 0 rfl) ?_
  refine lv_lconst (v := 0) hx hb dX10_divisor_1 (by decide) ?_
  refine W.lcmp hx hb dX10_divisor_2 ?_
  have J12_1 : ∀ (y_1 : Int64) (H : Heap) (locs : List Loc) (ls : Array Slot), (abQ A0 (y_1).toInt) → gS (gA G) G s v w sg H locs → lv_has ls 10 [(0, .long (p0)), (2, .long (p2))] → W p l e R s m args below meth c H locs 0 0 Q (F0 m 12 ls [.long (y_1)]) := by
    intro y_1 H locs ls f_2 h hl
    refine lv_lstore (lv' := [(4, .long (y_1)), (0, .long (p0)), (2, .long (p2))]) hx hb dX10_divisor_12 hl (by decide) rfl (fun ls hl => ?_)
    refine lv_lload_n hx hb dX10_divisor_14 rfl (lv_at hl 2 rfl) ?_
    refine lv_lconst (v := 0) hx hb dX10_divisor_15 (by decide) ?_
    refine W.lcmp hx hb dX10_divisor_16 ?_
    have J26_3 : ∀ (y_3 : Int64) (H : Heap) (locs : List Loc) (ls : Array Slot), ((y_3).toInt ≠ 0) → (abQ A2 (y_3).toInt) → gS (gA G) G s v w sg H locs → lv_has ls 10 [(0, .long (p0)), (2, .long (p2)), (4, .long (y_1))] → W p l e R s m args below meth c H locs 0 0 Q (F0 m 26 ls [.long (y_3)]) := by
      intro y_3 H locs ls f_4 f_5 h hl
      have J28_7 : ∀ (n : Nat) (y_6 : Int64) (y_7 : Int64) (H : Heap) (locs : List Loc) (ls : Array Slot), ((y_7).toInt).natAbs < n → ((y_7).toInt ≠ 0 ∨ (y_6).toInt ≠ 0) → (dvI A0 A2 (y_6).toInt (y_7).toInt) → gS (gA G) G s v w sg H locs → lv_has ls 10 [(0, .long (p0)), (2, .long (p2)), (4, .long (y_6)), (6, .long (y_7))] → W p l e R s m args below meth c H locs 0 0 Q (F0 m 28 ls []) := by
        intro n
        induction n with
        | zero => intro y_6 y_7 H locs ls hm; exact absurd hm (Nat.not_lt_zero _)
        | succ n ih28 =>
          intro y_6 y_7 H locs ls hm f_8 f_9 h hl
          refine lv_lload hx hb dX10_divisor_28 (lv_at hl 3 rfl) ?_
          refine lv_lconst (v := 0) hx hb dX10_divisor_30 (by decide) ?_
          refine W.lcmp hx hb dX10_divisor_31 ?_
          refine lv_if_eq (tgt := 53) hx hb dX10_divisor_32 (by decide) (fun c_10 => ?_) (fun c_10 => ?_)
          · have j_11 : (y_7).toInt = 0 := (l_eq0 rfl (by decide)).mp c_10
            refine lv_lload hx hb dX10_divisor_53 (lv_at hl 2 rfl) ?_
            exact ret y_6 v w sg _ _ _ _ dX10_divisor_55 h ⟨⟨by omega, dv_end f_9 (by omega)⟩, rfl, rfl, rfl⟩
          · have j_11 : ¬ ((y_7).toInt = 0) := fun q => c_10 ((l_eq0 rfl (by decide)).mpr q)
            refine lv_lload hx hb dX10_divisor_35 (lv_at hl 2 rfl) ?_
            refine lv_lload hx hb dX10_divisor_37 (lv_at hl 3 rfl) ?_
            refine lv_lrem hx hb dX10_divisor_39 (l_ne0 rfl (by omega)) ?_
            refine lv_topl (fun x_12 e_13 => ?_)
            refine lv_lstore (lv' := [(8, .long (x_12)), (0, .long (p0)), (2, .long (p2)), (4, .long (y_6)), (6, .long (y_7))]) hx hb dX10_divisor_40 hl (by decide) rfl (fun ls hl => ?_)
            refine lv_lload hx hb dX10_divisor_42 (lv_at hl 4 rfl) ?_
            refine lv_lstore (lv' := [(4, .long (y_7)), (8, .long (x_12)), (0, .long (p0)), (2, .long (p2)), (6, .long (y_7))]) hx hb dX10_divisor_44 hl (by decide) rfl (fun ls hl => ?_)
            refine lv_lload hx hb dX10_divisor_46 (lv_at hl 1 rfl) ?_
            refine lv_lstore (lv' := [(6, .long (x_12)), (4, .long (y_7)), (8, .long (x_12)), (0, .long (p0)), (2, .long (p2))]) hx hb dX10_divisor_48 hl (by decide) rfl (fun ls hl => ?_)
            refine lv_goto (tgt := 28) hx hb dX10_divisor_50 (by decide) ?_
            exact ih28 y_7 x_12 _ _ _ (by have hq := lrem_abs e_13 (by omega); omega) (by omega) (dvI_st f_9 e_13 (by omega)) h (lv_sub hl [3, 4, 1, 0] rfl)
      refine lv_lstore (lv' := [(6, .long (y_3)), (0, .long (p0)), (2, .long (p2)), (4, .long (y_1))]) hx hb dX10_divisor_26 hl (by decide) rfl (fun ls hl => ?_)
      exact J28_7 _ y_1 y_3 _ _ _ (Nat.lt_succ_self _) (by omega) (dvI_0 f_2 f_5) h (lv_sub hl [1, 2, 3, 0] rfl)
    refine lv_if_ge (tgt := 25) hx hb dX10_divisor_17 (by decide) (fun c_14 => ?_) (fun c_14 => ?_)
    · have j_15 : 0 ≤ A2 := (l_ge0 a2 (by decide)).mp c_14
      refine lv_lload_n hx hb dX10_divisor_25 rfl (lv_at hl 2 rfl) ?_
      exact J26_3 p2 _ _ _ (by first | omega | exact l_neg_ne rfl a2 (by omega)) (by first | exact abQ_p (by omega) (by omega) | exact abQ_n (by omega) a2 rfl) h (lv_sub hl [1, 2, 0] rfl)
    · have j_15 : ¬ (0 ≤ A2) := fun q => c_14 ((l_ge0 a2 (by decide)).mpr q)
      refine lv_lload_n hx hb dX10_divisor_20 rfl (lv_at hl 2 rfl) ?_
      refine lv_lneg hx hb dX10_divisor_21 ?_
      refine lv_topl (fun x_16 e_17 => ?_)
      refine lv_goto (tgt := 26) hx hb dX10_divisor_22 (by decide) ?_
      exact J26_3 x_16 _ _ _ (by first | omega | exact l_neg_ne e_17 a2 (by omega)) (by first | exact abQ_p (by omega) (by omega) | exact abQ_n (by omega) a2 e_17) h (lv_sub hl [1, 2, 0] rfl)
  refine lv_if_ge (tgt := 11) hx hb dX10_divisor_3 (by decide) (fun c_18 => ?_) (fun c_18 => ?_)
  · have j_19 : 0 ≤ A0 := (l_ge0 a0 (by decide)).mp c_18
    refine lv_lload_n hx hb dX10_divisor_11 rfl (lv_at hl 0 rfl) ?_
    exact J12_1 p0 _ _ _ (by first | exact abQ_p (by omega) (by omega) | exact abQ_n (by omega) a0 rfl) h (lv_sub hl [0, 1] rfl)
  · have j_19 : ¬ (0 ≤ A0) := fun q => c_18 ((l_ge0 a0 (by decide)).mpr q)
    refine lv_lload_n hx hb dX10_divisor_6 rfl (lv_at hl 0 rfl) ?_
    refine lv_lneg hx hb dX10_divisor_7 ?_
    refine lv_topl (fun x_20 e_21 => ?_)
    refine lv_goto (tgt := 12) hx hb dX10_divisor_8 (by decide) ?_
    exact J12_1 x_20 _ _ _ (by first | exact abQ_p (by omega) (by omega) | exact abQ_n (by omega) a0 e_21) h (lv_sub hl [0, 1] rfl)

set_option maxHeartbeats 4000000 in
set_option maxRecDepth 100000 in
theorem c_X10_fit (l : Launch) (G : gG) (v : Nat → Nat → Int32) (w : Nat → Nat → Int64) (sg : Nat → Nat) (p1 : Int32) {A1 : Int} (a1 : p1.toInt = A1) (p2 : Int32) {A2 : Int} (a2 : p2.toInt = A2) (p3 : Int32) {A3 : Int} (a3 : p3.toInt = A3) (mi : mI v) : Met l yX10_fit wsX10_fit ({ frames := 2, cells := 0, slots := 0, locals := 49 }) (gPre G v w sg [.ref (G.2.2 (106)), .int (p1), .int (p2), .int (p3)]) (gQl G (fun r v' w' sg' => (mI v ∧ fM 109 111 0 0 v w v w' ∧ ((¬ ((0 ≤ A1 ∧ A1 ≤ 2) ∧ (0 ≤ A2 ∧ A2 ≤ 2) ∧ (0 ≤ A3 ∧ A3 ≤ 1)) ∧ r = -1000000000000) ∨ (((0 ≤ A1 ∧ A1 ≤ 2) ∧ (0 ≤ A2 ∧ A2 ≤ 2) ∧ (0 ≤ A3 ∧ A3 ≤ 1)) ∧ ftM (dsN (mfL v (v 106 7).toInt.toNat) 3) (fNm (mfL v (v 106 7).toInt.toNat) (mfR v A1.toNat (v 106 7).toInt.toNat) A2.toNat) A3 r))) ∧ v = v' ∧ sg = sg')) 0 0 (gA G) := by
  refine gM_ofl (cc := cX10_fit) (maxL := 10) (by decide) rfl (Nat.le_of_ble_eq_true rfl) ?_
  intro p e R s m args below meth c Q ls C hR ret h hl
  have hx := C.1.1
  have hb := C.1.2.1
  have hown := C.1.2.2.2.1
  have hts := C.1.2.2.2.2
  have hl : lv_has ls 10 [(0, .ref (G.2.2 (106))), (1, .int (p1)), (2, .int (p2)), (3, .int (p3))] := hl
  have q1 := i_rng p1; rw [a1] at q1
  have q2 := i_rng p2; rw [a2] at q2
  have q3 := i_rng p3; rw [a3] at q3
  have z_0 : (0 : Int32).toInt = 0 := by decide
  have z_1 : (1 : Int32).toInt = 1 := by decide
  have z_3 : (3 : Int32).toInt = 3 := by decide
  have k122 : (Cond.constantLong RX10 122 (2)).before args s = true := hts _ (by decide +kernel)
  have k126 : (Cond.constantLong RX10 126 (100)).before args s = true := hts _ (by decide +kernel)
  have f20 : Cond.fieldLink RX10 20 "WindHallModel" "right" "[J" ∈ wsX10_fit := by decide +kernel
  have hi10 : ∀ x ∈ u_ws RX10 TX10 42, x ∈ wsX10_fit := fun x q => List.mem_cons_of_mem _ (List.mem_append_right _ q)
  have f170 : Cond.fieldLink RX10 170 "WindHallModel" "points" "I" ∈ wsX10_fit := by decide +kernel
  have f26 : Cond.fieldLink RX10 26 "WindHallModel" "pLoads" "[I" ∈ wsX10_fit := by decide +kernel
  have f29 : Cond.fieldLink RX10 29 "WindHallModel" "pReads" "[I" ∈ wsX10_fit := by decide +kernel
  have f16 : Cond.fieldLink RX10 16 "WindHallModel" "m" "[J" ∈ wsX10_fit := by decide +kernel
  have k173 : (Cond.constantLong RX10 173 (-1000000000000)).before args s = true := hts _ (by decide +kernel)
  have o_1 := mi
  obtain ⟨I7, I10, I18, I22, I27, I29, I32, Is, I35, Ia, Iar, Isz, Ian⟩ := o_1
  refine lv_iload_n hx hb dX10_fit_0 rfl (lv_at hl 1 rfl) ?_
  refine lv_i2l (v := (p1 : Int32).toInt64) hx hb dX10_fit_1 rfl ?_
  refine lv_lconst (v := 0) hx hb dX10_fit_2 (by decide) ?_
  refine lv_ldc2 hx hb hown k122 dX10_fit_3 ?_
  refine g_calli C (va_runS (As := [.long ((p1 : Int32).toInt64), .long (0), .long (2)]) (rest := []) C.1 (c_X10_in l G v w sg ((p1 : Int32).toInt64) (A0 := A1) (il_of a1) (0) (A2 := 0) (by decide) (2) (A4 := 2) (by decide)) (va_cwS 3 hts gX10_fit_X10_in rfl rfl rfl (by decide +kernel) ⟨by rw [hR]; exact Nat.le_of_ble_eq_true rfl, by rw [hR]; exact Nat.le_of_ble_eq_true rfl⟩) ⟨gPre_blind, gS_pre C h _⟩ rfl rfl hl.1 rfl (lv_room (Nat.le_of_ble_eq_true rfl)) dX10_fit_6 ⟨Nat.zero_le _, Nat.zero_le _⟩) h (fun r_2 v_4 w_5 g_6 H locs p_3 h => ?_)
  obtain ⟨p_3, rfl, rfl, rfl⟩ := p_3
  rcases p_3 with ⟨rfl, t_7⟩ | ⟨rfl, t_7⟩
  · skip
    refine lv_if_eq (tgt := 34) hx hb dX10_fit_9 (by decide) (fun c_8 => absurd c_8 (by decide)) (fun _ => ?_)
    refine lv_iload_n hx hb dX10_fit_12 rfl (lv_at hl 2 rfl) ?_
    refine lv_i2l (v := (p2 : Int32).toInt64) hx hb dX10_fit_13 rfl ?_
    refine lv_lconst (v := 0) hx hb dX10_fit_14 (by decide) ?_
    refine lv_ldc2 hx hb hown k122 dX10_fit_15 ?_
    refine g_calli C (va_runS (As := [.long ((p2 : Int32).toInt64), .long (0), .long (2)]) (rest := []) C.1 (c_X10_in l G v w sg ((p2 : Int32).toInt64) (A0 := A2) (il_of a2) (0) (A2 := 0) (by decide) (2) (A4 := 2) (by decide)) (va_cwS 3 hts gX10_fit_X10_in rfl rfl rfl (by decide +kernel) ⟨by rw [hR]; exact Nat.le_of_ble_eq_true rfl, by rw [hR]; exact Nat.le_of_ble_eq_true rfl⟩) ⟨gPre_blind, gS_pre C h _⟩ rfl rfl hl.1 rfl (lv_room (Nat.le_of_ble_eq_true rfl)) dX10_fit_18 ⟨Nat.zero_le _, Nat.zero_le _⟩) h (fun r_9 v_11 w_12 g_13 H locs p_10 h => ?_)
    obtain ⟨p_10, rfl, rfl, rfl⟩ := p_10
    rcases p_10 with ⟨rfl, t_14⟩ | ⟨rfl, t_14⟩
    · skip
      refine lv_if_eq (tgt := 34) hx hb dX10_fit_21 (by decide) (fun c_15 => absurd c_15 (by decide)) (fun _ => ?_)
      refine lv_iload_n hx hb dX10_fit_24 rfl (lv_at hl 3 rfl) ?_
      refine lv_i2l (v := (p3 : Int32).toInt64) hx hb dX10_fit_25 rfl ?_
      refine lv_lconst (v := 0) hx hb dX10_fit_26 (by decide) ?_
      refine lv_lconst (v := 1) hx hb dX10_fit_27 (by decide) ?_
      refine g_calli C (va_runS (As := [.long ((p3 : Int32).toInt64), .long (0), .long (1)]) (rest := []) C.1 (c_X10_in l G v w sg ((p3 : Int32).toInt64) (A0 := A3) (il_of a3) (0) (A2 := 0) (by decide) (1) (A4 := 1) (by decide)) (va_cwS 3 hts gX10_fit_X10_in rfl rfl rfl (by decide +kernel) ⟨by rw [hR]; exact Nat.le_of_ble_eq_true rfl, by rw [hR]; exact Nat.le_of_ble_eq_true rfl⟩) ⟨gPre_blind, gS_pre C h _⟩ rfl rfl hl.1 rfl (lv_room (Nat.le_of_ble_eq_true rfl)) dX10_fit_28 ⟨Nat.zero_le _, Nat.zero_le _⟩) h (fun r_16 v_18 w_19 g_20 H locs p_17 h => ?_)
      obtain ⟨p_17, rfl, rfl, rfl⟩ := p_17
      rcases p_17 with ⟨rfl, t_21⟩ | ⟨rfl, t_21⟩
      · skip
        refine lv_if_ne (tgt := 38) hx hb dX10_fit_31 (by decide) (fun _ => ?_) (fun c_22 => absurd c_22 (by decide))
        refine lv_iconst (v := 0) hx hb dX10_fit_38 (by decide) ?_
        have J41_24 : ∀ (n : Nat) (y_23 : Int32) (w_24 : Nat → Nat → Int64) (H : Heap) (locs : List Loc) (ls : Array Slot), (3 - (y_23).toInt).toNat < n → (mI v) → (fM 109 111 0 0 v w v w_24) → (0 ≤ (y_23).toInt ∧ (y_23).toInt ≤ 3) → (emP v A1.toNat (v 106 7).toInt.toNat w_24 (y_23).toInt) → gS (gA G) G s v w_24 sg H locs → lv_has ls 10 [(0, .ref (G.2.2 (106))), (1, .int (p1)), (2, .int (p2)), (3, .int (p3)), (4, .int (y_23))] → W p l e R s m args below meth c H locs 0 0 Q (F0 m 41 ls []) := by
          intro n
          induction n with
          | zero => intro y_23 w_24 H locs ls hm; exact absurd hm (Nat.not_lt_zero _)
          | succ n ih41 =>
            intro y_23 w_24 H locs ls hm u_25 u_26 f_27 f_28 h hl
            have o_29 := u_25
            obtain ⟨I7, I10, I18, I22, I27, I29, I32, Is, I35, Ia, Iar, Isz, Ian⟩ := o_29
            refine lv_iload hx hb dX10_fit_41 (lv_at hl 4 rfl) ?_
            refine lv_iconst (v := 3) hx hb dX10_fit_43 (by decide) ?_
            refine lv_icmp_ge (tgt := 199) hx hb dX10_fit_44 (by decide) (fun c_30 => ?_) (fun c_30 => ?_)
            · have j_31 : 3 ≤ (y_23).toInt := (i_le (by decide) rfl).mp c_30
              have hem : emP v A1.toNat (v 106 7).toInt.toNat w_24 3 := (show (y_23).toInt = 3 by omega) ▸ f_28
              refine lv_ldc2 hx hb hown k126 dX10_fit_199 ?_
              refine lv_aload_n hx hb dX10_fit_202 rfl (lv_at hl 0 rfl) ?_
              refine g_calll C (va_runV (As := []) (rest := [.long (100)]) C.1 (c_X10_determinant l G v w_24 sg  u_25) (cwV 0 hts gX10_fit_X10_determinant rfl rfl rfl (by decide +kernel) ⟨by rw [hR]; exact Nat.le_of_ble_eq_true rfl, by rw [hR]; exact Nat.le_of_ble_eq_true rfl⟩) ⟨gPre_blind, g_recv C h 106 (by decide) (ci := 10) rfl rfl, gS_pre C h _⟩ rfl rfl hl.1 rfl (lv_room (Nat.le_of_ble_eq_true rfl)) dX10_fit_203 ⟨Nat.zero_le _, Nat.zero_le _⟩) h (fun r_32 v_34 w_35 g_36 H locs p_33 h => ?_)
              obtain ⟨p_33, rfl, rfl, rfl⟩ := p_33
              have hd203 : r_32 = (dsN (mfL v (v 106 7).toInt.toNat) 3) := p_33.trans (dt_m hem)
              refine lv_lmul hx hb dX10_fit_206 ?_
              refine lv_topl (fun x_37 e_38 => ?_)
              have he206 : x_37 = 100 * (dsN (mfL v (v 106 7).toInt.toNat) 3) := by rw [e_38, hd203]
              have hi206 : (x_37).toInt = (100 * (dsN (mfL v (v 106 7).toInt.toNat) 3)).toInt := by rw [he206]
              refine lv_lstore (lv' := [(4, .long (x_37)), (0, .ref (G.2.2 (106))), (1, .int (p1)), (2, .int (p2)), (3, .int (p3))]) hx hb dX10_fit_207 hl (by decide) rfl (fun ls hl => ?_)
              refine lv_lload hx hb dX10_fit_209 (lv_at hl 0 rfl) ?_
              refine lv_lconst (v := 0) hx hb dX10_fit_211 (by decide) ?_
              refine W.lcmp hx hb dX10_fit_212 ?_
              refine lv_if_ne (tgt := 218) hx hb dX10_fit_213 (by decide) (fun c_39 => ?_) (fun c_39 => ?_)
              · have j_40 : ¬ ((x_37).toInt = 0) := fun q => c_39 ((l_eq0 rfl (by decide)).mpr q)
                refine lv_aload_n hx hb dX10_fit_218 rfl (lv_at hl 1 rfl) ?_
                refine lv_iload_n hx hb dX10_fit_219 rfl (lv_at hl 3 rfl) ?_
                refine g_calll C (va_runV (As := [.int (p2)]) (rest := []) C.1 (c_X10_replaced l G v w_24 sg p2 (A1 := A2) a2 (by omega) u_25) (cwV 1 hts gX10_fit_X10_replaced rfl rfl rfl (by decide +kernel) ⟨by rw [hR]; exact Nat.le_of_ble_eq_true rfl, by rw [hR]; exact Nat.le_of_ble_eq_true rfl⟩) ⟨gPre_blind, g_recv C h 106 (by decide) (ci := 10) rfl rfl, gS_pre C h _⟩ rfl rfl hl.1 rfl (lv_room (Nat.le_of_ble_eq_true rfl)) dX10_fit_220 ⟨Nat.zero_le _, Nat.zero_le _⟩) h (fun r_41 v_43 w_44 g_45 H locs p_42 h => ?_)
                obtain ⟨p_42, rfl, rfl⟩ := p_42
                have u_46 : mI v := p_42.1
                have u_47 : fM 109 111 0 0 v w v w_44 := fM_tr u_26 (fM_le p_42.2.1 (by decide))
                have o_48 := u_46
                obtain ⟨I7, I10, I18, I22, I27, I29, I32, Is, I35, Ia, Iar, Isz, Ian⟩ := o_48
                have hd220 : r_41 = (fNm (mfL v (v 106 7).toInt.toNat) (mfR v A1.toNat (v 106 7).toInt.toNat) A2.toNat) := p_42.2.2.2.trans (nm_m hem)
                refine lv_lstore (lv' := [(6, .long (r_41)), (4, .long (x_37)), (0, .ref (G.2.2 (106))), (1, .int (p1)), (2, .int (p2)), (3, .int (p3))]) hx hb dX10_fit_223 hl (by decide) rfl (fun ls hl => ?_)
                refine lv_lload hx hb dX10_fit_225 (lv_at hl 0 rfl) ?_
                refine lv_lload hx hb dX10_fit_227 (lv_at hl 1 rfl) ?_
                refine g_calll C (va_runS (As := [.long (r_41), .long (x_37)]) (rest := []) C.1 (c_X10_divisor l G v w_44 sg r_41 (A0 := (r_41).toInt) rfl x_37 (A2 := (x_37).toInt) rfl (by omega)) (va_cwS 2 hts gX10_fit_X10_divisor rfl rfl rfl (by decide +kernel) ⟨by rw [hR]; exact Nat.le_of_ble_eq_true rfl, by rw [hR]; exact Nat.le_of_ble_eq_true rfl⟩) ⟨gPre_blind, gS_pre C h _⟩ rfl rfl hl.1 rfl (lv_room (Nat.le_of_ble_eq_true rfl)) dX10_fit_229 ⟨Nat.zero_le _, Nat.zero_le _⟩) h (fun r_49 v_51 w_52 g_53 H locs p_50 h => ?_)
                obtain ⟨p_50, rfl, rfl, rfl⟩ := p_50
                have hdv : dvP (fNm (mfL v (v 106 7).toInt.toNat) (mfR v A1.toNat (v 106 7).toInt.toNat) A2.toNat).toInt (100 * (dsN (mfL v (v 106 7).toInt.toNat) 3)).toInt (r_49).toInt := by have hq := p_50.2; rw [hd220, he206] at hq; exact hq
                have hne := p_50.1
                refine lv_lstore (lv' := [(8, .long (r_49)), (6, .long (r_41)), (4, .long (x_37)), (0, .ref (G.2.2 (106))), (1, .int (p1)), (2, .int (p2)), (3, .int (p3))]) hx hb dX10_fit_232 hl (by decide) rfl (fun ls hl => ?_)
                refine lv_lload hx hb dX10_fit_234 (lv_at hl 2 rfl) ?_
                refine lv_lconst (v := 0) hx hb dX10_fit_236 (by decide) ?_
                refine W.lcmp hx hb dX10_fit_237 ?_
                have J249_54 : ∀ (y_54 : Int64) (H : Heap) (locs : List Loc) (ls : Array Slot), ((y_54).toInt ≠ 0) → (((100 * (dsN (mfL v (v 106 7).toInt.toNat) 3)).toInt < 0 ∧ y_54 = -r_49) ∨ (0 ≤ (100 * (dsN (mfL v (v 106 7).toInt.toNat) 3)).toInt ∧ y_54 = r_49)) → gS (gA G) G s v w_44 sg H locs → lv_has ls 10 [(0, .ref (G.2.2 (106))), (1, .int (p1)), (2, .int (p2)), (3, .int (p3)), (4, .long (x_37)), (6, .long (r_41)), (8, .long (r_49))] → W p l e R s m args below meth c H locs 0 0 Q (F0 m 249 ls [.long (y_54)]) := by
                  intro y_54 H locs ls f_55 f_56 h hl
                  refine lv_lstore (lv' := [(8, .long (y_54)), (0, .ref (G.2.2 (106))), (1, .int (p1)), (2, .int (p2)), (3, .int (p3)), (4, .long (x_37)), (6, .long (r_41))]) hx hb dX10_fit_249 hl (by decide) rfl (fun ls hl => ?_)
                  refine lv_iload_n hx hb dX10_fit_251 rfl (lv_at hl 4 rfl) ?_
                  refine lv_if_ne (tgt := 263) hx hb dX10_fit_252 (by decide) (fun c_57 => ?_) (fun c_57 => ?_)
                  · have j_58 : ¬ (A3 = 0) := fun q => c_57 ((i_eq a3 (by decide)).mpr q)
                    refine lv_lload hx hb dX10_fit_263 (lv_at hl 5 rfl) ?_
                    refine lv_lload hx hb dX10_fit_265 (lv_at hl 0 rfl) ?_
                    refine lv_ldiv hx hb dX10_fit_267 (l_ne0 rfl (by omega)) ?_
                    refine lv_topl (fun x_59 e_60 => ?_)
                    exact ret x_59 v w_44 sg _ _ _ _ dX10_fit_268 h ⟨⟨u_46, u_47, Or.inr ⟨by omega, Or.inr ⟨by omega, _, _, hdv, f_56, Or.inr ⟨by omega, by rw [e_60, he206]⟩⟩⟩⟩, rfl, rfl⟩
                  · have j_58 : A3 = 0 := (i_eq a3 (by decide)).mp c_57
                    refine lv_lload hx hb dX10_fit_255 (lv_at hl 6 rfl) ?_
                    refine lv_lload hx hb dX10_fit_257 (lv_at hl 0 rfl) ?_
                    refine lv_ldiv hx hb dX10_fit_259 (l_ne0 rfl (by omega)) ?_
                    refine lv_topl (fun x_61 e_62 => ?_)
                    refine lv_goto (tgt := 268) hx hb dX10_fit_260 (by decide) ?_
                    exact ret x_61 v w_44 sg _ _ _ _ dX10_fit_268 h ⟨⟨u_46, u_47, Or.inr ⟨by omega, Or.inr ⟨by omega, _, _, hdv, f_56, Or.inl ⟨by omega, by rw [e_62, hd220]⟩⟩⟩⟩, rfl, rfl⟩
                refine lv_if_ge (tgt := 247) hx hb dX10_fit_238 (by decide) (fun c_63 => ?_) (fun c_63 => ?_)
                · have j_64 : 0 ≤ (x_37).toInt := (l_ge0 rfl (by decide)).mp c_63
                  refine lv_lload hx hb dX10_fit_247 (lv_at hl 0 rfl) ?_
                  exact J249_54 r_49 _ _ _ (by first | omega | exact l_neg_ne rfl rfl (by omega)) (by first | exact Or.inl ⟨by omega, rfl⟩ | exact Or.inr ⟨by omega, rfl⟩) h (lv_sub hl [3, 4, 5, 6, 2, 1, 0] rfl)
                · have j_64 : ¬ (0 ≤ (x_37).toInt) := fun q => c_63 ((l_ge0 rfl (by decide)).mpr q)
                  refine lv_lload hx hb dX10_fit_241 (lv_at hl 0 rfl) ?_
                  refine lv_lneg hx hb dX10_fit_243 ?_
                  refine lv_topl (fun x_65 e_66 => ?_)
                  refine lv_goto (tgt := 249) hx hb dX10_fit_244 (by decide) ?_
                  exact J249_54 x_65 _ _ _ (by first | omega | exact l_neg_ne e_66 rfl (by omega)) (by first | exact Or.inl ⟨by omega, e_66⟩ | exact Or.inr ⟨by omega, rfl⟩) h (lv_sub hl [3, 4, 5, 6, 2, 1, 0] rfl)
              · have j_40 : (x_37).toInt = 0 := (l_eq0 rfl (by decide)).mp c_39
                refine lv_lconst (v := 0) hx hb dX10_fit_216 (by decide) ?_
                exact ret 0 v w_24 sg _ _ _ _ dX10_fit_217 h ⟨⟨u_25, u_26, Or.inr ⟨by omega, Or.inl ⟨by omega, rfl⟩⟩⟩, rfl, rfl⟩
            · have j_31 : ¬ (3 ≤ (y_23).toInt) := fun q => c_30 ((i_le (by decide) rfl).mpr q)
              refine lv_aload_n hx hb dX10_fit_47 rfl (lv_at hl 0 rfl) ?_
              refine g_get (ci := 10) (x := .ref (G.2.2 (110))) C h 106 (by decide) rfl rfl hi10 3 (by decide) f20 rfl rfl dX10_fit_48 ?_
              refine lv_iload hx hb dX10_fit_51 (lv_at hl 4 rfl) ?_
              refine lv_lconst (v := 0) hx hb dX10_fit_53 (by decide) ?_
              refine g_last C h 110 (by decide) (by decide) (n := 3) (by decide) (vp_of rfl (by omega) (by omega)) dX10_fit_54 (fun H locs h => ?_)
              obtain ⟨w_67, hw_67⟩ : ∃ z, z = gul w_24 110 ((y_23 : Int32).toNatClampNeg) 0 := ⟨_, rfl⟩
              have h : gS (gA G) G s v w_67 sg H locs := by rw [hw_67]; exact h
              have u_68 : fM 109 111 0 0 v w v w_67 := by rw [hw_67]; exact (fM_w u_26 (by decide))
              refine lv_iconst (v := 0) hx hb dX10_fit_55 (by decide) ?_
              have J58_70 : ∀ (n : Nat) (y_69 : Int32) (w_70 : Nat → Nat → Int64) (H : Heap) (locs : List Loc) (ls : Array Slot), (3 - (y_69).toInt).toNat < n → (mI v) → (fM 109 111 0 0 v w v w_70) → (0 ≤ (y_69).toInt ∧ (y_69).toInt ≤ 3) → (emZ v A1.toNat (v 106 7).toInt.toNat w_70 (y_23 : Int32).toInt (y_69).toInt) → gS (gA G) G s v w_70 sg H locs → lv_has ls 10 [(0, .ref (G.2.2 (106))), (1, .int (p1)), (2, .int (p2)), (3, .int (p3)), (4, .int (y_23)), (5, .int (y_69))] → W p l e R s m args below meth c H locs 0 0 Q (F0 m 58 ls []) := by
                intro n
                induction n with
                | zero => intro y_69 w_70 H locs ls hm; exact absurd hm (Nat.not_lt_zero _)
                | succ n ih58 =>
                  intro y_69 w_70 H locs ls hm u_71 u_72 f_73 f_74 h hl
                  have o_75 := u_71
                  obtain ⟨I7, I10, I18, I22, I27, I29, I32, Is, I35, Ia, Iar, Isz, Ian⟩ := o_75
                  refine lv_iload hx hb dX10_fit_58 (lv_at hl 5 rfl) ?_
                  refine lv_iconst (v := 3) hx hb dX10_fit_60 (by decide) ?_
                  refine lv_icmp_ge (tgt := 83) hx hb dX10_fit_61 (by decide) (fun c_76 => ?_) (fun c_76 => ?_)
                  · have j_77 : 3 ≤ (y_69).toInt := (i_le (by decide) rfl).mp c_76
                    refine lv_iconst (v := 0) hx hb dX10_fit_83 (by decide) ?_
                    have J86_79 : ∀ (n : Nat) (y_78 : Int32) (w_79 : Nat → Nat → Int64) (H : Heap) (locs : List Loc) (ls : Array Slot), (((v 106 7) : Int32).toInt - (y_78).toInt).toNat < n → (mI v) → (fM 109 111 0 0 v w v w_79) → (0 ≤ (y_78).toInt ∧ (y_78).toInt ≤ ((v 106 7) : Int32).toInt) → (emQ v A1.toNat (v 106 7).toInt.toNat w_79 (y_23 : Int32).toInt (y_78).toInt (y_78).toInt 0) → gS (gA G) G s v w_79 sg H locs → lv_has ls 10 [(0, .ref (G.2.2 (106))), (1, .int (p1)), (2, .int (p2)), (3, .int (p3)), (4, .int (y_23)), (5, .int (y_78))] → W p l e R s m args below meth c H locs 0 0 Q (F0 m 86 ls []) := by
                      intro n
                      induction n with
                      | zero => intro y_78 w_79 H locs ls hm; exact absurd hm (Nat.not_lt_zero _)
                      | succ n ih86 =>
                        intro y_78 w_79 H locs ls hm u_80 u_81 f_82 f_83 h hl
                        have o_84 := u_80
                        obtain ⟨I7, I10, I18, I22, I27, I29, I32, Is, I35, Ia, Iar, Isz, Ian⟩ := o_84
                        refine lv_iload hx hb dX10_fit_86 (lv_at hl 5 rfl) ?_
                        refine lv_aload_n hx hb dX10_fit_88 rfl (lv_at hl 0 rfl) ?_
                        refine g_geti (ci := 10) (x := v 106 7) C h 106 (by decide) rfl rfl hi10 7 (by decide) f170 rfl rfl rfl dX10_fit_89 ?_
                        refine lv_icmp_ge (tgt := 193) hx hb dX10_fit_92 (by decide) (fun c_85 => ?_) (fun c_85 => ?_)
                        · have j_86 : (v 106 7).toInt ≤ (y_78).toInt := (i_le rfl rfl).mp c_85
                          obtain ⟨x_87, e_88⟩ : ∃ y : Int32, y = y_23 + 1 := ⟨_, rfl⟩
                          have i_89 : x_87.toInt = (y_23).toInt + 1 := ia_add e_88 rfl (by decide) (by omega) (by omega)
                          refine lv_iinc (v := x_87) (lv' := [(4, .int (x_87)), (0, .ref (G.2.2 (106))), (1, .int (p1)), (2, .int (p2)), (3, .int (p3)), (5, .int (y_78))]) hx hb dX10_fit_193 hl (k := 4) rfl (by rw [e_88]; rfl) (by decide) rfl (fun ls hl => ?_)
                          refine lv_goto (tgt := 41) hx hb dX10_fit_196 (by decide) ?_
                          exact ih41 x_87 w_79 _ _ _ (by omega) u_80 u_81 (by omega) (emQ_n f_83 (by omega) (by omega) (by omega)) h (lv_sub hl [1, 2, 3, 4, 0] rfl)
                        · have j_86 : ¬ ((v 106 7).toInt ≤ (y_78).toInt) := fun q => c_85 ((i_le rfl rfl).mpr q)
                          refine lv_aload_n hx hb dX10_fit_95 rfl (lv_at hl 0 rfl) ?_
                          refine g_get (ci := 10) (x := .ref (G.2.2 (110))) C h 106 (by decide) rfl rfl hi10 3 (by decide) f20 rfl rfl dX10_fit_96 ?_
                          refine lv_iload hx hb dX10_fit_99 (lv_at hl 4 rfl) ?_
                          refine lv_dup2_11 hx hb dX10_fit_101 rfl rfl ?_
                          refine g_lald C h 110 (by decide) (by decide) (n := 3) (by decide) (vp_of rfl (by omega) (by omega)) dX10_fit_102 ?_
                          refine lv_topl (fun x_90 e_91 => ?_)
                          have hy102 := e_91
                          refine lv_aload_n hx hb dX10_fit_103 rfl (lv_at hl 0 rfl) ?_
                          refine g_get (ci := 10) (x := .ref (G.2.2 (112))) C h 106 (by decide) rfl rfl hi10 8 (by decide) f26 rfl rfl dX10_fit_104 ?_
                          refine lv_iconst (v := 3) hx hb dX10_fit_107 (by decide) ?_
                          refine lv_iload hx hb dX10_fit_108 (lv_at hl 5 rfl) ?_
                          refine lv_imul hx hb dX10_fit_110 ?_
                          refine lv_topi (fun x_92 e_93 => ?_)
                          have i_94 : x_92.toInt = 3 * (y_78).toInt := ia_mul e_93 (by decide) rfl (by omega) (by omega)
                          refine lv_iload hx hb dX10_fit_111 (lv_at hl 4 rfl) ?_
                          refine lv_iadd hx hb dX10_fit_113 ?_
                          refine lv_topi (fun x_95 e_96 => ?_)
                          have i_97 : x_95.toInt = (3 * (y_78).toInt) + (y_23).toInt := ia_add e_96 i_94 rfl (by omega) (by omega)
                          refine g_iald C h 112 (by decide) (by decide) (n := 36) (by decide) (vp_of i_97 (by omega) (by omega)) dX10_fit_114 ?_
                          refine lv_topi (fun x_98 e_99 => ?_)
                          have hx114 : x_98 = v 112 (3 * ((y_78 : Int32).toInt).toNat + ((y_23 : Int32).toInt).toNat) := by rw [e_99, cl_nat i_97]; congr 1; omega
                          have q_100 := i_rng x_98
                          refine lv_i2l (v := (x_98 : Int32).toInt64) hx hb dX10_fit_115 rfl ?_
                          refine lv_aload_n hx hb dX10_fit_116 rfl (lv_at hl 0 rfl) ?_
                          refine g_get (ci := 10) (x := .ref (G.2.2 (113))) C h 106 (by decide) rfl rfl hi10 9 (by decide) f29 rfl rfl dX10_fit_117 ?_
                          refine lv_iconst (v := 3) hx hb dX10_fit_120 (by decide) ?_
                          refine lv_iload hx hb dX10_fit_121 (lv_at hl 5 rfl) ?_
                          refine lv_imul hx hb dX10_fit_123 ?_
                          refine lv_topi (fun x_101 e_102 => ?_)
                          have i_103 : x_101.toInt = 3 * (y_78).toInt := ia_mul e_102 (by decide) rfl (by omega) (by omega)
                          refine lv_iload_n hx hb dX10_fit_124 rfl (lv_at hl 1 rfl) ?_
                          refine lv_iadd hx hb dX10_fit_125 ?_
                          refine lv_topi (fun x_104 e_105 => ?_)
                          have i_106 : x_104.toInt = (3 * (y_78).toInt) + A1 := ia_add e_105 i_103 a1 (by omega) (by omega)
                          refine g_iald C h 113 (by decide) (by decide) (n := 36) (by decide) (vp_of i_106 (by omega) (by omega)) dX10_fit_126 ?_
                          refine lv_topi (fun x_107 e_108 => ?_)
                          have hx126 : x_107 = v 113 (3 * ((y_78 : Int32).toInt).toNat + A1.toNat) := by rw [e_108, cl_nat i_106]; congr 1; omega
                          have q_109 := i_rng x_107
                          refine lv_i2l (v := (x_107 : Int32).toInt64) hx hb dX10_fit_127 rfl ?_
                          refine lv_lmul hx hb dX10_fit_128 ?_
                          refine lv_topl (fun x_110 e_111 => ?_)
                          have hq128 := e_111
                          refine lv_ladd hx hb dX10_fit_129 ?_
                          refine lv_topl (fun x_112 e_113 => ?_)
                          have hx129 := e_113
                          refine g_last C h 110 (by decide) (by decide) (n := 3) (by decide) (vp_of rfl (by omega) (by omega)) dX10_fit_130 (fun H locs h => ?_)
                          obtain ⟨w_114, hw_114⟩ : ∃ z, z = gul w_79 110 ((y_23 : Int32).toNatClampNeg) x_112 := ⟨_, rfl⟩
                          have h : gS (gA G) G s v w_114 sg H locs := by rw [hw_114]; exact h
                          have u_115 : fM 109 111 0 0 v w v w_114 := by rw [hw_114]; exact (fM_w u_81 (by decide))
                          refine lv_iconst (v := 0) hx hb dX10_fit_131 (by decide) ?_
                          have J134_117 : ∀ (n : Nat) (y_116 : Int32) (w_117 : Nat → Nat → Int64) (H : Heap) (locs : List Loc) (ls : Array Slot), (3 - (y_116).toInt).toNat < n → (mI v) → (fM 109 111 0 0 v w v w_117) → (0 ≤ (y_116).toInt ∧ (y_116).toInt ≤ 3) → (emQ v A1.toNat (v 106 7).toInt.toNat w_117 (y_23 : Int32).toInt (y_78 : Int32).toInt ((y_78 : Int32).toInt + 1) (y_116).toInt) → gS (gA G) G s v w_117 sg H locs → lv_has ls 10 [(0, .ref (G.2.2 (106))), (1, .int (p1)), (2, .int (p2)), (3, .int (p3)), (4, .int (y_23)), (5, .int (y_78)), (6, .int (y_116))] → W p l e R s m args below meth c H locs 0 0 Q (F0 m 134 ls []) := by
                            intro n
                            induction n with
                            | zero => intro y_116 w_117 H locs ls hm; exact absurd hm (Nat.not_lt_zero _)
                            | succ n ih134 =>
                              intro y_116 w_117 H locs ls hm u_118 u_119 f_120 f_121 h hl
                              have o_122 := u_118
                              obtain ⟨I7, I10, I18, I22, I27, I29, I32, Is, I35, Ia, Iar, Isz, Ian⟩ := o_122
                              refine lv_iload hx hb dX10_fit_134 (lv_at hl 6 rfl) ?_
                              refine lv_iconst (v := 3) hx hb dX10_fit_136 (by decide) ?_
                              refine lv_icmp_ge (tgt := 187) hx hb dX10_fit_137 (by decide) (fun c_123 => ?_) (fun c_123 => ?_)
                              · have j_124 : 3 ≤ (y_116).toInt := (i_le (by decide) rfl).mp c_123
                                obtain ⟨x_125, e_126⟩ : ∃ y : Int32, y = y_78 + 1 := ⟨_, rfl⟩
                                have i_127 : x_125.toInt = (y_78).toInt + 1 := ia_add e_126 rfl (by decide) (by omega) (by omega)
                                refine lv_iinc (v := x_125) (lv' := [(5, .int (x_125)), (0, .ref (G.2.2 (106))), (1, .int (p1)), (2, .int (p2)), (3, .int (p3)), (4, .int (y_23)), (6, .int (y_116))]) hx hb dX10_fit_187 hl (k := 5) rfl (by rw [e_126]; rfl) (by decide) rfl (fun ls hl => ?_)
                                refine lv_goto (tgt := 86) hx hb dX10_fit_190 (by decide) ?_
                                exact ih86 x_125 w_117 _ _ _ (by omega) u_118 u_119 (by omega) (by rw [show (x_125 : Int32).toInt = (y_78 : Int32).toInt + 1 by omega]; exact emQ_k f_121 (by omega)) h (lv_sub hl [1, 2, 3, 4, 5, 0] rfl)
                              · have j_124 : ¬ (3 ≤ (y_116).toInt) := fun q => c_123 ((i_le (by decide) rfl).mpr q)
                                refine lv_aload_n hx hb dX10_fit_140 rfl (lv_at hl 0 rfl) ?_
                                refine g_get (ci := 10) (x := .ref (G.2.2 (109))) C h 106 (by decide) rfl rfl hi10 2 (by decide) f16 rfl rfl dX10_fit_141 ?_
                                refine lv_iconst (v := 3) hx hb dX10_fit_144 (by decide) ?_
                                refine lv_iload hx hb dX10_fit_145 (lv_at hl 4 rfl) ?_
                                refine lv_imul hx hb dX10_fit_147 ?_
                                refine lv_topi (fun x_128 e_129 => ?_)
                                have i_130 : x_128.toInt = 3 * (y_23).toInt := ia_mul e_129 (by decide) rfl (by omega) (by omega)
                                refine lv_iload hx hb dX10_fit_148 (lv_at hl 6 rfl) ?_
                                refine lv_iadd hx hb dX10_fit_150 ?_
                                refine lv_topi (fun x_131 e_132 => ?_)
                                have i_133 : x_131.toInt = (3 * (y_23).toInt) + (y_116).toInt := ia_add e_132 i_130 rfl (by omega) (by omega)
                                refine lv_dup2_11 hx hb dX10_fit_151 rfl rfl ?_
                                refine g_lald C h 109 (by decide) (by decide) (n := 9) (by decide) (vp_of i_133 (by omega) (by omega)) dX10_fit_152 ?_
                                refine lv_topl (fun x_134 e_135 => ?_)
                                have hy152 := e_135
                                refine lv_aload_n hx hb dX10_fit_153 rfl (lv_at hl 0 rfl) ?_
                                refine g_get (ci := 10) (x := .ref (G.2.2 (112))) C h 106 (by decide) rfl rfl hi10 8 (by decide) f26 rfl rfl dX10_fit_154 ?_
                                refine lv_iconst (v := 3) hx hb dX10_fit_157 (by decide) ?_
                                refine lv_iload hx hb dX10_fit_158 (lv_at hl 5 rfl) ?_
                                refine lv_imul hx hb dX10_fit_160 ?_
                                refine lv_topi (fun x_136 e_137 => ?_)
                                have i_138 : x_136.toInt = 3 * (y_78).toInt := ia_mul e_137 (by decide) rfl (by omega) (by omega)
                                refine lv_iload hx hb dX10_fit_161 (lv_at hl 4 rfl) ?_
                                refine lv_iadd hx hb dX10_fit_163 ?_
                                refine lv_topi (fun x_139 e_140 => ?_)
                                have i_141 : x_139.toInt = (3 * (y_78).toInt) + (y_23).toInt := ia_add e_140 i_138 rfl (by omega) (by omega)
                                refine g_iald C h 112 (by decide) (by decide) (n := 36) (by decide) (vp_of i_141 (by omega) (by omega)) dX10_fit_164 ?_
                                refine lv_topi (fun x_142 e_143 => ?_)
                                have hx164 : x_142 = v 112 (3 * ((y_78 : Int32).toInt).toNat + ((y_23 : Int32).toInt).toNat) := by rw [e_143, cl_nat i_141]; congr 1; omega
                                refine lv_aload_n hx hb dX10_fit_165 rfl (lv_at hl 0 rfl) ?_
                                refine g_get (ci := 10) (x := .ref (G.2.2 (112))) C h 106 (by decide) rfl rfl hi10 8 (by decide) f26 rfl rfl dX10_fit_166 ?_
                                refine lv_iconst (v := 3) hx hb dX10_fit_169 (by decide) ?_
                                refine lv_iload hx hb dX10_fit_170 (lv_at hl 5 rfl) ?_
                                refine lv_imul hx hb dX10_fit_172 ?_
                                refine lv_topi (fun x_144 e_145 => ?_)
                                have i_146 : x_144.toInt = 3 * (y_78).toInt := ia_mul e_145 (by decide) rfl (by omega) (by omega)
                                refine lv_iload hx hb dX10_fit_173 (lv_at hl 6 rfl) ?_
                                refine lv_iadd hx hb dX10_fit_175 ?_
                                refine lv_topi (fun x_147 e_148 => ?_)
                                have i_149 : x_147.toInt = (3 * (y_78).toInt) + (y_116).toInt := ia_add e_148 i_146 rfl (by omega) (by omega)
                                refine g_iald C h 112 (by decide) (by decide) (n := 36) (by decide) (vp_of i_149 (by omega) (by omega)) dX10_fit_176 ?_
                                refine lv_topi (fun x_150 e_151 => ?_)
                                have hx176 : x_150 = v 112 (3 * ((y_78 : Int32).toInt).toNat + ((y_116 : Int32).toInt).toNat) := by rw [e_151, cl_nat i_149]; congr 1; omega
                                refine lv_imul hx hb dX10_fit_177 ?_
                                refine lv_topi (fun x_152 e_153 => ?_)
                                have hq177 := e_153
                                have q_154 := i_rng x_152
                                refine lv_i2l (v := (x_152 : Int32).toInt64) hx hb dX10_fit_178 rfl ?_
                                refine lv_ladd hx hb dX10_fit_179 ?_
                                refine lv_topl (fun x_155 e_156 => ?_)
                                have hx179 := e_156
                                refine g_last C h 109 (by decide) (by decide) (n := 9) (by decide) (vp_of i_133 (by omega) (by omega)) dX10_fit_180 (fun H locs h => ?_)
                                obtain ⟨w_157, hw_157⟩ : ∃ z, z = gul w_117 109 ((x_131 : Int32).toNatClampNeg) x_155 := ⟨_, rfl⟩
                                have h : gS (gA G) G s v w_157 sg H locs := by rw [hw_157]; exact h
                                have u_158 : fM 109 111 0 0 v w v w_157 := by rw [hw_157]; exact (fM_w u_119 (by decide))
                                obtain ⟨x_159, e_160⟩ : ∃ y : Int32, y = y_116 + 1 := ⟨_, rfl⟩
                                have i_161 : x_159.toInt = (y_116).toInt + 1 := ia_add e_160 rfl (by decide) (by omega) (by omega)
                                refine lv_iinc (v := x_159) (lv' := [(6, .int (x_159)), (0, .ref (G.2.2 (106))), (1, .int (p1)), (2, .int (p2)), (3, .int (p3)), (4, .int (y_23)), (5, .int (y_78))]) hx hb dX10_fit_181 hl (k := 6) rfl (by rw [e_160]; rfl) (by decide) rfl (fun ls hl => ?_)
                                refine lv_goto (tgt := 134) hx hb dX10_fit_184 (by decide) ?_
                                exact ih134 x_159 w_157 _ _ _ (by omega) u_118 u_158 (by omega) (emQ_st f_121 hw_157 i_133 (by omega) (by omega) (by omega) hy152 hx179 hq177 hx164 hx176 rfl (by omega)) h (lv_sub hl [1, 2, 3, 4, 5, 6, 0] rfl)
                          refine lv_istore (lv' := [(6, .int (0)), (0, .ref (G.2.2 (106))), (1, .int (p1)), (2, .int (p2)), (3, .int (p3)), (4, .int (y_23)), (5, .int (y_78))]) hx hb dX10_fit_132 hl (by decide) rfl (fun ls hl => ?_)
                          exact J134_117 _ 0 w_114 _ _ _ (Nat.lt_succ_self _) u_80 u_115 (by omega) (emQ_r f_83 hw_114 rfl (by omega) hy102 hx129 hq128 hx114 hx126 rfl (by decide)) h (lv_sub hl [1, 2, 3, 4, 5, 6, 0] rfl)
                    refine lv_istore (lv' := [(5, .int (0)), (0, .ref (G.2.2 (106))), (1, .int (p1)), (2, .int (p2)), (3, .int (p3)), (4, .int (y_23))]) hx hb dX10_fit_84 hl (by decide) rfl (fun ls hl => ?_)
                    exact J86_79 _ 0 w_70 _ _ _ (Nat.lt_succ_self _) u_71 u_72 (by omega) (emQ_0 f_74 (by omega) (by decide) rfl) h (lv_sub hl [1, 2, 3, 4, 5, 0] rfl)
                  · have j_77 : ¬ (3 ≤ (y_69).toInt) := fun q => c_76 ((i_le (by decide) rfl).mpr q)
                    refine lv_aload_n hx hb dX10_fit_64 rfl (lv_at hl 0 rfl) ?_
                    refine g_get (ci := 10) (x := .ref (G.2.2 (109))) C h 106 (by decide) rfl rfl hi10 2 (by decide) f16 rfl rfl dX10_fit_65 ?_
                    refine lv_iconst (v := 3) hx hb dX10_fit_68 (by decide) ?_
                    refine lv_iload hx hb dX10_fit_69 (lv_at hl 4 rfl) ?_
                    refine lv_imul hx hb dX10_fit_71 ?_
                    refine lv_topi (fun x_162 e_163 => ?_)
                    have i_164 : x_162.toInt = 3 * (y_23).toInt := ia_mul e_163 (by decide) rfl (by omega) (by omega)
                    refine lv_iload hx hb dX10_fit_72 (lv_at hl 5 rfl) ?_
                    refine lv_iadd hx hb dX10_fit_74 ?_
                    refine lv_topi (fun x_165 e_166 => ?_)
                    have i_167 : x_165.toInt = (3 * (y_23).toInt) + (y_69).toInt := ia_add e_166 i_164 rfl (by omega) (by omega)
                    refine lv_lconst (v := 0) hx hb dX10_fit_75 (by decide) ?_
                    refine g_last C h 109 (by decide) (by decide) (n := 9) (by decide) (vp_of i_167 (by omega) (by omega)) dX10_fit_76 (fun H locs h => ?_)
                    obtain ⟨w_168, hw_168⟩ : ∃ z, z = gul w_70 109 ((x_165 : Int32).toNatClampNeg) 0 := ⟨_, rfl⟩
                    have h : gS (gA G) G s v w_168 sg H locs := by rw [hw_168]; exact h
                    have u_169 : fM 109 111 0 0 v w v w_168 := by rw [hw_168]; exact (fM_w u_72 (by decide))
                    obtain ⟨x_170, e_171⟩ : ∃ y : Int32, y = y_69 + 1 := ⟨_, rfl⟩
                    have i_172 : x_170.toInt = (y_69).toInt + 1 := ia_add e_171 rfl (by decide) (by omega) (by omega)
                    refine lv_iinc (v := x_170) (lv' := [(5, .int (x_170)), (0, .ref (G.2.2 (106))), (1, .int (p1)), (2, .int (p2)), (3, .int (p3)), (4, .int (y_23))]) hx hb dX10_fit_77 hl (k := 5) rfl (by rw [e_171]; rfl) (by decide) rfl (fun ls hl => ?_)
                    refine lv_goto (tgt := 58) hx hb dX10_fit_80 (by decide) ?_
                    exact ih58 x_170 w_168 _ _ _ (by omega) u_71 u_169 (by omega) (emZ_st f_74 hw_168 i_167 (by omega) (by omega) (by omega) (by omega)) h (lv_sub hl [1, 2, 3, 4, 5, 0] rfl)
              refine lv_istore (lv' := [(5, .int (0)), (0, .ref (G.2.2 (106))), (1, .int (p1)), (2, .int (p2)), (3, .int (p3)), (4, .int (y_23))]) hx hb dX10_fit_56 hl (by decide) rfl (fun ls hl => ?_)
              exact J58_70 _ 0 w_67 _ _ _ (Nat.lt_succ_self _) u_25 u_68 (by omega) (emZ_0 f_28 hw_67 rfl (by omega) (by decide)) h (lv_sub hl [1, 2, 3, 4, 5, 0] rfl)
        refine lv_istore (lv' := [(4, .int (0)), (0, .ref (G.2.2 (106))), (1, .int (p1)), (2, .int (p2)), (3, .int (p3))]) hx hb dX10_fit_39 hl (by decide) rfl (fun ls hl => ?_)
        exact J41_24 _ 0 w _ _ _ (Nat.lt_succ_self _) mi fM_rf (by omega) emP_0 h (lv_sub hl [1, 2, 3, 4, 0] rfl)
      · skip
        refine lv_if_ne (tgt := 38) hx hb dX10_fit_31 (by decide) (fun c_173 => absurd (by decide) c_173) (fun _ => ?_)
        refine lv_ldc2 hx hb hown k173 dX10_fit_34 ?_
        exact ret (-1000000000000) v w sg _ _ _ _ dX10_fit_37 h ⟨⟨mi, fM_rf, Or.inl ⟨by omega, rfl⟩⟩, rfl, rfl⟩
    · skip
      refine lv_if_eq (tgt := 34) hx hb dX10_fit_21 (by decide) (fun _ => ?_) (fun c_174 => absurd (by decide) c_174)
      refine lv_ldc2 hx hb hown k173 dX10_fit_34 ?_
      exact ret (-1000000000000) v w sg _ _ _ _ dX10_fit_37 h ⟨⟨mi, fM_rf, Or.inl ⟨by omega, rfl⟩⟩, rfl, rfl⟩
  · skip
    refine lv_if_eq (tgt := 34) hx hb dX10_fit_9 (by decide) (fun _ => ?_) (fun c_175 => absurd (by decide) c_175)
    refine lv_ldc2 hx hb hown k173 dX10_fit_34 ?_
    exact ret (-1000000000000) v w sg _ _ _ _ dX10_fit_37 h ⟨⟨mi, fM_rf, Or.inl ⟨by omega, rfl⟩⟩, rfl, rfl⟩

set_option maxHeartbeats 4000000 in
set_option maxRecDepth 100000 in
theorem c_X10_miss (l : Launch) (G : gG) (v : Nat → Nat → Int32) (w : Nat → Nat → Int64) (sg : Nat → Nat) (p1 : Int32) {A1 : Int} (a1 : p1.toInt = A1) (mi : mI v) : Met l yX10_miss wsX10_miss ({ frames := 2, cells := 0, slots := 0, locals := 49 }) (gPre G v w sg [.ref (G.2.2 (106)), .int (p1)]) (gQi G (fun r v' w' sg' => (((¬ (0 ≤ A1 ∧ A1 ≤ 2) ∧ r = -1) ∨ ((0 ≤ A1 ∧ A1 ≤ 2) ∧ r = msM v A1.toNat (v 106 7).toInt.toNat))) ∧ v = v' ∧ w = w' ∧ sg = sg')) 0 0 (gA G) := by
  refine gM_ofi (cc := cX10_miss) (maxL := 5) (by decide) rfl (Nat.le_of_ble_eq_true rfl) ?_
  intro p e R s m args below meth c Q ls C hR ret h hl
  have hx := C.1.1
  have hb := C.1.2.1
  have hown := C.1.2.2.2.1
  have hts := C.1.2.2.2.2
  have hl : lv_has ls 5 [(0, .ref (G.2.2 (106))), (1, .int (p1))] := hl
  have q1 := i_rng p1; rw [a1] at q1
  have z_m4 : ((-4) : Int32).toInt = (-4) := by decide
  have z_m1 : ((-1) : Int32).toInt = (-1) := by decide
  have z_0 : (0 : Int32).toInt = 0 := by decide
  have z_1 : (1 : Int32).toInt = 1 := by decide
  have z_2 : (2 : Int32).toInt = 2 := by decide
  have z_3 : (3 : Int32).toInt = 3 := by decide
  have k122 : (Cond.constantLong RX10 122 (2)).before args s = true := hts _ (by decide +kernel)
  have f170 : Cond.fieldLink RX10 170 "WindHallModel" "points" "I" ∈ wsX10_miss := by decide +kernel
  have hi10 : ∀ x ∈ u_ws RX10 TX10 42, x ∈ wsX10_miss := fun x q => List.mem_cons_of_mem _ (List.mem_append_right _ q)
  have f29 : Cond.fieldLink RX10 29 "WindHallModel" "pReads" "[I" ∈ wsX10_miss := by decide +kernel
  have f26 : Cond.fieldLink RX10 26 "WindHallModel" "pLoads" "[I" ∈ wsX10_miss := by decide +kernel
  have o_1 := mi
  obtain ⟨I7, I10, I18, I22, I27, I29, I32, Is, I35, Ia, Iar, Isz, Ian⟩ := o_1
  refine lv_iload_n hx hb dX10_miss_0 rfl (lv_at hl 1 rfl) ?_
  refine lv_i2l (v := (p1 : Int32).toInt64) hx hb dX10_miss_1 rfl ?_
  refine lv_lconst (v := 0) hx hb dX10_miss_2 (by decide) ?_
  refine lv_ldc2 hx hb hown k122 dX10_miss_3 ?_
  refine g_calli C (va_runS (As := [.long ((p1 : Int32).toInt64), .long (0), .long (2)]) (rest := []) C.1 (c_X10_in l G v w sg ((p1 : Int32).toInt64) (A0 := A1) (il_of a1) (0) (A2 := 0) (by decide) (2) (A4 := 2) (by decide)) (va_cwS 3 hts gX10_miss_X10_in rfl rfl rfl (by decide +kernel) ⟨by rw [hR]; exact Nat.le_of_ble_eq_true rfl, by rw [hR]; exact Nat.le_of_ble_eq_true rfl⟩) ⟨gPre_blind, gS_pre C h _⟩ rfl rfl hl.1 rfl (lv_room (Nat.le_of_ble_eq_true rfl)) dX10_miss_6 ⟨Nat.zero_le _, Nat.zero_le _⟩) h (fun r_2 v_4 w_5 g_6 H locs p_3 h => ?_)
  obtain ⟨p_3, rfl, rfl, rfl⟩ := p_3
  rcases p_3 with ⟨rfl, t_7⟩ | ⟨rfl, t_7⟩
  · skip
    refine lv_if_ne (tgt := 14) hx hb dX10_miss_9 (by decide) (fun _ => ?_) (fun c_8 => absurd c_8 (by decide))
    refine lv_bipush (v := (-4)) hx hb dX10_miss_14 (by decide) ?_
    refine lv_istore_n (lv' := [(2, .int ((-4))), (0, .ref (G.2.2 (106))), (1, .int (p1))]) hx hb dX10_miss_16 rfl hl (by decide) rfl (fun ls hl => ?_)
    refine lv_iconst (v := 0) hx hb dX10_miss_17 (by decide) ?_
    have J19_10 : ∀ (n : Nat) (y_9 : Int32) (y_10 : Int32) (H : Heap) (locs : List Loc) (ls : Array Slot), (((v 106 7) : Int32).toInt - (y_10).toInt).toNat < n → (0 ≤ (y_10).toInt ∧ (y_10).toInt ≤ ((v 106 7) : Int32).toInt) → (y_9 = msM v A1.toNat ((y_10).toInt).toNat) → gS (gA G) G s v w sg H locs → lv_has ls 5 [(0, .ref (G.2.2 (106))), (1, .int (p1)), (2, .int (y_9)), (3, .int (y_10))] → W p l e R s m args below meth c H locs 0 0 Q (F0 m 19 ls []) := by
      intro n
      induction n with
      | zero => intro y_9 y_10 H locs ls hm; exact absurd hm (Nat.not_lt_zero _)
      | succ n ih19 =>
        intro y_9 y_10 H locs ls hm f_11 f_12 h hl
        refine lv_iload_n hx hb dX10_miss_19 rfl (lv_at hl 3 rfl) ?_
        refine lv_aload_n hx hb dX10_miss_20 rfl (lv_at hl 0 rfl) ?_
        refine g_geti (ci := 10) (x := v 106 7) C h 106 (by decide) rfl rfl hi10 7 (by decide) f170 rfl rfl rfl dX10_miss_21 ?_
        refine lv_icmp_ge (tgt := 107) hx hb dX10_miss_24 (by decide) (fun c_13 => ?_) (fun c_13 => ?_)
        · have j_14 : (v 106 7).toInt ≤ (y_10).toInt := (i_le rfl rfl).mp c_13
          refine lv_iload_n hx hb dX10_miss_107 rfl (lv_at hl 2 rfl) ?_
          exact ret y_9 v w sg _ _ _ _ dX10_miss_108 h ⟨Or.inr (⟨(by omega), (by rw [show (v 106 7).toInt = (y_10).toInt by omega]; exact f_12)⟩), rfl, rfl, rfl⟩
        · have j_14 : ¬ ((v 106 7).toInt ≤ (y_10).toInt) := fun q => c_13 ((i_le rfl rfl).mpr q)
          refine lv_aload_n hx hb dX10_miss_27 rfl (lv_at hl 0 rfl) ?_
          refine g_get (ci := 10) (x := .ref (G.2.2 (113))) C h 106 (by decide) rfl rfl hi10 9 (by decide) f29 rfl rfl dX10_miss_28 ?_
          refine lv_iconst (v := 3) hx hb dX10_miss_31 (by decide) ?_
          refine lv_iload_n hx hb dX10_miss_32 rfl (lv_at hl 3 rfl) ?_
          refine lv_imul hx hb dX10_miss_33 ?_
          refine lv_topi (fun x_15 e_16 => ?_)
          have i_17 : x_15.toInt = 3 * (y_10).toInt := ia_mul e_16 (by decide) rfl (by omega) (by omega)
          refine lv_iload_n hx hb dX10_miss_34 rfl (lv_at hl 1 rfl) ?_
          refine lv_iadd hx hb dX10_miss_35 ?_
          refine lv_topi (fun x_18 e_19 => ?_)
          have i_20 : x_18.toInt = (3 * (y_10).toInt) + A1 := ia_add e_19 i_17 a1 (by omega) (by omega)
          refine g_iald C h 113 (by decide) (by decide) (n := 36) (by decide) (vp_of i_20 (by omega) (by omega)) dX10_miss_36 ?_
          refine lv_topi (fun x_21 e_22 => ?_)
          have hx36 : x_21 = v 113 (3 * (y_10 : Int32).toInt.toNat + A1.toNat) := by rw [e_22, cl_nat i_20, show (((3 * (y_10).toInt) + A1)).toNat = 3 * (y_10 : Int32).toInt.toNat + A1.toNat by omega]
          refine lv_aload_n hx hb dX10_miss_37 rfl (lv_at hl 0 rfl) ?_
          refine lv_iload_n hx hb dX10_miss_38 rfl (lv_at hl 1 rfl) ?_
          refine lv_aload_n hx hb dX10_miss_39 rfl (lv_at hl 0 rfl) ?_
          refine g_get (ci := 10) (x := .ref (G.2.2 (112))) C h 106 (by decide) rfl rfl hi10 8 (by decide) f26 rfl rfl dX10_miss_40 ?_
          refine lv_iconst (v := 3) hx hb dX10_miss_43 (by decide) ?_
          refine lv_iload_n hx hb dX10_miss_44 rfl (lv_at hl 3 rfl) ?_
          refine lv_imul hx hb dX10_miss_45 ?_
          refine lv_topi (fun x_23 e_24 => ?_)
          have i_25 : x_23.toInt = 3 * (y_10).toInt := ia_mul e_24 (by decide) rfl (by omega) (by omega)
          refine g_iald C h 112 (by decide) (by decide) (n := 36) (by decide) (vp_of i_25 (by omega) (by omega)) dX10_miss_46 ?_
          refine lv_topi (fun x_26 e_27 => ?_)
          have hx46 : x_26 = v 112 (3 * (y_10 : Int32).toInt.toNat) := by rw [e_27, cl_nat i_25, show ((3 * (y_10).toInt)).toNat = 3 * (y_10 : Int32).toInt.toNat by omega]
          refine lv_aload_n hx hb dX10_miss_47 rfl (lv_at hl 0 rfl) ?_
          refine g_get (ci := 10) (x := .ref (G.2.2 (112))) C h 106 (by decide) rfl rfl hi10 8 (by decide) f26 rfl rfl dX10_miss_48 ?_
          refine lv_iconst (v := 3) hx hb dX10_miss_51 (by decide) ?_
          refine lv_iload_n hx hb dX10_miss_52 rfl (lv_at hl 3 rfl) ?_
          refine lv_imul hx hb dX10_miss_53 ?_
          refine lv_topi (fun x_28 e_29 => ?_)
          have i_30 : x_28.toInt = 3 * (y_10).toInt := ia_mul e_29 (by decide) rfl (by omega) (by omega)
          refine lv_iconst (v := 1) hx hb dX10_miss_54 (by decide) ?_
          refine lv_iadd hx hb dX10_miss_55 ?_
          refine lv_topi (fun x_31 e_32 => ?_)
          have i_33 : x_31.toInt = (3 * (y_10).toInt) + 1 := ia_add e_32 i_30 (by decide) (by omega) (by omega)
          refine g_iald C h 112 (by decide) (by decide) (n := 36) (by decide) (vp_of i_33 (by omega) (by omega)) dX10_miss_56 ?_
          refine lv_topi (fun x_34 e_35 => ?_)
          have hx56 : x_34 = v 112 (3 * (y_10 : Int32).toInt.toNat + 1) := by rw [e_35, cl_nat i_33, show (((3 * (y_10).toInt) + 1)).toNat = 3 * (y_10 : Int32).toInt.toNat + 1 by omega]
          refine lv_aload_n hx hb dX10_miss_57 rfl (lv_at hl 0 rfl) ?_
          refine g_get (ci := 10) (x := .ref (G.2.2 (112))) C h 106 (by decide) rfl rfl hi10 8 (by decide) f26 rfl rfl dX10_miss_58 ?_
          refine lv_iconst (v := 3) hx hb dX10_miss_61 (by decide) ?_
          refine lv_iload_n hx hb dX10_miss_62 rfl (lv_at hl 3 rfl) ?_
          refine lv_imul hx hb dX10_miss_63 ?_
          refine lv_topi (fun x_36 e_37 => ?_)
          have i_38 : x_36.toInt = 3 * (y_10).toInt := ia_mul e_37 (by decide) rfl (by omega) (by omega)
          refine lv_iconst (v := 2) hx hb dX10_miss_64 (by decide) ?_
          refine lv_iadd hx hb dX10_miss_65 ?_
          refine lv_topi (fun x_39 e_40 => ?_)
          have i_41 : x_39.toInt = (3 * (y_10).toInt) + 2 := ia_add e_40 i_38 (by decide) (by omega) (by omega)
          refine g_iald C h 112 (by decide) (by decide) (n := 36) (by decide) (vp_of i_41 (by omega) (by omega)) dX10_miss_66 ?_
          refine lv_topi (fun x_42 e_43 => ?_)
          have hx66 : x_42 = v 112 (3 * (y_10 : Int32).toInt.toNat + 2) := by rw [e_43, cl_nat i_41, show (((3 * (y_10).toInt) + 2)).toNat = 3 * (y_10 : Int32).toInt.toNat + 2 by omega]
          refine g_calli C (va_runV (As := [.int (p1), .int (x_26), .int (x_34), .int (x_42)]) (rest := [.int (x_21)]) C.1 (c_X10_readingOf l G v w sg p1 (A1 := A1) a1 x_26 (A2 := (x_26).toInt) rfl x_34 (A3 := (x_34).toInt) rfl x_42 (A4 := (x_42).toInt) rfl (by omega) mi) (cwV 4 hts gX10_miss_X10_readingOf rfl rfl rfl (by decide +kernel) ⟨by rw [hR]; exact Nat.le_of_ble_eq_true rfl, by rw [hR]; exact Nat.le_of_ble_eq_true rfl⟩) ⟨gPre_blind, g_recv C h 106 (by decide) (ci := 10) rfl rfl, gS_pre C h _⟩ rfl rfl hl.1 rfl (lv_room (Nat.le_of_ble_eq_true rfl)) dX10_miss_67 ⟨Nat.zero_le _, Nat.zero_le _⟩) h (fun r_44 v_46 w_47 g_48 H locs p_45 h => ?_)
          obtain ⟨p_45, rfl, rfl, rfl⟩ := p_45
          have hrc := p_45
          rw [hx46, hx56, hx66] at hrc
          refine lv_isub hx hb dX10_miss_70 ?_
          refine lv_topi (fun x_49 e_50 => ?_)
          have hd71 := e_50
          refine lv_istore (lv' := [(4, .int (x_49)), (0, .ref (G.2.2 (106))), (1, .int (p1)), (2, .int (y_9)), (3, .int (y_10))]) hx hb dX10_miss_71 hl (by decide) rfl (fun ls hl => ?_)
          refine lv_iload hx hb dX10_miss_73 (lv_at hl 0 rfl) ?_
          have J86_51 : ∀ (y_51 : Int32) (H : Heap) (locs : List Loc) (ls : Array Slot), (y_51 = abM x_49) → gS (gA G) G s v w sg H locs → lv_has ls 5 [(0, .ref (G.2.2 (106))), (1, .int (p1)), (2, .int (y_9)), (3, .int (y_10)), (4, .int (x_49))] → W p l e R s m args below meth c H locs 0 0 Q (F0 m 86 ls [.int (y_51)]) := by
            intro y_51 H locs ls f_52 h hl
            refine lv_istore (lv' := [(4, .int (y_51)), (0, .ref (G.2.2 (106))), (1, .int (p1)), (2, .int (y_9)), (3, .int (y_10))]) hx hb dX10_miss_86 hl (by decide) rfl (fun ls hl => ?_)
            refine lv_iload hx hb dX10_miss_88 (lv_at hl 0 rfl) ?_
            refine lv_iload_n hx hb dX10_miss_90 rfl (lv_at hl 3 rfl) ?_
            have J100_53 : ∀ (y_53 : Int32) (H : Heap) (locs : List Loc) (ls : Array Slot), (y_53 = mxM y_9 y_51) → gS (gA G) G s v w sg H locs → lv_has ls 5 [(0, .ref (G.2.2 (106))), (1, .int (p1)), (2, .int (y_9)), (3, .int (y_10)), (4, .int (y_51))] → W p l e R s m args below meth c H locs 0 0 Q (F0 m 100 ls [.int (y_53)]) := by
              intro y_53 H locs ls f_54 h hl
              refine lv_istore_n (lv' := [(2, .int (y_53)), (0, .ref (G.2.2 (106))), (1, .int (p1)), (3, .int (y_10)), (4, .int (y_51))]) hx hb dX10_miss_100 rfl hl (by decide) rfl (fun ls hl => ?_)
              obtain ⟨x_55, e_56⟩ : ∃ y : Int32, y = y_10 + 1 := ⟨_, rfl⟩
              have i_57 : x_55.toInt = (y_10).toInt + 1 := ia_add e_56 rfl (by decide) (by omega) (by omega)
              refine lv_iinc (v := x_55) (lv' := [(3, .int (x_55)), (2, .int (y_53)), (0, .ref (G.2.2 (106))), (1, .int (p1)), (4, .int (y_51))]) hx hb dX10_miss_101 hl (k := 3) rfl (by rw [e_56]; rfl) (by decide) rfl (fun ls hl => ?_)
              refine lv_goto (tgt := 19) hx hb dX10_miss_104 (by decide) ?_
              exact ih19 y_53 x_55 _ _ _ (by omega) (by omega) (msM_st f_12 f_54 f_52 hd71 hx36 hrc (by omega)) h (lv_sub hl [2, 3, 1, 0] rfl)
            refine lv_icmp_le (tgt := 99) hx hb dX10_miss_91 (by decide) (fun c_58 => ?_) (fun c_58 => ?_)
            · have j_59 : (y_51).toInt ≤ (y_9).toInt := (i_le rfl rfl).mp c_58
              refine lv_iload_n hx hb dX10_miss_99 rfl (lv_at hl 3 rfl) ?_
              exact J100_53 y_9 _ _ _ (by unfold mxM; first | (rw [if_pos (by omega)]; done) | (rw [if_neg (by omega)]; done)) h (lv_sub hl [1, 2, 3, 4, 0] rfl)
            · have j_59 : ¬ ((y_51).toInt ≤ (y_9).toInt) := fun q => c_58 ((i_le rfl rfl).mpr q)
              refine lv_iload hx hb dX10_miss_94 (lv_at hl 0 rfl) ?_
              refine lv_goto (tgt := 100) hx hb dX10_miss_96 (by decide) ?_
              exact J100_53 y_51 _ _ _ (by unfold mxM; first | (rw [if_pos (by omega)]; done) | (rw [if_neg (by omega)]; done)) h (lv_sub hl [1, 2, 3, 4, 0] rfl)
          refine lv_if_ge (tgt := 84) hx hb dX10_miss_75 (by decide) (fun c_60 => ?_) (fun c_60 => ?_)
          · have j_61 : 0 ≤ (x_49).toInt := (i_le (by decide) rfl).mp c_60
            refine lv_iload hx hb dX10_miss_84 (lv_at hl 0 rfl) ?_
            exact J86_51 x_49 _ _ _ (by unfold abM; first | (rw [if_neg (by omega)]; done) | (rw [if_pos (by omega)]; assumption)) h (lv_sub hl [1, 2, 3, 4, 0] rfl)
          · have j_61 : ¬ (0 ≤ (x_49).toInt) := fun q => c_60 ((i_le (by decide) rfl).mpr q)
            refine lv_iload hx hb dX10_miss_78 (lv_at hl 0 rfl) ?_
            refine lv_ineg hx hb dX10_miss_80 ?_
            refine lv_topi (fun x_62 e_63 => ?_)
            refine lv_goto (tgt := 86) hx hb dX10_miss_81 (by decide) ?_
            exact J86_51 x_62 _ _ _ (by unfold abM; first | (rw [if_neg (by omega)]; done) | (rw [if_pos (by omega)]; assumption)) h (lv_sub hl [1, 2, 3, 4, 0] rfl)
    refine lv_istore_n (lv' := [(3, .int (0)), (2, .int ((-4))), (0, .ref (G.2.2 (106))), (1, .int (p1))]) hx hb dX10_miss_18 rfl hl (by decide) rfl (fun ls hl => ?_)
    exact J19_10 _ (-4) 0 _ _ _ (Nat.lt_succ_self _) (by omega) rfl h (lv_sub hl [2, 3, 1, 0] rfl)
  · skip
    refine lv_if_ne (tgt := 14) hx hb dX10_miss_9 (by decide) (fun c_64 => absurd (by decide) c_64) (fun _ => ?_)
    refine lv_iconst (v := (-1)) hx hb dX10_miss_12 (by decide) ?_
    exact ret (-1) v w sg _ _ _ _ dX10_miss_13 h ⟨Or.inl ⟨(by omega), rfl⟩, rfl, rfl, rfl⟩

set_option maxHeartbeats 4000000 in
set_option maxRecDepth 100000 in
theorem c_X10_forget (l : Launch) (G : gG) (v : Nat → Nat → Int32) (w : Nat → Nat → Int64) (sg : Nat → Nat) (mi : mI v) : Met l yX10_forget wsX10_forget ({ frames := 0, cells := 0, slots := 0, locals := 0 }) (gPre G v w sg [.ref (G.2.2 (106))]) (gQi G (fun r v' w' sg' => (mI v' ∧ fM 112 114 7 8 v w v' w ∧ r = v 106 7 ∧ v' = gu v 106 7 0) ∧ w = w' ∧ sg = sg')) 0 0 (gA G) := by
  refine gM_ofi (cc := cX10_forget) (maxL := 2) (by decide) rfl (Nat.le_of_ble_eq_true rfl) ?_
  intro p e R s m args below meth c Q ls C hR ret h hl
  have hx := C.1.1
  have hb := C.1.2.1
  have hown := C.1.2.2.2.1
  have hts := C.1.2.2.2.2
  have hl : lv_has ls 2 [(0, .ref (G.2.2 (106)))] := hl
  have z_0 : (0 : Int32).toInt = 0 := by decide
  have z_1 : (1 : Int32).toInt = 1 := by decide
  have f170 : Cond.fieldLink RX10 170 "WindHallModel" "points" "I" ∈ wsX10_forget := by decide +kernel
  have hi10 : ∀ x ∈ u_ws RX10 TX10 42, x ∈ wsX10_forget := fun x q => List.mem_cons_of_mem _ (List.mem_append_right _ q)
  have o_1 := mi
  obtain ⟨I7, I10, I18, I22, I27, I29, I32, Is, I35, Ia, Iar, Isz, Ian⟩ := o_1
  refine lv_aload_n hx hb dX10_forget_0 rfl (lv_at hl 0 rfl) ?_
  refine g_geti (ci := 10) (x := v 106 7) C h 106 (by decide) rfl rfl hi10 7 (by decide) f170 rfl rfl rfl dX10_forget_1 ?_
  refine lv_istore_n (lv' := [(1, .int (v 106 7)), (0, .ref (G.2.2 (106)))]) hx hb dX10_forget_4 rfl hl (by decide) rfl (fun ls hl => ?_)
  refine lv_aload_n hx hb dX10_forget_5 rfl (lv_at hl 1 rfl) ?_
  refine lv_iconst (v := 0) hx hb dX10_forget_6 (by decide) ?_
  refine g_put (ci := 10) (x := 0) (ty := .int) C h 106 (by decide) rfl rfl hi10 tyX10 tyX10_ok nmX10 7 (by decide) f170 rfl rfl (by decide +kernel) rfl rfl (Nat.le_of_ble_eq_true rfl) rfl dX10_forget_7 (fun H locs h => ?_)
  obtain ⟨v_2, hv_2⟩ : ∃ z, z = gu v 106 7 0 := ⟨_, rfl⟩
  have h : gS (gA G) G s v_2 w sg H locs := by rw [hv_2]; exact h
  have u_3 : mI v_2 := by rw [hv_2]; exact (mI_7 mi (by omega))
  have u_4 : fM 112 114 7 8 v w v_2 w := by rw [hv_2]; exact (fM_f fM_rf (by decide))
  refine lv_iload_n hx hb dX10_forget_10 rfl (lv_at hl 0 rfl) ?_
  exact ret (v 106 7) v_2 w sg _ _ _ _ dX10_forget_11 h ⟨⟨u_3, u_4, ⟨rfl, by rw [hv_2]⟩⟩, rfl, rfl⟩

set_option maxHeartbeats 4000000 in
set_option maxRecDepth 100000 in
theorem c_X10_isCorrection (l : Launch) (G : gG) (v : Nat → Nat → Int32) (w : Nat → Nat → Int64) (sg : Nat → Nat) (p1 : Int32) {A1 : Int} (a1 : p1.toInt = A1) (mi : mI v) : Met l yX10_isCorrection wsX10_isCorrection ({ frames := 1, cells := 0, slots := 0, locals := 25 }) (gPre G v w sg [.ref (G.2.2 (106)), .int (p1)]) (gQi G (fun r v' w' sg' => ((r = 1 ∧ 0 ≤ A1 ∧ A1 < (v 106 10).toInt) ∨ (r = 0 ∧ (A1 < 0 ∨ (v 106 10).toInt ≤ A1))) ∧ v = v' ∧ w = w' ∧ sg = sg')) 0 0 (gA G) := by
  refine gM_ofz (cc := cX10_isCorrection) (maxL := 2) (by decide) rfl (Nat.le_of_ble_eq_true rfl) ?_
  intro p e R s m args below meth c Q ls C hR ret h hl
  have hx := C.1.1
  have hb := C.1.2.1
  have hown := C.1.2.2.2.1
  have hts := C.1.2.2.2.2
  have hl : lv_has ls 2 [(0, .ref (G.2.2 (106))), (1, .int (p1))] := hl
  have q1 := i_rng p1; rw [a1] at q1
  have z_0 : (0 : Int32).toInt = 0 := by decide
  have z_1 : (1 : Int32).toInt = 1 := by decide
  have f178 : Cond.fieldLink RX10 178 "WindHallModel" "corrections" "I" ∈ wsX10_isCorrection := by decide +kernel
  have hi10 : ∀ x ∈ u_ws RX10 TX10 42, x ∈ wsX10_isCorrection := fun x q => List.mem_cons_of_mem _ (List.mem_append_right _ q)
  have o_1 := mi
  obtain ⟨I7, I10, I18, I22, I27, I29, I32, Is, I35, Ia, Iar, Isz, Ian⟩ := o_1
  refine lv_iload_n hx hb dX10_isCorrection_0 rfl (lv_at hl 1 rfl) ?_
  refine lv_i2l (v := (p1 : Int32).toInt64) hx hb dX10_isCorrection_1 rfl ?_
  refine lv_lconst (v := 0) hx hb dX10_isCorrection_2 (by decide) ?_
  refine lv_aload_n hx hb dX10_isCorrection_3 rfl (lv_at hl 0 rfl) ?_
  refine g_geti (ci := 10) (x := v 106 10) C h 106 (by decide) rfl rfl hi10 10 (by decide) f178 rfl rfl rfl dX10_isCorrection_4 ?_
  refine lv_iconst (v := 1) hx hb dX10_isCorrection_7 (by decide) ?_
  refine lv_isub hx hb dX10_isCorrection_8 ?_
  refine lv_topi (fun x_2 e_3 => ?_)
  have i_4 : x_2.toInt = (v 106 10).toInt - 1 := ia_sub e_3 rfl (by decide) (by omega) (by omega)
  refine lv_i2l (v := (x_2 : Int32).toInt64) hx hb dX10_isCorrection_9 rfl ?_
  refine g_calli C (va_runS (As := [.long ((p1 : Int32).toInt64), .long (0), .long ((x_2 : Int32).toInt64)]) (rest := []) C.1 (c_X10_in l G v w sg ((p1 : Int32).toInt64) (A0 := A1) (il_of a1) (0) (A2 := 0) (by decide) ((x_2 : Int32).toInt64) (A4 := ((v 106 10).toInt - 1)) (il_of i_4)) (va_cwS 3 hts gX10_isCorrection_X10_in rfl rfl rfl (by decide +kernel) ⟨by rw [hR]; exact Nat.le_of_ble_eq_true rfl, by rw [hR]; exact Nat.le_of_ble_eq_true rfl⟩) ⟨gPre_blind, gS_pre C h _⟩ rfl rfl hl.1 rfl (lv_room (Nat.le_of_ble_eq_true rfl)) dX10_isCorrection_10 ⟨Nat.zero_le _, Nat.zero_le _⟩) h (fun r_5 v_7 w_8 g_9 H locs p_6 h => ?_)
  obtain ⟨p_6, rfl, rfl, rfl⟩ := p_6
  rcases p_6 with ⟨rfl, t_10⟩ | ⟨rfl, t_10⟩
  · skip
    exact ret 1 v w sg _ _ _ _ rfl dX10_isCorrection_13 h ⟨Or.inl ⟨rfl, by omega⟩, rfl, rfl, rfl⟩
  · skip
    exact ret 0 v w sg _ _ _ _ rfl dX10_isCorrection_13 h ⟨Or.inr ⟨rfl, by omega⟩, rfl, rfl, rfl⟩

set_option maxHeartbeats 4000000 in
set_option maxRecDepth 100000 in
theorem c_X10_correct (l : Launch) (G : gG) (v : Nat → Nat → Int32) (w : Nat → Nat → Int64) (sg : Nat → Nat) (p1 : Int32) {A1 : Int} (a1 : p1.toInt = A1) (p2 : Int32) {A2 : Int} (a2 : p2.toInt = A2) (p3 : Int32) {A3 : Int} (a3 : p3.toInt = A3) (p4 : Int32) {A4 : Int} (a4 : p4.toInt = A4) (mi : mI v) : Met l yX10_correct wsX10_correct ({ frames := 1, cells := 0, slots := 0, locals := 25 }) (gPre G v w sg [.ref (G.2.2 (106)), .int (p1), .int (p2), .int (p3), .int (p4)]) (gQi G (fun r v' w' sg' => (mI v' ∧ fM 114 123 10 19 v w v' w) ∧ w = w' ∧ sg = sg')) 0 0 (gA G) := by
  refine gM_ofi (cc := cX10_correct) (maxL := 5) (by decide) rfl (Nat.le_of_ble_eq_true rfl) ?_
  intro p e R s m args below meth c Q ls C hR ret h hl
  have hx := C.1.1
  have hb := C.1.2.1
  have hown := C.1.2.2.2.1
  have hts := C.1.2.2.2.2
  have hl : lv_has ls 5 [(0, .ref (G.2.2 (106))), (1, .int (p1)), (2, .int (p2)), (3, .int (p3)), (4, .int (p4))] := hl
  have q1 := i_rng p1; rw [a1] at q1
  have q2 := i_rng p2; rw [a2] at q2
  have q3 := i_rng p3; rw [a3] at q3
  have q4 := i_rng p4; rw [a4] at q4
  have z_m3 : ((-3) : Int32).toInt = (-3) := by decide
  have z_m1 : ((-1) : Int32).toInt = (-1) := by decide
  have z_0 : (0 : Int32).toInt = 0 := by decide
  have z_1 : (1 : Int32).toInt = 1 := by decide
  have z_3 : (3 : Int32).toInt = 3 := by decide
  have z_10 : (10 : Int32).toInt = 10 := by decide
  have k181 : (Cond.constantLong RX10 181 (4)).before args s = true := hts _ (by decide +kernel)
  have k185 : (Cond.constantLong RX10 185 (-10000)).before args s = true := hts _ (by decide +kernel)
  have k189 : (Cond.constantLong RX10 189 (10000)).before args s = true := hts _ (by decide +kernel)
  have f178 : Cond.fieldLink RX10 178 "WindHallModel" "corrections" "I" ∈ wsX10_correct := by decide +kernel
  have hi10 : ∀ x ∈ u_ws RX10 TX10 42, x ∈ wsX10_correct := fun x q => List.mem_cons_of_mem _ (List.mem_append_right _ q)
  have f32 : Cond.fieldLink RX10 32 "WindHallModel" "cKind" "[I" ∈ wsX10_correct := by decide +kernel
  have f35 : Cond.fieldLink RX10 35 "WindHallModel" "cU" "[I" ∈ wsX10_correct := by decide +kernel
  have f38 : Cond.fieldLink RX10 38 "WindHallModel" "cV" "[I" ∈ wsX10_correct := by decide +kernel
  have f41 : Cond.fieldLink RX10 41 "WindHallModel" "cW" "[I" ∈ wsX10_correct := by decide +kernel
  have f44 : Cond.fieldLink RX10 44 "WindHallModel" "cOn" "[Z" ∈ wsX10_correct := by decide +kernel
  have k187 : (Cond.constantLong RX10 187 (300)).before args s = true := hts _ (by decide +kernel)
  have k183 : (Cond.constantLong RX10 183 (-300)).before args s = true := hts _ (by decide +kernel)
  have o_1 := mi
  obtain ⟨I7, I10, I18, I22, I27, I29, I32, Is, I35, Ia, Iar, Isz, Ian⟩ := o_1
  refine lv_iload_n hx hb dX10_correct_0 rfl (lv_at hl 1 rfl) ?_
  refine lv_i2l (v := (p1 : Int32).toInt64) hx hb dX10_correct_1 rfl ?_
  refine lv_lconst (v := 0) hx hb dX10_correct_2 (by decide) ?_
  refine lv_ldc2 hx hb hown k181 dX10_correct_3 ?_
  refine g_calli C (va_runS (As := [.long ((p1 : Int32).toInt64), .long (0), .long (4)]) (rest := []) C.1 (c_X10_in l G v w sg ((p1 : Int32).toInt64) (A0 := A1) (il_of a1) (0) (A2 := 0) (by decide) (4) (A4 := 4) (by decide)) (va_cwS 3 hts gX10_correct_X10_in rfl rfl rfl (by decide +kernel) ⟨by rw [hR]; exact Nat.le_of_ble_eq_true rfl, by rw [hR]; exact Nat.le_of_ble_eq_true rfl⟩) ⟨gPre_blind, gS_pre C h _⟩ rfl rfl hl.1 rfl (lv_room (Nat.le_of_ble_eq_true rfl)) dX10_correct_6 ⟨Nat.zero_le _, Nat.zero_le _⟩) h (fun r_2 v_4 w_5 g_6 H locs p_3 h => ?_)
  obtain ⟨p_3, rfl, rfl, rfl⟩ := p_3
  rcases p_3 with ⟨rfl, t_7⟩ | ⟨rfl, t_7⟩
  · skip
    refine lv_if_eq (tgt := 77) hx hb dX10_correct_9 (by decide) (fun c_8 => absurd c_8 (by decide)) (fun _ => ?_)
    refine lv_iload_n hx hb dX10_correct_12 rfl (lv_at hl 2 rfl) ?_
    refine lv_i2l (v := (p2 : Int32).toInt64) hx hb dX10_correct_13 rfl ?_
    refine lv_iload_n hx hb dX10_correct_14 rfl (lv_at hl 1 rfl) ?_
    refine lv_iconst (v := 3) hx hb dX10_correct_15 (by decide) ?_
    have J28_9 : ∀ (y_9 : Int64) (H : Heap) (locs : List Loc) (ls : Array Slot), gS (gA G) G s v w sg H locs → lv_has ls 5 [(0, .ref (G.2.2 (106))), (1, .int (p1)), (2, .int (p2)), (3, .int (p3)), (4, .int (p4))] → W p l e R s m args below meth c H locs 0 0 Q (F0 m 28 ls [.long (y_9), .long ((p2 : Int32).toInt64)]) := by
      intro y_9 H locs ls  h hl
      refine lv_iload_n hx hb dX10_correct_28 rfl (lv_at hl 1 rfl) ?_
      refine lv_iconst (v := 3) hx hb dX10_correct_29 (by decide) ?_
      have J42_10 : ∀ (y_10 : Int64) (H : Heap) (locs : List Loc) (ls : Array Slot), gS (gA G) G s v w sg H locs → lv_has ls 5 [(0, .ref (G.2.2 (106))), (1, .int (p1)), (2, .int (p2)), (3, .int (p3)), (4, .int (p4))] → W p l e R s m args below meth c H locs 0 0 Q (F0 m 42 ls [.long (y_10), .long (y_9), .long ((p2 : Int32).toInt64)]) := by
        intro y_10 H locs ls  h hl
        refine g_calli C (va_runS (As := [.long ((p2 : Int32).toInt64), .long (y_9), .long (y_10)]) (rest := []) C.1 (c_X10_in l G v w sg ((p2 : Int32).toInt64) (A0 := A2) (il_of a2) y_9 (A2 := (y_9).toInt) rfl y_10 (A4 := (y_10).toInt) rfl) (va_cwS 3 hts gX10_correct_X10_in rfl rfl rfl (by decide +kernel) ⟨by rw [hR]; exact Nat.le_of_ble_eq_true rfl, by rw [hR]; exact Nat.le_of_ble_eq_true rfl⟩) ⟨gPre_blind, gS_pre C h _⟩ rfl rfl hl.1 rfl (lv_room (Nat.le_of_ble_eq_true rfl)) dX10_correct_42 ⟨Nat.zero_le _, Nat.zero_le _⟩) h (fun r_11 v_13 w_14 g_15 H locs p_12 h => ?_)
        obtain ⟨p_12, rfl, rfl, rfl⟩ := p_12
        rcases p_12 with ⟨rfl, t_16⟩ | ⟨rfl, t_16⟩
        · skip
          refine lv_if_eq (tgt := 77) hx hb dX10_correct_45 (by decide) (fun c_17 => absurd c_17 (by decide)) (fun _ => ?_)
          refine lv_iload_n hx hb dX10_correct_48 rfl (lv_at hl 3 rfl) ?_
          refine lv_i2l (v := (p3 : Int32).toInt64) hx hb dX10_correct_49 rfl ?_
          refine lv_ldc2 hx hb hown k185 dX10_correct_50 ?_
          refine lv_ldc2 hx hb hown k189 dX10_correct_53 ?_
          refine g_calli C (va_runS (As := [.long ((p3 : Int32).toInt64), .long ((-10000)), .long (10000)]) (rest := []) C.1 (c_X10_in l G v w sg ((p3 : Int32).toInt64) (A0 := A3) (il_of a3) ((-10000)) (A2 := (-10000)) (by decide) (10000) (A4 := 10000) (by decide)) (va_cwS 3 hts gX10_correct_X10_in rfl rfl rfl (by decide +kernel) ⟨by rw [hR]; exact Nat.le_of_ble_eq_true rfl, by rw [hR]; exact Nat.le_of_ble_eq_true rfl⟩) ⟨gPre_blind, gS_pre C h _⟩ rfl rfl hl.1 rfl (lv_room (Nat.le_of_ble_eq_true rfl)) dX10_correct_56 ⟨Nat.zero_le _, Nat.zero_le _⟩) h (fun r_18 v_20 w_21 g_22 H locs p_19 h => ?_)
          obtain ⟨p_19, rfl, rfl, rfl⟩ := p_19
          rcases p_19 with ⟨rfl, t_23⟩ | ⟨rfl, t_23⟩
          · skip
            refine lv_if_eq (tgt := 77) hx hb dX10_correct_59 (by decide) (fun c_24 => absurd c_24 (by decide)) (fun _ => ?_)
            refine lv_iload hx hb dX10_correct_62 (lv_at hl 4 rfl) ?_
            refine lv_i2l (v := (p4 : Int32).toInt64) hx hb dX10_correct_64 rfl ?_
            refine lv_ldc2 hx hb hown k185 dX10_correct_65 ?_
            refine lv_ldc2 hx hb hown k189 dX10_correct_68 ?_
            refine g_calli C (va_runS (As := [.long ((p4 : Int32).toInt64), .long ((-10000)), .long (10000)]) (rest := []) C.1 (c_X10_in l G v w sg ((p4 : Int32).toInt64) (A0 := A4) (il_of a4) ((-10000)) (A2 := (-10000)) (by decide) (10000) (A4 := 10000) (by decide)) (va_cwS 3 hts gX10_correct_X10_in rfl rfl rfl (by decide +kernel) ⟨by rw [hR]; exact Nat.le_of_ble_eq_true rfl, by rw [hR]; exact Nat.le_of_ble_eq_true rfl⟩) ⟨gPre_blind, gS_pre C h _⟩ rfl rfl hl.1 rfl (lv_room (Nat.le_of_ble_eq_true rfl)) dX10_correct_71 ⟨Nat.zero_le _, Nat.zero_le _⟩) h (fun r_25 v_27 w_28 g_29 H locs p_26 h => ?_)
            obtain ⟨p_26, rfl, rfl, rfl⟩ := p_26
            rcases p_26 with ⟨rfl, t_30⟩ | ⟨rfl, t_30⟩
            · skip
              refine lv_if_ne (tgt := 79) hx hb dX10_correct_74 (by decide) (fun _ => ?_) (fun c_31 => absurd c_31 (by decide))
              refine lv_aload_n hx hb dX10_correct_79 rfl (lv_at hl 0 rfl) ?_
              refine g_geti (ci := 10) (x := v 106 10) C h 106 (by decide) rfl rfl hi10 10 (by decide) f178 rfl rfl rfl dX10_correct_80 ?_
              refine lv_bipush (v := 10) hx hb dX10_correct_83 (by decide) ?_
              refine lv_icmp_ne (tgt := 91) hx hb dX10_correct_85 (by decide) (fun c_32 => ?_) (fun c_32 => ?_)
              · have j_33 : ¬ ((v 106 10).toInt = 10) := fun q => c_32 ((i_eq rfl (by decide)).mpr q)
                refine lv_aload_n hx hb dX10_correct_91 rfl (lv_at hl 0 rfl) ?_
                refine g_get (ci := 10) (x := .ref (G.2.2 (114))) C h 106 (by decide) rfl rfl hi10 11 (by decide) f32 rfl rfl dX10_correct_92 ?_
                refine lv_aload_n hx hb dX10_correct_95 rfl (lv_at hl 0 rfl) ?_
                refine g_geti (ci := 10) (x := v 106 10) C h 106 (by decide) rfl rfl hi10 10 (by decide) f178 rfl rfl rfl dX10_correct_96 ?_
                refine lv_iload_n hx hb dX10_correct_99 rfl (lv_at hl 1 rfl) ?_
                refine g_iast C h 114 (by decide) (by decide) (n := 10) (by decide) (vp_of rfl (by omega) (by omega)) dX10_correct_100 (fun H locs h => ?_)
                obtain ⟨v_34, hv_34⟩ : ∃ z, z = gu v 114 ((v 106 10 : Int32).toNatClampNeg) p1 := ⟨_, rfl⟩
                have h : gS (gA G) G s v_34 w sg H locs := by rw [hv_34]; exact h
                have u_35 : mI v_34 := by rw [hv_34]; exact mi
                have u_36 : fM 114 123 10 19 v w v_34 w := by rw [hv_34]; exact (fM_v fM_rf (by decide))
                refine lv_aload_n hx hb dX10_correct_101 rfl (lv_at hl 0 rfl) ?_
                refine g_get (ci := 10) (x := .ref (G.2.2 (115))) C h 106 (by decide) rfl rfl hi10 12 (by decide) f35 rfl rfl dX10_correct_102 ?_
                refine lv_aload_n hx hb dX10_correct_105 rfl (lv_at hl 0 rfl) ?_
                refine g_geti (ci := 10) (x := v 106 10) C h 106 (by decide) rfl rfl hi10 10 (by decide) f178 rfl rfl (by rw [hv_34] <;> rfl) dX10_correct_106 ?_
                refine lv_iload_n hx hb dX10_correct_109 rfl (lv_at hl 2 rfl) ?_
                refine g_iast C h 115 (by decide) (by decide) (n := 10) (by decide) (vp_of rfl (by omega) (by omega)) dX10_correct_110 (fun H locs h => ?_)
                obtain ⟨v_37, hv_37⟩ : ∃ z, z = gu v_34 115 ((v 106 10 : Int32).toNatClampNeg) p2 := ⟨_, rfl⟩
                have h : gS (gA G) G s v_37 w sg H locs := by rw [hv_37]; exact h
                have u_38 : mI v_37 := by rw [hv_37]; exact u_35
                have u_39 : fM 114 123 10 19 v w v_37 w := by rw [hv_37]; exact (fM_v u_36 (by decide))
                refine lv_aload_n hx hb dX10_correct_111 rfl (lv_at hl 0 rfl) ?_
                refine g_get (ci := 10) (x := .ref (G.2.2 (116))) C h 106 (by decide) rfl rfl hi10 13 (by decide) f38 rfl rfl dX10_correct_112 ?_
                refine lv_aload_n hx hb dX10_correct_115 rfl (lv_at hl 0 rfl) ?_
                refine g_geti (ci := 10) (x := v 106 10) C h 106 (by decide) rfl rfl hi10 10 (by decide) f178 rfl rfl (by rw [hv_37, hv_34] <;> rfl) dX10_correct_116 ?_
                refine lv_iload_n hx hb dX10_correct_119 rfl (lv_at hl 3 rfl) ?_
                refine g_iast C h 116 (by decide) (by decide) (n := 10) (by decide) (vp_of rfl (by omega) (by omega)) dX10_correct_120 (fun H locs h => ?_)
                obtain ⟨v_40, hv_40⟩ : ∃ z, z = gu v_37 116 ((v 106 10 : Int32).toNatClampNeg) p3 := ⟨_, rfl⟩
                have h : gS (gA G) G s v_40 w sg H locs := by rw [hv_40]; exact h
                have u_41 : mI v_40 := by rw [hv_40]; exact u_38
                have u_42 : fM 114 123 10 19 v w v_40 w := by rw [hv_40]; exact (fM_v u_39 (by decide))
                refine lv_aload_n hx hb dX10_correct_121 rfl (lv_at hl 0 rfl) ?_
                refine g_get (ci := 10) (x := .ref (G.2.2 (117))) C h 106 (by decide) rfl rfl hi10 14 (by decide) f41 rfl rfl dX10_correct_122 ?_
                refine lv_aload_n hx hb dX10_correct_125 rfl (lv_at hl 0 rfl) ?_
                refine g_geti (ci := 10) (x := v 106 10) C h 106 (by decide) rfl rfl hi10 10 (by decide) f178 rfl rfl (by rw [hv_40, hv_37, hv_34] <;> rfl) dX10_correct_126 ?_
                refine lv_iload hx hb dX10_correct_129 (lv_at hl 4 rfl) ?_
                refine g_iast C h 117 (by decide) (by decide) (n := 10) (by decide) (vp_of rfl (by omega) (by omega)) dX10_correct_131 (fun H locs h => ?_)
                obtain ⟨v_43, hv_43⟩ : ∃ z, z = gu v_40 117 ((v 106 10 : Int32).toNatClampNeg) p4 := ⟨_, rfl⟩
                have h : gS (gA G) G s v_43 w sg H locs := by rw [hv_43]; exact h
                have u_44 : mI v_43 := by rw [hv_43]; exact u_41
                have u_45 : fM 114 123 10 19 v w v_43 w := by rw [hv_43]; exact (fM_v u_42 (by decide))
                refine lv_aload_n hx hb dX10_correct_132 rfl (lv_at hl 0 rfl) ?_
                refine g_get (ci := 10) (x := .ref (G.2.2 (118))) C h 106 (by decide) rfl rfl hi10 15 (by decide) f44 rfl rfl dX10_correct_133 ?_
                refine lv_aload_n hx hb dX10_correct_136 rfl (lv_at hl 0 rfl) ?_
                refine g_geti (ci := 10) (x := v 106 10) C h 106 (by decide) rfl rfl hi10 10 (by decide) f178 rfl rfl (by rw [hv_43, hv_40, hv_37, hv_34] <;> rfl) dX10_correct_137 ?_
                refine lv_iconst (v := 1) hx hb dX10_correct_140 (by decide) ?_
                refine g_zast C h 118 (by decide) (by decide) (n := 10) (by decide) (vp_of rfl (by omega) (by omega)) dX10_correct_141 (fun H locs h => ?_)
                obtain ⟨v_46, hv_46⟩ : ∃ z, z = gu v_43 118 ((v 106 10 : Int32).toNatClampNeg) (vp_nar .boolean 1) := ⟨_, rfl⟩
                have h : gS (gA G) G s v_46 w sg H locs := by rw [hv_46]; exact h
                have u_47 : mI v_46 := by rw [hv_46]; exact u_44
                have u_48 : fM 114 123 10 19 v w v_46 w := by rw [hv_46]; exact (fM_v u_45 (by decide))
                refine lv_aload_n hx hb dX10_correct_142 rfl (lv_at hl 0 rfl) ?_
                refine lv_dup hx hb dX10_correct_143 rfl ?_
                refine g_geti (ci := 10) (x := v 106 10) C h 106 (by decide) rfl rfl hi10 10 (by decide) f178 rfl rfl (by rw [hv_46, hv_43, hv_40, hv_37, hv_34] <;> rfl) dX10_correct_144 ?_
                refine lv_iconst (v := 1) hx hb dX10_correct_147 (by decide) ?_
                refine lv_iadd hx hb dX10_correct_148 ?_
                refine lv_topi (fun x_49 e_50 => ?_)
                have i_51 : x_49.toInt = (v 106 10).toInt + 1 := ia_add e_50 rfl (by decide) (by omega) (by omega)
                refine g_put (ci := 10) (x := x_49) (ty := .int) C h 106 (by decide) rfl rfl hi10 tyX10 tyX10_ok nmX10 10 (by decide) f178 rfl rfl (by decide +kernel) rfl rfl (Nat.le_of_ble_eq_true rfl) rfl dX10_correct_149 (fun H locs h => ?_)
                obtain ⟨v_52, hv_52⟩ : ∃ z, z = gu v_46 106 10 x_49 := ⟨_, rfl⟩
                have h : gS (gA G) G s v_52 w sg H locs := by rw [hv_52]; exact h
                have u_53 : mI v_52 := by rw [hv_52]; exact (mI_10 u_47 (by omega))
                have u_54 : fM 114 123 10 19 v w v_52 w := by rw [hv_52]; exact (fM_f u_48 (by decide))
                refine lv_aload_n hx hb dX10_correct_152 rfl (lv_at hl 0 rfl) ?_
                refine g_geti (ci := 10) (x := x_49) C h 106 (by decide) rfl rfl hi10 10 (by decide) f178 rfl rfl (by rw [hv_52] <;> rfl) dX10_correct_153 ?_
                refine lv_iconst (v := 1) hx hb dX10_correct_156 (by decide) ?_
                refine lv_isub hx hb dX10_correct_157 ?_
                refine lv_topi (fun x_55 e_56 => ?_)
                exact ret x_55 v_52 w sg _ _ _ _ dX10_correct_158 h ⟨⟨u_53, u_54⟩, rfl, rfl⟩
              · have j_33 : (v 106 10).toInt = 10 := (i_eq rfl (by decide)).mp c_32
                refine lv_bipush (v := (-3)) hx hb dX10_correct_88 (by decide) ?_
                exact ret (-3) v w sg _ _ _ _ dX10_correct_90 h ⟨⟨mi, fM_rf⟩, rfl, rfl⟩
            · skip
              refine lv_if_ne (tgt := 79) hx hb dX10_correct_74 (by decide) (fun c_57 => absurd (by decide) c_57) (fun _ => ?_)
              refine lv_iconst (v := (-1)) hx hb dX10_correct_77 (by decide) ?_
              exact ret (-1) v w sg _ _ _ _ dX10_correct_78 h ⟨⟨mi, fM_rf⟩, rfl, rfl⟩
          · skip
            refine lv_if_eq (tgt := 77) hx hb dX10_correct_59 (by decide) (fun _ => ?_) (fun c_58 => absurd (by decide) c_58)
            refine lv_iconst (v := (-1)) hx hb dX10_correct_77 (by decide) ?_
            exact ret (-1) v w sg _ _ _ _ dX10_correct_78 h ⟨⟨mi, fM_rf⟩, rfl, rfl⟩
        · skip
          refine lv_if_eq (tgt := 77) hx hb dX10_correct_45 (by decide) (fun _ => ?_) (fun c_59 => absurd (by decide) c_59)
          refine lv_iconst (v := (-1)) hx hb dX10_correct_77 (by decide) ?_
          exact ret (-1) v w sg _ _ _ _ dX10_correct_78 h ⟨⟨mi, fM_rf⟩, rfl, rfl⟩
      refine lv_icmp_ne (tgt := 39) hx hb dX10_correct_30 (by decide) (fun c_60 => ?_) (fun c_60 => ?_)
      · have j_61 : ¬ (A1 = 3) := fun q => c_60 ((i_eq a1 (by decide)).mpr q)
        refine lv_ldc2 hx hb hown k189 dX10_correct_39 ?_
        exact J42_10 10000 _ _ _  h (lv_sub hl [0, 1, 2, 3, 4] rfl)
      · have j_61 : A1 = 3 := (i_eq a1 (by decide)).mp c_60
        refine lv_ldc2 hx hb hown k187 dX10_correct_33 ?_
        refine lv_goto (tgt := 42) hx hb dX10_correct_36 (by decide) ?_
        exact J42_10 300 _ _ _  h (lv_sub hl [0, 1, 2, 3, 4] rfl)
    refine lv_icmp_ne (tgt := 25) hx hb dX10_correct_16 (by decide) (fun c_62 => ?_) (fun c_62 => ?_)
    · have j_63 : ¬ (A1 = 3) := fun q => c_62 ((i_eq a1 (by decide)).mpr q)
      refine lv_ldc2 hx hb hown k185 dX10_correct_25 ?_
      exact J28_9 (-10000) _ _ _  h (lv_sub hl [0, 1, 2, 3, 4] rfl)
    · have j_63 : A1 = 3 := (i_eq a1 (by decide)).mp c_62
      refine lv_ldc2 hx hb hown k183 dX10_correct_19 ?_
      refine lv_goto (tgt := 28) hx hb dX10_correct_22 (by decide) ?_
      exact J28_9 (-300) _ _ _  h (lv_sub hl [0, 1, 2, 3, 4] rfl)
  · skip
    refine lv_if_eq (tgt := 77) hx hb dX10_correct_9 (by decide) (fun _ => ?_) (fun c_64 => absurd (by decide) c_64)
    refine lv_iconst (v := (-1)) hx hb dX10_correct_77 (by decide) ?_
    exact ret (-1) v w sg _ _ _ _ dX10_correct_78 h ⟨⟨mi, fM_rf⟩, rfl, rfl⟩

set_option maxHeartbeats 4000000 in
set_option maxRecDepth 100000 in
theorem c_X10_turn (l : Launch) (G : gG) (v : Nat → Nat → Int32) (w : Nat → Nat → Int64) (sg : Nat → Nat) (p1 : Int32) {A1 : Int} (a1 : p1.toInt = A1) (p2 : Int32) {A2 : Int} (a2 : p2.toInt = A2) (mi : mI v) : Met l yX10_turn wsX10_turn ({ frames := 2, cells := 0, slots := 0, locals := 46 }) (gPre G v w sg [.ref (G.2.2 (106)), .int (p1), .int (p2)]) (gQi G (fun r v' w' sg' => (mI v' ∧ fM 114 123 10 19 v w v' w) ∧ w = w' ∧ sg = sg')) 0 0 (gA G) := by
  refine gM_ofi (cc := cX10_turn) (maxL := 4) (by decide) rfl (Nat.le_of_ble_eq_true rfl) ?_
  intro p e R s m args below meth c Q ls C hR ret h hl
  have hx := C.1.1
  have hb := C.1.2.1
  have hown := C.1.2.2.2.1
  have hts := C.1.2.2.2.2
  have hl : lv_has ls 4 [(0, .ref (G.2.2 (106))), (1, .int (p1)), (2, .int (p2))] := hl
  have q1 := i_rng p1; rw [a1] at q1
  have q2 := i_rng p2; rw [a2] at q2
  have z_m1 : ((-1) : Int32).toInt = (-1) := by decide
  have z_0 : (0 : Int32).toInt = 0 := by decide
  have z_1 : (1 : Int32).toInt = 1 := by decide
  have f44 : Cond.fieldLink RX10 44 "WindHallModel" "cOn" "[Z" ∈ wsX10_turn := by decide +kernel
  have hi10 : ∀ x ∈ u_ws RX10 TX10 42, x ∈ wsX10_turn := fun x q => List.mem_cons_of_mem _ (List.mem_append_right _ q)
  have o_1 := mi
  obtain ⟨I7, I10, I18, I22, I27, I29, I32, Is, I35, Ia, Iar, Isz, Ian⟩ := o_1
  refine lv_aload_n hx hb dX10_turn_0 rfl (lv_at hl 0 rfl) ?_
  refine lv_iload_n hx hb dX10_turn_1 rfl (lv_at hl 1 rfl) ?_
  refine g_calli C (va_runV (As := [.int (p1)]) (rest := []) C.1 (c_X10_isCorrection l G v w sg p1 (A1 := A1) a1 mi) (cwV 1 hts gX10_turn_X10_isCorrection rfl rfl rfl (by decide +kernel) ⟨by rw [hR]; exact Nat.le_of_ble_eq_true rfl, by rw [hR]; exact Nat.le_of_ble_eq_true rfl⟩) ⟨gPre_blind, g_recv C h 106 (by decide) (ci := 10) rfl rfl, gS_pre C h _⟩ rfl rfl hl.1 rfl (lv_room (Nat.le_of_ble_eq_true rfl)) dX10_turn_2 ⟨Nat.zero_le _, Nat.zero_le _⟩) h (fun r_2 v_4 w_5 g_6 H locs p_3 h => ?_)
  obtain ⟨p_3, rfl, rfl, rfl⟩ := p_3
  rcases p_3 with ⟨rfl, t_7⟩ | ⟨rfl, t_7⟩
  · skip
    refine lv_if_ne (tgt := 10) hx hb dX10_turn_5 (by decide) (fun _ => ?_) (fun c_8 => absurd c_8 (by decide))
    refine lv_aload_n hx hb dX10_turn_10 rfl (lv_at hl 0 rfl) ?_
    refine g_get (ci := 10) (x := .ref (G.2.2 (118))) C h 106 (by decide) rfl rfl hi10 15 (by decide) f44 rfl rfl dX10_turn_11 ?_
    refine lv_iload_n hx hb dX10_turn_14 rfl (lv_at hl 1 rfl) ?_
    refine g_zald C h 118 (by decide) (by decide) (n := 10) (by decide) (vp_of a1 (by omega) (by omega)) dX10_turn_15 ?_
    refine lv_topi (fun x_9 e_10 => ?_)
    have J24_11 : ∀ (y_11 : Int32) (H : Heap) (locs : List Loc) (ls : Array Slot), gS (gA G) G s v w sg H locs → lv_has ls 4 [(0, .ref (G.2.2 (106))), (1, .int (p1)), (2, .int (p2))] → W p l e R s m args below meth c H locs 0 0 Q (F0 m 24 ls [.int (y_11)]) := by
      intro y_11 H locs ls  h hl
      refine lv_istore_n (lv' := [(3, .int (y_11)), (0, .ref (G.2.2 (106))), (1, .int (p1)), (2, .int (p2))]) hx hb dX10_turn_24 rfl hl (by decide) rfl (fun ls hl => ?_)
      refine lv_aload_n hx hb dX10_turn_25 rfl (lv_at hl 1 rfl) ?_
      refine g_get (ci := 10) (x := .ref (G.2.2 (118))) C h 106 (by decide) rfl rfl hi10 15 (by decide) f44 rfl rfl dX10_turn_26 ?_
      refine lv_iload_n hx hb dX10_turn_29 rfl (lv_at hl 2 rfl) ?_
      refine lv_iload_n hx hb dX10_turn_30 rfl (lv_at hl 3 rfl) ?_
      refine g_zast C h 118 (by decide) (by decide) (n := 10) (by decide) (vp_of a1 (by omega) (by omega)) dX10_turn_31 (fun H locs h => ?_)
      obtain ⟨v_12, hv_12⟩ : ∃ z, z = gu v 118 ((p1 : Int32).toNatClampNeg) (vp_nar .boolean p2) := ⟨_, rfl⟩
      have h : gS (gA G) G s v_12 w sg H locs := by rw [hv_12]; exact h
      have u_13 : mI v_12 := by rw [hv_12]; exact mi
      have u_14 : fM 114 123 10 19 v w v_12 w := by rw [hv_12]; exact (fM_v fM_rf (by decide))
      refine lv_iload_n hx hb dX10_turn_32 rfl (lv_at hl 0 rfl) ?_
      exact ret y_11 v_12 w sg _ _ _ _ dX10_turn_33 h ⟨⟨u_13, u_14⟩, rfl, rfl⟩
    refine lv_if_eq (tgt := 23) hx hb dX10_turn_16 (by decide) (fun c_15 => ?_) (fun c_15 => ?_)
    · have j_16 : (x_9).toInt = 0 := (i_eq rfl (by decide)).mp c_15
      refine lv_iconst (v := 0) hx hb dX10_turn_23 (by decide) ?_
      exact J24_11 0 _ _ _  h (lv_sub hl [0, 1, 2] rfl)
    · have j_16 : ¬ ((x_9).toInt = 0) := fun q => c_15 ((i_eq rfl (by decide)).mpr q)
      refine lv_iconst (v := 1) hx hb dX10_turn_19 (by decide) ?_
      refine lv_goto (tgt := 24) hx hb dX10_turn_20 (by decide) ?_
      exact J24_11 1 _ _ _  h (lv_sub hl [0, 1, 2] rfl)
  · skip
    refine lv_if_ne (tgt := 10) hx hb dX10_turn_5 (by decide) (fun c_17 => absurd (by decide) c_17) (fun _ => ?_)
    refine lv_iconst (v := (-1)) hx hb dX10_turn_8 (by decide) ?_
    exact ret (-1) v w sg _ _ _ _ dX10_turn_9 h ⟨⟨mi, fM_rf⟩, rfl, rfl⟩
