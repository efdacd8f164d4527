set_option maxHeartbeats 4000000 in
set_option maxRecDepth 100000 in
theorem c_X10_swap (l : Launch) (G : gG) (v : Nat → Nat → Int32) (w : Nat → Nat → Int64) (sg : Nat → Nat) (p1 : Int32) {A1 : Int} (a1 : p1.toInt = A1) (mi : mI v) : Met l yX10_swap wsX10_swap ({ frames := 2, cells := 0, slots := 0, locals := 46 }) (gPre G v w sg [.ref (G.2.2 (106)), .int (p1)]) (gQi G (fun r v' w' sg' => (mI v' ∧ fM 114 123 10 19 v w v' w) ∧ w = w' ∧ sg = sg')) 0 0 (gA G) := by
  refine gM_ofi (cc := cX10_swap) (maxL := 7) (by decide) rfl (Nat.le_of_ble_eq_true rfl) ?_
  intro p e R s m args below meth c Q ls C hR ret h hl
  have hx := C.1.1
  have hb := C.1.2.1
  have hown := C.1.2.2.2.1
  have hts := C.1.2.2.2.2
  have hl : lv_has ls 7 [(0, .ref (G.2.2 (106))), (1, .int (p1))] := hl
  have q1 := i_rng p1; rw [a1] at q1
  have z_m1 : ((-1) : Int32).toInt = (-1) := by decide
  have z_0 : (0 : Int32).toInt = 0 := by decide
  have z_1 : (1 : Int32).toInt = 1 := by decide
  have f32 : Cond.fieldLink RX10 32 "WindHallModel" "cKind" "[I" ∈ wsX10_swap := by decide +kernel
  have hi10 : ∀ x ∈ u_ws RX10 TX10 42, x ∈ wsX10_swap := fun x q => List.mem_cons_of_mem _ (List.mem_append_right _ q)
  have f35 : Cond.fieldLink RX10 35 "WindHallModel" "cU" "[I" ∈ wsX10_swap := by decide +kernel
  have f38 : Cond.fieldLink RX10 38 "WindHallModel" "cV" "[I" ∈ wsX10_swap := by decide +kernel
  have f41 : Cond.fieldLink RX10 41 "WindHallModel" "cW" "[I" ∈ wsX10_swap := by decide +kernel
  have f44 : Cond.fieldLink RX10 44 "WindHallModel" "cOn" "[Z" ∈ wsX10_swap := by decide +kernel
  have o_1 := mi
  obtain ⟨I7, I10, I18, I22, I27, I29, I32, Is, I35, Ia, Iar, Isz, Ian⟩ := o_1
  refine lv_aload_n hx hb dX10_swap_0 rfl (lv_at hl 0 rfl) ?_
  refine lv_iload_n hx hb dX10_swap_1 rfl (lv_at hl 1 rfl) ?_
  refine g_calli C (va_runV (As := [.int (p1)]) (rest := []) C.1 (c_X10_isCorrection l G v w sg p1 (A1 := A1) a1 mi) (cwV 1 hts gX10_swap_X10_isCorrection rfl rfl rfl (by decide +kernel) ⟨by rw [hR]; exact Nat.le_of_ble_eq_true rfl, by rw [hR]; exact Nat.le_of_ble_eq_true rfl⟩) ⟨gPre_blind, g_recv C h 106 (by decide) (ci := 10) rfl rfl, gS_pre C h _⟩ rfl rfl hl.1 rfl (lv_room (Nat.le_of_ble_eq_true rfl)) dX10_swap_2 ⟨Nat.zero_le _, Nat.zero_le _⟩) h (fun r_2 v_4 w_5 g_6 H locs p_3 h => ?_)
  obtain ⟨p_3, rfl, rfl, rfl⟩ := p_3
  rcases p_3 with ⟨rfl, t_7⟩ | ⟨rfl, t_7⟩
  · skip
    refine lv_if_eq (tgt := 18) hx hb dX10_swap_5 (by decide) (fun c_8 => absurd c_8 (by decide)) (fun _ => ?_)
    refine lv_aload_n hx hb dX10_swap_8 rfl (lv_at hl 0 rfl) ?_
    refine lv_iload_n hx hb dX10_swap_9 rfl (lv_at hl 1 rfl) ?_
    refine lv_iconst (v := 1) hx hb dX10_swap_10 (by decide) ?_
    refine lv_iadd hx hb dX10_swap_11 ?_
    refine lv_topi (fun x_9 e_10 => ?_)
    have i_11 : x_9.toInt = A1 + 1 := ia_add e_10 a1 (by decide) (by omega) (by omega)
    refine g_calli C (va_runV (As := [.int (x_9)]) (rest := []) C.1 (c_X10_isCorrection l G v w sg x_9 (A1 := (A1 + 1)) i_11 mi) (cwV 1 hts gX10_swap_X10_isCorrection rfl rfl rfl (by decide +kernel) ⟨by rw [hR]; exact Nat.le_of_ble_eq_true rfl, by rw [hR]; exact Nat.le_of_ble_eq_true rfl⟩) ⟨gPre_blind, g_recv C h 106 (by decide) (ci := 10) rfl rfl, gS_pre C h _⟩ rfl rfl hl.1 rfl (lv_room (Nat.le_of_ble_eq_true rfl)) dX10_swap_12 ⟨Nat.zero_le _, Nat.zero_le _⟩) h (fun r_12 v_14 w_15 g_16 H locs p_13 h => ?_)
    obtain ⟨p_13, rfl, rfl, rfl⟩ := p_13
    rcases p_13 with ⟨rfl, t_17⟩ | ⟨rfl, t_17⟩
    · skip
      refine lv_if_ne (tgt := 20) hx hb dX10_swap_15 (by decide) (fun _ => ?_) (fun c_18 => absurd c_18 (by decide))
      refine lv_aload_n hx hb dX10_swap_20 rfl (lv_at hl 0 rfl) ?_
      refine g_get (ci := 10) (x := .ref (G.2.2 (114))) C h 106 (by decide) rfl rfl hi10 11 (by decide) f32 rfl rfl dX10_swap_21 ?_
      refine lv_iload_n hx hb dX10_swap_24 rfl (lv_at hl 1 rfl) ?_
      refine g_iald C h 114 (by decide) (by decide) (n := 10) (by decide) (vp_of a1 (by omega) (by omega)) dX10_swap_25 ?_
      refine lv_topi (fun x_19 e_20 => ?_)
      refine lv_istore_n (lv' := [(2, .int (x_19)), (0, .ref (G.2.2 (106))), (1, .int (p1))]) hx hb dX10_swap_26 rfl hl (by decide) rfl (fun ls hl => ?_)
      refine lv_aload_n hx hb dX10_swap_27 rfl (lv_at hl 1 rfl) ?_
      refine g_get (ci := 10) (x := .ref (G.2.2 (115))) C h 106 (by decide) rfl rfl hi10 12 (by decide) f35 rfl rfl dX10_swap_28 ?_
      refine lv_iload_n hx hb dX10_swap_31 rfl (lv_at hl 2 rfl) ?_
      refine g_iald C h 115 (by decide) (by decide) (n := 10) (by decide) (vp_of a1 (by omega) (by omega)) dX10_swap_32 ?_
      refine lv_topi (fun x_21 e_22 => ?_)
      refine lv_istore_n (lv' := [(3, .int (x_21)), (2, .int (x_19)), (0, .ref (G.2.2 (106))), (1, .int (p1))]) hx hb dX10_swap_33 rfl hl (by decide) rfl (fun ls hl => ?_)
      refine lv_aload_n hx hb dX10_swap_34 rfl (lv_at hl 2 rfl) ?_
      refine g_get (ci := 10) (x := .ref (G.2.2 (116))) C h 106 (by decide) rfl rfl hi10 13 (by decide) f38 rfl rfl dX10_swap_35 ?_
      refine lv_iload_n hx hb dX10_swap_38 rfl (lv_at hl 3 rfl) ?_
      refine g_iald C h 116 (by decide) (by decide) (n := 10) (by decide) (vp_of a1 (by omega) (by omega)) dX10_swap_39 ?_
      refine lv_topi (fun x_23 e_24 => ?_)
      refine lv_istore (lv' := [(4, .int (x_23)), (3, .int (x_21)), (2, .int (x_19)), (0, .ref (G.2.2 (106))), (1, .int (p1))]) hx hb dX10_swap_40 hl (by decide) rfl (fun ls hl => ?_)
      refine lv_aload_n hx hb dX10_swap_42 rfl (lv_at hl 3 rfl) ?_
      refine g_get (ci := 10) (x := .ref (G.2.2 (117))) C h 106 (by decide) rfl rfl hi10 14 (by decide) f41 rfl rfl dX10_swap_43 ?_
      refine lv_iload_n hx hb dX10_swap_46 rfl (lv_at hl 4 rfl) ?_
      refine g_iald C h 117 (by decide) (by decide) (n := 10) (by decide) (vp_of a1 (by omega) (by omega)) dX10_swap_47 ?_
      refine lv_topi (fun x_25 e_26 => ?_)
      refine lv_istore (lv' := [(5, .int (x_25)), (4, .int (x_23)), (3, .int (x_21)), (2, .int (x_19)), (0, .ref (G.2.2 (106))), (1, .int (p1))]) hx hb dX10_swap_48 hl (by decide) rfl (fun ls hl => ?_)
      refine lv_aload_n hx hb dX10_swap_50 rfl (lv_at hl 4 rfl) ?_
      refine g_get (ci := 10) (x := .ref (G.2.2 (118))) C h 106 (by decide) rfl rfl hi10 15 (by decide) f44 rfl rfl dX10_swap_51 ?_
      refine lv_iload_n hx hb dX10_swap_54 rfl (lv_at hl 5 rfl) ?_
      refine g_zald C h 118 (by decide) (by decide) (n := 10) (by decide) (vp_of a1 (by omega) (by omega)) dX10_swap_55 ?_
      refine lv_topi (fun x_27 e_28 => ?_)
      refine lv_istore (lv' := [(6, .int (x_27)), (5, .int (x_25)), (4, .int (x_23)), (3, .int (x_21)), (2, .int (x_19)), (0, .ref (G.2.2 (106))), (1, .int (p1))]) hx hb dX10_swap_56 hl (by decide) rfl (fun ls hl => ?_)
      refine lv_aload_n hx hb dX10_swap_58 rfl (lv_at hl 5 rfl) ?_
      refine g_get (ci := 10) (x := .ref (G.2.2 (114))) C h 106 (by decide) rfl rfl hi10 11 (by decide) f32 rfl rfl dX10_swap_59 ?_
      refine lv_iload_n hx hb dX10_swap_62 rfl (lv_at hl 6 rfl) ?_
      refine lv_aload_n hx hb dX10_swap_63 rfl (lv_at hl 5 rfl) ?_
      refine g_get (ci := 10) (x := .ref (G.2.2 (114))) C h 106 (by decide) rfl rfl hi10 11 (by decide) f32 rfl rfl dX10_swap_64 ?_
      refine lv_iload_n hx hb dX10_swap_67 rfl (lv_at hl 6 rfl) ?_
      refine lv_iconst (v := 1) hx hb dX10_swap_68 (by decide) ?_
      refine lv_iadd hx hb dX10_swap_69 ?_
      refine lv_topi (fun x_29 e_30 => ?_)
      have i_31 : x_29.toInt = A1 + 1 := ia_add e_30 a1 (by decide) (by omega) (by omega)
      refine g_iald C h 114 (by decide) (by decide) (n := 10) (by decide) (vp_of i_31 (by omega) (by omega)) dX10_swap_70 ?_
      refine lv_topi (fun x_32 e_33 => ?_)
      refine g_iast C h 114 (by decide) (by decide) (n := 10) (by decide) (vp_of a1 (by omega) (by omega)) dX10_swap_71 (fun H locs h => ?_)
      obtain ⟨v_34, hv_34⟩ : ∃ z, z = gu v 114 ((p1 : Int32).toNatClampNeg) x_32 := ⟨_, rfl⟩
      have h : gS (gA G) G s v_34 w sg H locs := by rw [hv_34]; exact h
      have u_35 : mI v_34 := by rw [hv_34]; exact mi
      have u_36 : fM 114 123 10 19 v w v_34 w := by rw [hv_34]; exact (fM_v fM_rf (by decide))
      refine lv_aload_n hx hb dX10_swap_72 rfl (lv_at hl 5 rfl) ?_
      refine g_get (ci := 10) (x := .ref (G.2.2 (115))) C h 106 (by decide) rfl rfl hi10 12 (by decide) f35 rfl rfl dX10_swap_73 ?_
      refine lv_iload_n hx hb dX10_swap_76 rfl (lv_at hl 6 rfl) ?_
      refine lv_aload_n hx hb dX10_swap_77 rfl (lv_at hl 5 rfl) ?_
      refine g_get (ci := 10) (x := .ref (G.2.2 (115))) C h 106 (by decide) rfl rfl hi10 12 (by decide) f35 rfl rfl dX10_swap_78 ?_
      refine lv_iload_n hx hb dX10_swap_81 rfl (lv_at hl 6 rfl) ?_
      refine lv_iconst (v := 1) hx hb dX10_swap_82 (by decide) ?_
      refine lv_iadd hx hb dX10_swap_83 ?_
      refine lv_topi (fun x_37 e_38 => ?_)
      have i_39 : x_37.toInt = A1 + 1 := ia_add e_38 a1 (by decide) (by omega) (by omega)
      refine g_iald C h 115 (by decide) (by decide) (n := 10) (by decide) (vp_of i_39 (by omega) (by omega)) dX10_swap_84 ?_
      refine lv_topi (fun x_40 e_41 => ?_)
      refine g_iast C h 115 (by decide) (by decide) (n := 10) (by decide) (vp_of a1 (by omega) (by omega)) dX10_swap_85 (fun H locs h => ?_)
      obtain ⟨v_42, hv_42⟩ : ∃ z, z = gu v_34 115 ((p1 : Int32).toNatClampNeg) x_40 := ⟨_, rfl⟩
      have h : gS (gA G) G s v_42 w sg H locs := by rw [hv_42]; exact h
      have u_43 : mI v_42 := by rw [hv_42]; exact u_35
      have u_44 : fM 114 123 10 19 v w v_42 w := by rw [hv_42]; exact (fM_v u_36 (by decide))
      refine lv_aload_n hx hb dX10_swap_86 rfl (lv_at hl 5 rfl) ?_
      refine g_get (ci := 10) (x := .ref (G.2.2 (116))) C h 106 (by decide) rfl rfl hi10 13 (by decide) f38 rfl rfl dX10_swap_87 ?_
      refine lv_iload_n hx hb dX10_swap_90 rfl (lv_at hl 6 rfl) ?_
      refine lv_aload_n hx hb dX10_swap_91 rfl (lv_at hl 5 rfl) ?_
      refine g_get (ci := 10) (x := .ref (G.2.2 (116))) C h 106 (by decide) rfl rfl hi10 13 (by decide) f38 rfl rfl dX10_swap_92 ?_
      refine lv_iload_n hx hb dX10_swap_95 rfl (lv_at hl 6 rfl) ?_
      refine lv_iconst (v := 1) hx hb dX10_swap_96 (by decide) ?_
      refine lv_iadd hx hb dX10_swap_97 ?_
      refine lv_topi (fun x_45 e_46 => ?_)
      have i_47 : x_45.toInt = A1 + 1 := ia_add e_46 a1 (by decide) (by omega) (by omega)
      refine g_iald C h 116 (by decide) (by decide) (n := 10) (by decide) (vp_of i_47 (by omega) (by omega)) dX10_swap_98 ?_
      refine lv_topi (fun x_48 e_49 => ?_)
      refine g_iast C h 116 (by decide) (by decide) (n := 10) (by decide) (vp_of a1 (by omega) (by omega)) dX10_swap_99 (fun H locs h => ?_)
      obtain ⟨v_50, hv_50⟩ : ∃ z, z = gu v_42 116 ((p1 : Int32).toNatClampNeg) x_48 := ⟨_, rfl⟩
      have h : gS (gA G) G s v_50 w sg H locs := by rw [hv_50]; exact h
      have u_51 : mI v_50 := by rw [hv_50]; exact u_43
      have u_52 : fM 114 123 10 19 v w v_50 w := by rw [hv_50]; exact (fM_v u_44 (by decide))
      refine lv_aload_n hx hb dX10_swap_100 rfl (lv_at hl 5 rfl) ?_
      refine g_get (ci := 10) (x := .ref (G.2.2 (117))) C h 106 (by decide) rfl rfl hi10 14 (by decide) f41 rfl rfl dX10_swap_101 ?_
      refine lv_iload_n hx hb dX10_swap_104 rfl (lv_at hl 6 rfl) ?_
      refine lv_aload_n hx hb dX10_swap_105 rfl (lv_at hl 5 rfl) ?_
      refine g_get (ci := 10) (x := .ref (G.2.2 (117))) C h 106 (by decide) rfl rfl hi10 14 (by decide) f41 rfl rfl dX10_swap_106 ?_
      refine lv_iload_n hx hb dX10_swap_109 rfl (lv_at hl 6 rfl) ?_
      refine lv_iconst (v := 1) hx hb dX10_swap_110 (by decide) ?_
      refine lv_iadd hx hb dX10_swap_111 ?_
      refine lv_topi (fun x_53 e_54 => ?_)
      have i_55 : x_53.toInt = A1 + 1 := ia_add e_54 a1 (by decide) (by omega) (by omega)
      refine g_iald C h 117 (by decide) (by decide) (n := 10) (by decide) (vp_of i_55 (by omega) (by omega)) dX10_swap_112 ?_
      refine lv_topi (fun x_56 e_57 => ?_)
      refine g_iast C h 117 (by decide) (by decide) (n := 10) (by decide) (vp_of a1 (by omega) (by omega)) dX10_swap_113 (fun H locs h => ?_)
      obtain ⟨v_58, hv_58⟩ : ∃ z, z = gu v_50 117 ((p1 : Int32).toNatClampNeg) x_56 := ⟨_, rfl⟩
      have h : gS (gA G) G s v_58 w sg H locs := by rw [hv_58]; exact h
      have u_59 : mI v_58 := by rw [hv_58]; exact u_51
      have u_60 : fM 114 123 10 19 v w v_58 w := by rw [hv_58]; exact (fM_v u_52 (by decide))
      refine lv_aload_n hx hb dX10_swap_114 rfl (lv_at hl 5 rfl) ?_
      refine g_get (ci := 10) (x := .ref (G.2.2 (118))) C h 106 (by decide) rfl rfl hi10 15 (by decide) f44 rfl rfl dX10_swap_115 ?_
      refine lv_iload_n hx hb dX10_swap_118 rfl (lv_at hl 6 rfl) ?_
      refine lv_aload_n hx hb dX10_swap_119 rfl (lv_at hl 5 rfl) ?_
      refine g_get (ci := 10) (x := .ref (G.2.2 (118))) C h 106 (by decide) rfl rfl hi10 15 (by decide) f44 rfl rfl dX10_swap_120 ?_
      refine lv_iload_n hx hb dX10_swap_123 rfl (lv_at hl 6 rfl) ?_
      refine lv_iconst (v := 1) hx hb dX10_swap_124 (by decide) ?_
      refine lv_iadd hx hb dX10_swap_125 ?_
      refine lv_topi (fun x_61 e_62 => ?_)
      have i_63 : x_61.toInt = A1 + 1 := ia_add e_62 a1 (by decide) (by omega) (by omega)
      refine g_zald C h 118 (by decide) (by decide) (n := 10) (by decide) (vp_of i_63 (by omega) (by omega)) dX10_swap_126 ?_
      refine lv_topi (fun x_64 e_65 => ?_)
      refine g_zast C h 118 (by decide) (by decide) (n := 10) (by decide) (vp_of a1 (by omega) (by omega)) dX10_swap_127 (fun H locs h => ?_)
      obtain ⟨v_66, hv_66⟩ : ∃ z, z = gu v_58 118 ((p1 : Int32).toNatClampNeg) (vp_nar .boolean x_64) := ⟨_, rfl⟩
      have h : gS (gA G) G s v_66 w sg H locs := by rw [hv_66]; exact h
      have u_67 : mI v_66 := by rw [hv_66]; exact u_59
      have u_68 : fM 114 123 10 19 v w v_66 w := by rw [hv_66]; exact (fM_v u_60 (by decide))
      refine lv_aload_n hx hb dX10_swap_128 rfl (lv_at hl 5 rfl) ?_
      refine g_get (ci := 10) (x := .ref (G.2.2 (114))) C h 106 (by decide) rfl rfl hi10 11 (by decide) f32 rfl rfl dX10_swap_129 ?_
      refine lv_iload_n hx hb dX10_swap_132 rfl (lv_at hl 6 rfl) ?_
      refine lv_iconst (v := 1) hx hb dX10_swap_133 (by decide) ?_
      refine lv_iadd hx hb dX10_swap_134 ?_
      refine lv_topi (fun x_69 e_70 => ?_)
      have i_71 : x_69.toInt = A1 + 1 := ia_add e_70 a1 (by decide) (by omega) (by omega)
      refine lv_iload_n hx hb dX10_swap_135 rfl (lv_at hl 4 rfl) ?_
      refine g_iast C h 114 (by decide) (by decide) (n := 10) (by decide) (vp_of i_71 (by omega) (by omega)) dX10_swap_136 (fun H locs h => ?_)
      obtain ⟨v_72, hv_72⟩ : ∃ z, z = gu v_66 114 ((x_69 : Int32).toNatClampNeg) x_19 := ⟨_, rfl⟩
      have h : gS (gA G) G s v_72 w sg H locs := by rw [hv_72]; exact h
      have u_73 : mI v_72 := by rw [hv_72]; exact u_67
      have u_74 : fM 114 123 10 19 v w v_72 w := by rw [hv_72]; exact (fM_v u_68 (by decide))
      refine lv_aload_n hx hb dX10_swap_137 rfl (lv_at hl 5 rfl) ?_
      refine g_get (ci := 10) (x := .ref (G.2.2 (115))) C h 106 (by decide) rfl rfl hi10 12 (by decide) f35 rfl rfl dX10_swap_138 ?_
      refine lv_iload_n hx hb dX10_swap_141 rfl (lv_at hl 6 rfl) ?_
      refine lv_iconst (v := 1) hx hb dX10_swap_142 (by decide) ?_
      refine lv_iadd hx hb dX10_swap_143 ?_
      refine lv_topi (fun x_75 e_76 => ?_)
      have i_77 : x_75.toInt = A1 + 1 := ia_add e_76 a1 (by decide) (by omega) (by omega)
      refine lv_iload_n hx hb dX10_swap_144 rfl (lv_at hl 3 rfl) ?_
      refine g_iast C h 115 (by decide) (by decide) (n := 10) (by decide) (vp_of i_77 (by omega) (by omega)) dX10_swap_145 (fun H locs h => ?_)
      obtain ⟨v_78, hv_78⟩ : ∃ z, z = gu v_72 115 ((x_75 : Int32).toNatClampNeg) x_21 := ⟨_, rfl⟩
      have h : gS (gA G) G s v_78 w sg H locs := by rw [hv_78]; exact h
      have u_79 : mI v_78 := by rw [hv_78]; exact u_73
      have u_80 : fM 114 123 10 19 v w v_78 w := by rw [hv_78]; exact (fM_v u_74 (by decide))
      refine lv_aload_n hx hb dX10_swap_146 rfl (lv_at hl 5 rfl) ?_
      refine g_get (ci := 10) (x := .ref (G.2.2 (116))) C h 106 (by decide) rfl rfl hi10 13 (by decide) f38 rfl rfl dX10_swap_147 ?_
      refine lv_iload_n hx hb dX10_swap_150 rfl (lv_at hl 6 rfl) ?_
      refine lv_iconst (v := 1) hx hb dX10_swap_151 (by decide) ?_
      refine lv_iadd hx hb dX10_swap_152 ?_
      refine lv_topi (fun x_81 e_82 => ?_)
      have i_83 : x_81.toInt = A1 + 1 := ia_add e_82 a1 (by decide) (by omega) (by omega)
      refine lv_iload hx hb dX10_swap_153 (lv_at hl 2 rfl) ?_
      refine g_iast C h 116 (by decide) (by decide) (n := 10) (by decide) (vp_of i_83 (by omega) (by omega)) dX10_swap_155 (fun H locs h => ?_)
      obtain ⟨v_84, hv_84⟩ : ∃ z, z = gu v_78 116 ((x_81 : Int32).toNatClampNeg) x_23 := ⟨_, rfl⟩
      have h : gS (gA G) G s v_84 w sg H locs := by rw [hv_84]; exact h
      have u_85 : mI v_84 := by rw [hv_84]; exact u_79
      have u_86 : fM 114 123 10 19 v w v_84 w := by rw [hv_84]; exact (fM_v u_80 (by decide))
      refine lv_aload_n hx hb dX10_swap_156 rfl (lv_at hl 5 rfl) ?_
      refine g_get (ci := 10) (x := .ref (G.2.2 (117))) C h 106 (by decide) rfl rfl hi10 14 (by decide) f41 rfl rfl dX10_swap_157 ?_
      refine lv_iload_n hx hb dX10_swap_160 rfl (lv_at hl 6 rfl) ?_
      refine lv_iconst (v := 1) hx hb dX10_swap_161 (by decide) ?_
      refine lv_iadd hx hb dX10_swap_162 ?_
      refine lv_topi (fun x_87 e_88 => ?_)
      have i_89 : x_87.toInt = A1 + 1 := ia_add e_88 a1 (by decide) (by omega) (by omega)
      refine lv_iload hx hb dX10_swap_163 (lv_at hl 1 rfl) ?_
      refine g_iast C h 117 (by decide) (by decide) (n := 10) (by decide) (vp_of i_89 (by omega) (by omega)) dX10_swap_165 (fun H locs h => ?_)
      obtain ⟨v_90, hv_90⟩ : ∃ z, z = gu v_84 117 ((x_87 : Int32).toNatClampNeg) x_25 := ⟨_, rfl⟩
      have h : gS (gA G) G s v_90 w sg H locs := by rw [hv_90]; exact h
      have u_91 : mI v_90 := by rw [hv_90]; exact u_85
      have u_92 : fM 114 123 10 19 v w v_90 w := by rw [hv_90]; exact (fM_v u_86 (by decide))
      refine lv_aload_n hx hb dX10_swap_166 rfl (lv_at hl 5 rfl) ?_
      refine g_get (ci := 10) (x := .ref (G.2.2 (118))) C h 106 (by decide) rfl rfl hi10 15 (by decide) f44 rfl rfl dX10_swap_167 ?_
      refine lv_iload_n hx hb dX10_swap_170 rfl (lv_at hl 6 rfl) ?_
      refine lv_iconst (v := 1) hx hb dX10_swap_171 (by decide) ?_
      refine lv_iadd hx hb dX10_swap_172 ?_
      refine lv_topi (fun x_93 e_94 => ?_)
      have i_95 : x_93.toInt = A1 + 1 := ia_add e_94 a1 (by decide) (by omega) (by omega)
      refine lv_iload hx hb dX10_swap_173 (lv_at hl 0 rfl) ?_
      refine g_zast C h 118 (by decide) (by decide) (n := 10) (by decide) (vp_of i_95 (by omega) (by omega)) dX10_swap_175 (fun H locs h => ?_)
      obtain ⟨v_96, hv_96⟩ : ∃ z, z = gu v_90 118 ((x_93 : Int32).toNatClampNeg) (vp_nar .boolean x_27) := ⟨_, rfl⟩
      have h : gS (gA G) G s v_96 w sg H locs := by rw [hv_96]; exact h
      have u_97 : mI v_96 := by rw [hv_96]; exact u_91
      have u_98 : fM 114 123 10 19 v w v_96 w := by rw [hv_96]; exact (fM_v u_92 (by decide))
      refine lv_iconst (v := 1) hx hb dX10_swap_176 (by decide) ?_
      exact ret 1 v_96 w sg _ _ _ _ dX10_swap_177 h ⟨⟨u_97, u_98⟩, rfl, rfl⟩
    · skip
      refine lv_if_ne (tgt := 20) hx hb dX10_swap_15 (by decide) (fun c_99 => absurd (by decide) c_99) (fun _ => ?_)
      refine lv_iconst (v := (-1)) hx hb dX10_swap_18 (by decide) ?_
      exact ret (-1) v w sg _ _ _ _ dX10_swap_19 h ⟨⟨mi, fM_rf⟩, rfl, rfl⟩
  · skip
    refine lv_if_eq (tgt := 18) hx hb dX10_swap_5 (by decide) (fun _ => ?_) (fun c_100 => absurd (by decide) c_100)
    refine lv_iconst (v := (-1)) hx hb dX10_swap_18 (by decide) ?_
    exact ret (-1) v w sg _ _ _ _ dX10_swap_19 h ⟨⟨mi, fM_rf⟩, rfl, rfl⟩

set_option maxHeartbeats 4000000 in
set_option maxRecDepth 100000 in
theorem c_X10_drop (l : Launch) (G : gG) (v : Nat → Nat → Int32) (w : Nat → Nat → Int64) (sg : Nat → Nat) (mi : mI v) : Met l yX10_drop wsX10_drop ({ frames := 0, cells := 0, slots := 0, locals := 0 }) (gPre G v w sg [.ref (G.2.2 (106))]) (gQi G (fun r v' w' sg' => (mI v' ∧ fM 114 123 10 19 v w v' w) ∧ w = w' ∧ sg = sg')) 0 0 (gA G) := by
  refine gM_ofi (cc := cX10_drop) (maxL := 1) (by decide) rfl (Nat.le_of_ble_eq_true rfl) ?_
  intro p e R s m args below meth c Q ls C hR ret h hl
  have hx := C.1.1
  have hb := C.1.2.1
  have hown := C.1.2.2.2.1
  have hts := C.1.2.2.2.2
  have hl : lv_has ls 1 [(0, .ref (G.2.2 (106)))] := hl
  have z_m4 : ((-4) : Int32).toInt = (-4) := by decide
  have z_0 : (0 : Int32).toInt = 0 := by decide
  have z_1 : (1 : Int32).toInt = 1 := by decide
  have f178 : Cond.fieldLink RX10 178 "WindHallModel" "corrections" "I" ∈ wsX10_drop := by decide +kernel
  have hi10 : ∀ x ∈ u_ws RX10 TX10 42, x ∈ wsX10_drop := fun x q => List.mem_cons_of_mem _ (List.mem_append_right _ q)
  have o_1 := mi
  obtain ⟨I7, I10, I18, I22, I27, I29, I32, Is, I35, Ia, Iar, Isz, Ian⟩ := o_1
  refine lv_aload_n hx hb dX10_drop_0 rfl (lv_at hl 0 rfl) ?_
  refine g_geti (ci := 10) (x := v 106 10) C h 106 (by decide) rfl rfl hi10 10 (by decide) f178 rfl rfl rfl dX10_drop_1 ?_
  refine lv_if_ne (tgt := 10) hx hb dX10_drop_4 (by decide) (fun c_2 => ?_) (fun c_2 => ?_)
  · have j_3 : ¬ ((v 106 10).toInt = 0) := fun q => c_2 ((i_eq rfl (by decide)).mpr q)
    refine lv_aload_n hx hb dX10_drop_10 rfl (lv_at hl 0 rfl) ?_
    refine lv_dup hx hb dX10_drop_11 rfl ?_
    refine g_geti (ci := 10) (x := v 106 10) C h 106 (by decide) rfl rfl hi10 10 (by decide) f178 rfl rfl rfl dX10_drop_12 ?_
    refine lv_iconst (v := 1) hx hb dX10_drop_15 (by decide) ?_
    refine lv_isub hx hb dX10_drop_16 ?_
    refine lv_topi (fun x_4 e_5 => ?_)
    have i_6 : x_4.toInt = (v 106 10).toInt - 1 := ia_sub e_5 rfl (by decide) (by omega) (by omega)
    refine g_put (ci := 10) (x := x_4) (ty := .int) C h 106 (by decide) rfl rfl hi10 tyX10 tyX10_ok nmX10 10 (by decide) f178 rfl rfl (by decide +kernel) rfl rfl (Nat.le_of_ble_eq_true rfl) rfl dX10_drop_17 (fun H locs h => ?_)
    obtain ⟨v_7, hv_7⟩ : ∃ z, z = gu v 106 10 x_4 := ⟨_, rfl⟩
    have h : gS (gA G) G s v_7 w sg H locs := by rw [hv_7]; exact h
    have u_8 : mI v_7 := by rw [hv_7]; exact (mI_10 mi (by omega))
    have u_9 : fM 114 123 10 19 v w v_7 w := by rw [hv_7]; exact (fM_f fM_rf (by decide))
    refine lv_aload_n hx hb dX10_drop_20 rfl (lv_at hl 0 rfl) ?_
    refine g_geti (ci := 10) (x := x_4) C h 106 (by decide) rfl rfl hi10 10 (by decide) f178 rfl rfl (by rw [hv_7] <;> rfl) dX10_drop_21 ?_
    exact ret x_4 v_7 w sg _ _ _ _ dX10_drop_24 h ⟨⟨u_8, u_9⟩, rfl, rfl⟩
  · have j_3 : (v 106 10).toInt = 0 := (i_eq rfl (by decide)).mp c_2
    refine lv_bipush (v := (-4)) hx hb dX10_drop_7 (by decide) ?_
    exact ret (-4) v w sg _ _ _ _ dX10_drop_9 h ⟨⟨mi, fM_rf⟩, rfl, rfl⟩

set_option maxHeartbeats 4000000 in
set_option maxRecDepth 100000 in
theorem c_X10_raw (l : Launch) (G : gG) (v : Nat → Nat → Int32) (w : Nat → Nat → Int64) (sg : Nat → Nat) (p1 : Int32) {A1 : Int} (a1 : p1.toInt = A1) (p2 : Int32) {A2 : Int} (a2 : p2.toInt = A2) (p3 : Int32) {A3 : Int} (a3 : p3.toInt = A3) (p4 : Int32) {A4 : Int} (a4 : p4.toInt = A4) (p5 : Int32) {A5 : Int} (a5 : p5.toInt = A5) (mi : mI v) : Met l yX10_raw wsX10_raw ({ frames := 2, cells := 0, slots := 0, locals := 45 }) (gPre G v w sg [.ref (G.2.2 (106)), .int (p1), .int (p2), .int (p3), .int (p4), .int (p5)]) (gQi G (fun r v' w' sg' => (mI v' ∧ fM 114 123 10 19 v w v' w ∧ ((r = 1 ∧ rF15 A1 A2 A3 A4 A5) ∨ (r = -1 ∧ ¬ rF15 A1 A2 A3 A4 A5))) ∧ w = w' ∧ sg = sg')) 0 0 (gA G) := by
  refine gM_ofi (cc := cX10_raw) (maxL := 6) (by decide) rfl (Nat.le_of_ble_eq_true rfl) ?_
  intro p e R s m args below meth c Q ls C hR ret h hl
  have hx := C.1.1
  have hb := C.1.2.1
  have hown := C.1.2.2.2.1
  have hts := C.1.2.2.2.2
  have hl : lv_has ls 6 [(0, .ref (G.2.2 (106))), (1, .int (p1)), (2, .int (p2)), (3, .int (p3)), (4, .int (p4)), (5, .int (p5))] := hl
  have q1 := i_rng p1; rw [a1] at q1
  have q2 := i_rng p2; rw [a2] at q2
  have q3 := i_rng p3; rw [a3] at q3
  have q4 := i_rng p4; rw [a4] at q4
  have q5 := i_rng p5; rw [a5] at q5
  have z_m1 : ((-1) : Int32).toInt = (-1) := by decide
  have z_0 : (0 : Int32).toInt = 0 := by decide
  have z_1 : (1 : Int32).toInt = 1 := by decide
  have z_2 : (2 : Int32).toInt = 2 := by decide
  have k194 : (Cond.constantLong RX10 194 (1000)).before args s = true := hts _ (by decide +kernel)
  have k196 : (Cond.constantLong RX10 196 (23)).before args s = true := hts _ (by decide +kernel)
  have f48 : Cond.fieldLink RX10 48 "WindHallModel" "raws" "[I" ∈ wsX10_raw := by decide +kernel
  have hi10 : ∀ x ∈ u_ws RX10 TX10 42, x ∈ wsX10_raw := fun x q => List.mem_cons_of_mem _ (List.mem_append_right _ q)
  have f198 : Cond.fieldLink RX10 198 "WindHallModel" "time" "I" ∈ wsX10_raw := by decide +kernel
  have f201 : Cond.fieldLink RX10 201 "WindHallModel" "angle" "I" ∈ wsX10_raw := by decide +kernel
  have o_1 := mi
  obtain ⟨I7, I10, I18, I22, I27, I29, I32, Is, I35, Ia, Iar, Isz, Ian⟩ := o_1
  refine lv_iload_n hx hb dX10_raw_0 rfl (lv_at hl 1 rfl) ?_
  refine g_calli C (va_runS (As := [.int (p1)]) (rest := []) C.1 (c_X10_isReading l G v w sg p1 (A0 := A1) a1) (va_cwS 1 hts gX10_raw_X10_isReading rfl rfl rfl (by decide +kernel) ⟨by rw [hR]; exact Nat.le_of_ble_eq_true rfl, by rw [hR]; exact Nat.le_of_ble_eq_true rfl⟩) ⟨gPre_blind, gS_pre C h _⟩ rfl rfl hl.1 rfl (lv_room (Nat.le_of_ble_eq_true rfl)) dX10_raw_1 ⟨Nat.zero_le _, Nat.zero_le _⟩) h (fun r_2 v_4 w_5 g_6 H locs p_3 h => ?_)
  obtain ⟨p_3, rfl, rfl, rfl⟩ := p_3
  rcases p_3 with ⟨rfl, t_7⟩ | ⟨rfl, t_7⟩
  · skip
    refine lv_if_eq (tgt := 47) hx hb dX10_raw_4 (by decide) (fun c_8 => absurd c_8 (by decide)) (fun _ => ?_)
    refine lv_iload_n hx hb dX10_raw_7 rfl (lv_at hl 2 rfl) ?_
    refine g_calli C (va_runS (As := [.int (p2)]) (rest := []) C.1 (c_X10_isReading l G v w sg p2 (A0 := A2) a2) (va_cwS 1 hts gX10_raw_X10_isReading rfl rfl rfl (by decide +kernel) ⟨by rw [hR]; exact Nat.le_of_ble_eq_true rfl, by rw [hR]; exact Nat.le_of_ble_eq_true rfl⟩) ⟨gPre_blind, gS_pre C h _⟩ rfl rfl hl.1 rfl (lv_room (Nat.le_of_ble_eq_true rfl)) dX10_raw_8 ⟨Nat.zero_le _, Nat.zero_le _⟩) h (fun r_9 v_11 w_12 g_13 H locs p_10 h => ?_)
    obtain ⟨p_10, rfl, rfl, rfl⟩ := p_10
    rcases p_10 with ⟨rfl, t_14⟩ | ⟨rfl, t_14⟩
    · skip
      refine lv_if_eq (tgt := 47) hx hb dX10_raw_11 (by decide) (fun c_15 => absurd c_15 (by decide)) (fun _ => ?_)
      refine lv_iload_n hx hb dX10_raw_14 rfl (lv_at hl 3 rfl) ?_
      refine g_calli C (va_runS (As := [.int (p3)]) (rest := []) C.1 (c_X10_isReading l G v w sg p3 (A0 := A3) a3) (va_cwS 1 hts gX10_raw_X10_isReading rfl rfl rfl (by decide +kernel) ⟨by rw [hR]; exact Nat.le_of_ble_eq_true rfl, by rw [hR]; exact Nat.le_of_ble_eq_true rfl⟩) ⟨gPre_blind, gS_pre C h _⟩ rfl rfl hl.1 rfl (lv_room (Nat.le_of_ble_eq_true rfl)) dX10_raw_15 ⟨Nat.zero_le _, Nat.zero_le _⟩) h (fun r_16 v_18 w_19 g_20 H locs p_17 h => ?_)
      obtain ⟨p_17, rfl, rfl, rfl⟩ := p_17
      rcases p_17 with ⟨rfl, t_21⟩ | ⟨rfl, t_21⟩
      · skip
        refine lv_if_eq (tgt := 47) hx hb dX10_raw_18 (by decide) (fun c_22 => absurd c_22 (by decide)) (fun _ => ?_)
        refine lv_iload hx hb dX10_raw_21 (lv_at hl 4 rfl) ?_
        refine lv_i2l (v := (p4 : Int32).toInt64) hx hb dX10_raw_23 rfl ?_
        refine lv_lconst (v := 0) hx hb dX10_raw_24 (by decide) ?_
        refine lv_ldc2 hx hb hown k194 dX10_raw_25 ?_
        refine g_calli C (va_runS (As := [.long ((p4 : Int32).toInt64), .long (0), .long (1000)]) (rest := []) C.1 (c_X10_in l G v w sg ((p4 : Int32).toInt64) (A0 := A4) (il_of a4) (0) (A2 := 0) (by decide) (1000) (A4 := 1000) (by decide)) (va_cwS 3 hts gX10_raw_X10_in rfl rfl rfl (by decide +kernel) ⟨by rw [hR]; exact Nat.le_of_ble_eq_true rfl, by rw [hR]; exact Nat.le_of_ble_eq_true rfl⟩) ⟨gPre_blind, gS_pre C h _⟩ rfl rfl hl.1 rfl (lv_room (Nat.le_of_ble_eq_true rfl)) dX10_raw_28 ⟨Nat.zero_le _, Nat.zero_le _⟩) h (fun r_23 v_25 w_26 g_27 H locs p_24 h => ?_)
        obtain ⟨p_24, rfl, rfl, rfl⟩ := p_24
        rcases p_24 with ⟨rfl, t_28⟩ | ⟨rfl, t_28⟩
        · skip
          refine lv_if_eq (tgt := 47) hx hb dX10_raw_31 (by decide) (fun c_29 => absurd c_29 (by decide)) (fun _ => ?_)
          refine lv_iload hx hb dX10_raw_34 (lv_at hl 5 rfl) ?_
          refine lv_i2l (v := (p5 : Int32).toInt64) hx hb dX10_raw_36 rfl ?_
          refine lv_lconst (v := 0) hx hb dX10_raw_37 (by decide) ?_
          refine lv_ldc2 hx hb hown k196 dX10_raw_38 ?_
          refine g_calli C (va_runS (As := [.long ((p5 : Int32).toInt64), .long (0), .long (23)]) (rest := []) C.1 (c_X10_in l G v w sg ((p5 : Int32).toInt64) (A0 := A5) (il_of a5) (0) (A2 := 0) (by decide) (23) (A4 := 23) (by decide)) (va_cwS 3 hts gX10_raw_X10_in rfl rfl rfl (by decide +kernel) ⟨by rw [hR]; exact Nat.le_of_ble_eq_true rfl, by rw [hR]; exact Nat.le_of_ble_eq_true rfl⟩) ⟨gPre_blind, gS_pre C h _⟩ rfl rfl hl.1 rfl (lv_room (Nat.le_of_ble_eq_true rfl)) dX10_raw_41 ⟨Nat.zero_le _, Nat.zero_le _⟩) h (fun r_30 v_32 w_33 g_34 H locs p_31 h => ?_)
          obtain ⟨p_31, rfl, rfl, rfl⟩ := p_31
          rcases p_31 with ⟨rfl, t_35⟩ | ⟨rfl, t_35⟩
          · skip
            refine lv_if_ne (tgt := 49) hx hb dX10_raw_44 (by decide) (fun _ => ?_) (fun c_36 => absurd c_36 (by decide))
            refine lv_aload_n hx hb dX10_raw_49 rfl (lv_at hl 0 rfl) ?_
            refine g_get (ci := 10) (x := .ref (G.2.2 (119))) C h 106 (by decide) rfl rfl hi10 16 (by decide) f48 rfl rfl dX10_raw_50 ?_
            refine lv_iconst (v := 0) hx hb dX10_raw_53 (by decide) ?_
            refine lv_iload_n hx hb dX10_raw_54 rfl (lv_at hl 1 rfl) ?_
            refine g_iast C h 119 (by decide) (by decide) (n := 3) (by decide) (vp_of (I := 0) (by decide) (by decide) (by decide)) dX10_raw_55 (fun H locs h => ?_)
            obtain ⟨v_37, hv_37⟩ : ∃ z, z = gu v 119 0 p1 := ⟨_, rfl⟩
            have h : gS (gA G) G s v_37 w sg H locs := by rw [hv_37]; exact h
            have u_38 : mI v_37 := by rw [hv_37]; exact mi
            have u_39 : fM 114 123 10 19 v w v_37 w := by rw [hv_37]; exact (fM_v fM_rf (by decide))
            refine lv_aload_n hx hb dX10_raw_56 rfl (lv_at hl 0 rfl) ?_
            refine g_get (ci := 10) (x := .ref (G.2.2 (119))) C h 106 (by decide) rfl rfl hi10 16 (by decide) f48 rfl rfl dX10_raw_57 ?_
            refine lv_iconst (v := 1) hx hb dX10_raw_60 (by decide) ?_
            refine lv_iload_n hx hb dX10_raw_61 rfl (lv_at hl 2 rfl) ?_
            refine g_iast C h 119 (by decide) (by decide) (n := 3) (by decide) (vp_of (I := 1) (by decide) (by decide) (by decide)) dX10_raw_62 (fun H locs h => ?_)
            obtain ⟨v_40, hv_40⟩ : ∃ z, z = gu v_37 119 1 p2 := ⟨_, rfl⟩
            have h : gS (gA G) G s v_40 w sg H locs := by rw [hv_40]; exact h
            have u_41 : mI v_40 := by rw [hv_40]; exact u_38
            have u_42 : fM 114 123 10 19 v w v_40 w := by rw [hv_40]; exact (fM_v u_39 (by decide))
            refine lv_aload_n hx hb dX10_raw_63 rfl (lv_at hl 0 rfl) ?_
            refine g_get (ci := 10) (x := .ref (G.2.2 (119))) C h 106 (by decide) rfl rfl hi10 16 (by decide) f48 rfl rfl dX10_raw_64 ?_
            refine lv_iconst (v := 2) hx hb dX10_raw_67 (by decide) ?_
            refine lv_iload_n hx hb dX10_raw_68 rfl (lv_at hl 3 rfl) ?_
            refine g_iast C h 119 (by decide) (by decide) (n := 3) (by decide) (vp_of (I := 2) (by decide) (by decide) (by decide)) dX10_raw_69 (fun H locs h => ?_)
            obtain ⟨v_43, hv_43⟩ : ∃ z, z = gu v_40 119 2 p3 := ⟨_, rfl⟩
            have h : gS (gA G) G s v_43 w sg H locs := by rw [hv_43]; exact h
            have u_44 : mI v_43 := by rw [hv_43]; exact u_41
            have u_45 : fM 114 123 10 19 v w v_43 w := by rw [hv_43]; exact (fM_v u_42 (by decide))
            refine lv_aload_n hx hb dX10_raw_70 rfl (lv_at hl 0 rfl) ?_
            refine lv_iload hx hb dX10_raw_71 (lv_at hl 4 rfl) ?_
            refine g_put (ci := 10) (x := p4) (ty := .int) C h 106 (by decide) rfl rfl hi10 tyX10 tyX10_ok nmX10 17 (by decide) f198 rfl rfl (by decide +kernel) rfl rfl (Nat.le_of_ble_eq_true rfl) rfl dX10_raw_73 (fun H locs h => ?_)
            obtain ⟨v_46, hv_46⟩ : ∃ z, z = gu v_43 106 17 p4 := ⟨_, rfl⟩
            have h : gS (gA G) G s v_46 w sg H locs := by rw [hv_46]; exact h
            have u_47 : mI v_46 := by rw [hv_46]; exact u_44
            have u_48 : fM 114 123 10 19 v w v_46 w := by rw [hv_46]; exact (fM_f u_45 (by decide))
            refine lv_aload_n hx hb dX10_raw_76 rfl (lv_at hl 0 rfl) ?_
            refine lv_iload hx hb dX10_raw_77 (lv_at hl 5 rfl) ?_
            refine g_put (ci := 10) (x := p5) (ty := .int) C h 106 (by decide) rfl rfl hi10 tyX10 tyX10_ok nmX10 18 (by decide) f201 rfl rfl (by decide +kernel) rfl rfl (Nat.le_of_ble_eq_true rfl) rfl dX10_raw_79 (fun H locs h => ?_)
            obtain ⟨v_49, hv_49⟩ : ∃ z, z = gu v_46 106 18 p5 := ⟨_, rfl⟩
            have h : gS (gA G) G s v_49 w sg H locs := by rw [hv_49]; exact h
            have u_50 : mI v_49 := by rw [hv_49]; exact (mI_18 u_47 (by omega))
            have u_51 : fM 114 123 10 19 v w v_49 w := by rw [hv_49]; exact (fM_f u_48 (by decide))
            refine lv_iconst (v := 1) hx hb dX10_raw_82 (by decide) ?_
            exact ret 1 v_49 w sg _ _ _ _ dX10_raw_83 h ⟨⟨u_50, u_51, Or.inl ⟨rfl, by unfold rF15; omega⟩⟩, rfl, rfl⟩
          · skip
            refine lv_if_ne (tgt := 49) hx hb dX10_raw_44 (by decide) (fun c_52 => absurd (by decide) c_52) (fun _ => ?_)
            refine lv_iconst (v := (-1)) hx hb dX10_raw_47 (by decide) ?_
            exact ret (-1) v w sg _ _ _ _ dX10_raw_48 h ⟨⟨mi, fM_rf, Or.inr ⟨rfl, by unfold rF15; omega⟩⟩, rfl, rfl⟩
        · skip
          refine lv_if_eq (tgt := 47) hx hb dX10_raw_31 (by decide) (fun _ => ?_) (fun c_53 => absurd (by decide) c_53)
          refine lv_iconst (v := (-1)) hx hb dX10_raw_47 (by decide) ?_
          exact ret (-1) v w sg _ _ _ _ dX10_raw_48 h ⟨⟨mi, fM_rf, Or.inr ⟨rfl, by unfold rF15; omega⟩⟩, rfl, rfl⟩
      · skip
        refine lv_if_eq (tgt := 47) hx hb dX10_raw_18 (by decide) (fun _ => ?_) (fun c_54 => absurd (by decide) c_54)
        refine lv_iconst (v := (-1)) hx hb dX10_raw_47 (by decide) ?_
        exact ret (-1) v w sg _ _ _ _ dX10_raw_48 h ⟨⟨mi, fM_rf, Or.inr ⟨rfl, by unfold rF15; omega⟩⟩, rfl, rfl⟩
    · skip
      refine lv_if_eq (tgt := 47) hx hb dX10_raw_11 (by decide) (fun _ => ?_) (fun c_55 => absurd (by decide) c_55)
      refine lv_iconst (v := (-1)) hx hb dX10_raw_47 (by decide) ?_
      exact ret (-1) v w sg _ _ _ _ dX10_raw_48 h ⟨⟨mi, fM_rf, Or.inr ⟨rfl, by unfold rF15; omega⟩⟩, rfl, rfl⟩
  · skip
    refine lv_if_eq (tgt := 47) hx hb dX10_raw_4 (by decide) (fun _ => ?_) (fun c_56 => absurd (by decide) c_56)
    refine lv_iconst (v := (-1)) hx hb dX10_raw_47 (by decide) ?_
    exact ret (-1) v w sg _ _ _ _ dX10_raw_48 h ⟨⟨mi, fM_rf, Or.inr ⟨rfl, by unfold rF15; omega⟩⟩, rfl, rfl⟩

set_option maxHeartbeats 4000000 in
set_option maxRecDepth 100000 in
theorem c_X10_cosine (l : Launch) (G : gG) (v : Nat → Nat → Int32) (w : Nat → Nat → Int64) (sg : Nat → Nat) (p1 : Int32) {A1 : Int} (a1 : p1.toInt = A1) (b1 : 0 ≤ A1 ∧ A1 ≤ 41) (mi : mI v) : Met l yX10_cosine wsX10_cosine ({ frames := 0, cells := 0, slots := 0, locals := 0 }) (gPre G v w sg [.ref (G.2.2 (106)), .int (p1)]) (gQi G (fun r v' w' sg' => (True) ∧ v = v' ∧ w = w' ∧ sg = sg')) 0 0 (gA G) := by
  refine gM_ofi (cc := cX10_cosine) (maxL := 3) (by decide) rfl (Nat.le_of_ble_eq_true rfl) ?_
  intro p e R s m args below meth c Q ls C hR ret h hl
  have hx := C.1.1
  have hb := C.1.2.1
  have hown := C.1.2.2.2.1
  have hts := C.1.2.2.2.2
  have hl : lv_has ls 3 [(0, .ref (G.2.2 (106))), (1, .int (p1))] := hl
  have q1 := i_rng p1; rw [a1] at q1
  have z_0 : (0 : Int32).toInt = 0 := by decide
  have z_1 : (1 : Int32).toInt = 1 := by decide
  have z_6 : (6 : Int32).toInt = 6 := by decide
  have z_12 : (12 : Int32).toInt = 12 := by decide
  have z_24 : (24 : Int32).toInt = 24 := by decide
  have f51 : Cond.fieldLink RX10 51 "WindHallModel" "quarter" "[I" ∈ wsX10_cosine := by decide +kernel
  have hi10 : ∀ x ∈ u_ws RX10 TX10 42, x ∈ wsX10_cosine := fun x q => List.mem_cons_of_mem _ (List.mem_append_right _ q)
  have o_1 := mi
  obtain ⟨I7, I10, I18, I22, I27, I29, I32, Is, I35, Ia, Iar, Isz, Ian⟩ := o_1
  refine lv_iload_n hx hb dX10_cosine_0 rfl (lv_at hl 1 rfl) ?_
  refine lv_bipush (v := 24) hx hb dX10_cosine_1 (by decide) ?_
  refine lv_irem hx hb dX10_cosine_3 (by decide) ?_
  refine lv_topi (fun x_2 e_3 => ?_)
  have i_4 : x_2.toInt = A1 % 24 := ia_rem e_3 a1 (by decide) (by omega) (by omega)
  refine lv_istore_n (lv' := [(2, .int (x_2)), (0, .ref (G.2.2 (106))), (1, .int (p1))]) hx hb dX10_cosine_4 rfl hl (by decide) rfl (fun ls hl => ?_)
  refine lv_iload_n hx hb dX10_cosine_5 rfl (lv_at hl 0 rfl) ?_
  refine lv_bipush (v := 12) hx hb dX10_cosine_6 (by decide) ?_
  have J19_5 : ∀ (y_5 : Int32) (H : Heap) (locs : List Loc) (ls : Array Slot), (0 ≤ (y_5).toInt ∧ (y_5).toInt ≤ 12) → gS (gA G) G s v w sg H locs → lv_has ls 3 [(0, .ref (G.2.2 (106))), (1, .int (p1)), (2, .int (x_2))] → W p l e R s m args below meth c H locs 0 0 Q (F0 m 19 ls [.int (y_5)]) := by
    intro y_5 H locs ls f_6 h hl
    refine lv_istore_n (lv' := [(2, .int (y_5)), (0, .ref (G.2.2 (106))), (1, .int (p1))]) hx hb dX10_cosine_19 rfl hl (by decide) rfl (fun ls hl => ?_)
    refine lv_iload_n hx hb dX10_cosine_20 rfl (lv_at hl 0 rfl) ?_
    refine lv_bipush (v := 6) hx hb dX10_cosine_21 (by decide) ?_
    refine lv_icmp_le (tgt := 39) hx hb dX10_cosine_23 (by decide) (fun c_7 => ?_) (fun c_7 => ?_)
    · have j_8 : (y_5).toInt ≤ 6 := (i_le rfl (by decide)).mp c_7
      refine lv_aload_n hx hb dX10_cosine_39 rfl (lv_at hl 1 rfl) ?_
      refine g_get (ci := 10) (x := .ref (G.2.2 (120))) C h 106 (by decide) rfl rfl hi10 19 (by decide) f51 rfl rfl dX10_cosine_40 ?_
      refine lv_iload_n hx hb dX10_cosine_43 rfl (lv_at hl 0 rfl) ?_
      refine g_iald C h 120 (by decide) (by decide) (n := 7) (by decide) (vp_of rfl (by omega) (by omega)) dX10_cosine_44 ?_
      refine lv_topi (fun x_9 e_10 => ?_)
      exact ret x_9 v w sg _ _ _ _ dX10_cosine_45 h ⟨trivial, rfl, rfl, rfl⟩
    · have j_8 : ¬ ((y_5).toInt ≤ 6) := fun q => c_7 ((i_le rfl (by decide)).mpr q)
      refine lv_aload_n hx hb dX10_cosine_26 rfl (lv_at hl 1 rfl) ?_
      refine g_get (ci := 10) (x := .ref (G.2.2 (120))) C h 106 (by decide) rfl rfl hi10 19 (by decide) f51 rfl rfl dX10_cosine_27 ?_
      refine lv_bipush (v := 12) hx hb dX10_cosine_30 (by decide) ?_
      refine lv_iload_n hx hb dX10_cosine_32 rfl (lv_at hl 0 rfl) ?_
      refine lv_isub hx hb dX10_cosine_33 ?_
      refine lv_topi (fun x_11 e_12 => ?_)
      have i_13 : x_11.toInt = 12 - (y_5).toInt := ia_sub e_12 (by decide) rfl (by omega) (by omega)
      refine g_iald C h 120 (by decide) (by decide) (n := 7) (by decide) (vp_of i_13 (by omega) (by omega)) dX10_cosine_34 ?_
      refine lv_topi (fun x_14 e_15 => ?_)
      refine lv_ineg hx hb dX10_cosine_35 ?_
      refine lv_topi (fun x_16 e_17 => ?_)
      refine lv_goto (tgt := 45) hx hb dX10_cosine_36 (by decide) ?_
      exact ret x_16 v w sg _ _ _ _ dX10_cosine_45 h ⟨trivial, rfl, rfl, rfl⟩
  refine lv_icmp_le (tgt := 18) hx hb dX10_cosine_8 (by decide) (fun c_18 => ?_) (fun c_18 => ?_)
  · have j_19 : (A1 % 24) ≤ 12 := (i_le i_4 (by decide)).mp c_18
    refine lv_iload_n hx hb dX10_cosine_18 rfl (lv_at hl 0 rfl) ?_
    exact J19_5 x_2 _ _ _ (by omega) h (lv_sub hl [1, 2, 0] rfl)
  · have j_19 : ¬ ((A1 % 24) ≤ 12) := fun q => c_18 ((i_le i_4 (by decide)).mpr q)
    refine lv_bipush (v := 24) hx hb dX10_cosine_11 (by decide) ?_
    refine lv_iload_n hx hb dX10_cosine_13 rfl (lv_at hl 0 rfl) ?_
    refine lv_isub hx hb dX10_cosine_14 ?_
    refine lv_topi (fun x_20 e_21 => ?_)
    have i_22 : x_20.toInt = 24 - (A1 % 24) := ia_sub e_21 (by decide) i_4 (by omega) (by omega)
    refine lv_goto (tgt := 19) hx hb dX10_cosine_15 (by decide) ?_
    exact J19_5 x_20 _ _ _ (by omega) h (lv_sub hl [1, 2, 0] rfl)

set_option maxHeartbeats 4000000 in
set_option maxRecDepth 100000 in
theorem c_X10_sine (l : Launch) (G : gG) (v : Nat → Nat → Int32) (w : Nat → Nat → Int64) (sg : Nat → Nat) (p1 : Int32) {A1 : Int} (a1 : p1.toInt = A1) (b1 : 0 ≤ A1 ∧ A1 ≤ 23) (mi : mI v) : Met l yX10_sine wsX10_sine ({ frames := 1, cells := 0, slots := 0, locals := 22 }) (gPre G v w sg [.ref (G.2.2 (106)), .int (p1)]) (gQi G (fun r v' w' sg' => (True) ∧ v = v' ∧ w = w' ∧ sg = sg')) 0 0 (gA G) := by
  refine gM_ofi (cc := cX10_sine) (maxL := 2) (by decide) rfl (Nat.le_of_ble_eq_true rfl) ?_
  intro p e R s m args below meth c Q ls C hR ret h hl
  have hx := C.1.1
  have hb := C.1.2.1
  have hown := C.1.2.2.2.1
  have hts := C.1.2.2.2.2
  have hl : lv_has ls 2 [(0, .ref (G.2.2 (106))), (1, .int (p1))] := hl
  have q1 := i_rng p1; rw [a1] at q1
  have z_0 : (0 : Int32).toInt = 0 := by decide
  have z_1 : (1 : Int32).toInt = 1 := by decide
  have z_18 : (18 : Int32).toInt = 18 := by decide
  have o_1 := mi
  obtain ⟨I7, I10, I18, I22, I27, I29, I32, Is, I35, Ia, Iar, Isz, Ian⟩ := o_1
  refine lv_aload_n hx hb dX10_sine_0 rfl (lv_at hl 0 rfl) ?_
  refine lv_iload_n hx hb dX10_sine_1 rfl (lv_at hl 1 rfl) ?_
  refine lv_bipush (v := 18) hx hb dX10_sine_2 (by decide) ?_
  refine lv_iadd hx hb dX10_sine_4 ?_
  refine lv_topi (fun x_2 e_3 => ?_)
  have i_4 : x_2.toInt = A1 + 18 := ia_add e_3 a1 (by decide) (by omega) (by omega)
  refine g_calli C (va_runV (As := [.int (x_2)]) (rest := []) C.1 (c_X10_cosine l G v w sg x_2 (A1 := (A1 + 18)) i_4 (by omega) mi) (cwV 1 hts gX10_sine_X10_cosine rfl rfl rfl (by decide +kernel) ⟨by rw [hR]; exact Nat.le_of_ble_eq_true rfl, by rw [hR]; exact Nat.le_of_ble_eq_true rfl⟩) ⟨gPre_blind, g_recv C h 106 (by decide) (ci := 10) rfl rfl, gS_pre C h _⟩ rfl rfl hl.1 rfl (lv_room (Nat.le_of_ble_eq_true rfl)) dX10_sine_5 ⟨Nat.zero_le _, Nat.zero_le _⟩) h (fun r_5 v_7 w_8 g_9 H locs p_6 h => ?_)
  obtain ⟨p_6, rfl, rfl, rfl⟩ := p_6
  exact ret r_5 v w sg _ _ _ _ dX10_sine_8 h ⟨trivial, rfl, rfl, rfl⟩

set_option maxHeartbeats 4000000 in
set_option maxRecDepth 100000 in
theorem c_X10_begins (l : Launch) (G : gG) (v : Nat → Nat → Int32) (w : Nat → Nat → Int64) (sg : Nat → Nat) (mi : mI v) : Met l yX10_begins wsX10_begins ({ frames := 0, cells := 0, slots := 0, locals := 0 }) (gPre G v w sg [.ref (G.2.2 (106))]) (gQv G (fun v' w' sg' => (mI v ∧ fM 114 123 10 19 v w v w') ∧ v = v' ∧ sg = sg')) 0 0 (gA G) := by
  refine gM_ofv (cc := cX10_begins) (maxL := 2) (by decide) rfl (Nat.le_of_ble_eq_true rfl) ?_
  intro p e R s m args below meth c Q ls C hR ret h hl
  have hx := C.1.1
  have hb := C.1.2.1
  have hown := C.1.2.2.2.1
  have hts := C.1.2.2.2.2
  have hl : lv_has ls 2 [(0, .ref (G.2.2 (106)))] := hl
  have z_0 : (0 : Int32).toInt = 0 := by decide
  have z_1 : (1 : Int32).toInt = 1 := by decide
  have z_3 : (3 : Int32).toInt = 3 := by decide
  have f54 : Cond.fieldLink RX10 54 "WindHallModel" "now" "[J" ∈ wsX10_begins := by decide +kernel
  have hi10 : ∀ x ∈ u_ws RX10 TX10 42, x ∈ wsX10_begins := fun x q => List.mem_cons_of_mem _ (List.mem_append_right _ q)
  have f48 : Cond.fieldLink RX10 48 "WindHallModel" "raws" "[I" ∈ wsX10_begins := by decide +kernel
  have o_1 := mi
  obtain ⟨I7, I10, I18, I22, I27, I29, I32, Is, I35, Ia, Iar, Isz, Ian⟩ := o_1
  refine lv_iconst (v := 0) hx hb dX10_begins_0 (by decide) ?_
  have J2_3 : ∀ (n : Nat) (y_2 : Int32) (w_3 : Nat → Nat → Int64) (H : Heap) (locs : List Loc) (ls : Array Slot), (3 - (y_2).toInt).toNat < n → (mI v) → (fM 114 123 10 19 v w v w_3) → (0 ≤ (y_2).toInt ∧ (y_2).toInt ≤ 3) → gS (gA G) G s v w_3 sg H locs → lv_has ls 2 [(0, .ref (G.2.2 (106))), (1, .int (y_2))] → W p l e R s m args below meth c H locs 0 0 Q (F0 m 2 ls []) := by
    intro n
    induction n with
    | zero => intro y_2 w_3 H locs ls hm; exact absurd hm (Nat.not_lt_zero _)
    | succ n ih2 =>
      intro y_2 w_3 H locs ls hm u_4 u_5 f_6 h hl
      have o_7 := u_4
      obtain ⟨I7, I10, I18, I22, I27, I29, I32, Is, I35, Ia, Iar, Isz, Ian⟩ := o_7
      refine lv_iload_n hx hb dX10_begins_2 rfl (lv_at hl 1 rfl) ?_
      refine lv_iconst (v := 3) hx hb dX10_begins_3 (by decide) ?_
      refine lv_icmp_ge (tgt := 26) hx hb dX10_begins_4 (by decide) (fun c_8 => ?_) (fun c_8 => ?_)
      · have j_9 : 3 ≤ (y_2).toInt := (i_le (by decide) rfl).mp c_8
        exact ret v w_3 sg _ _ _ _ dX10_begins_26 h ⟨⟨u_4, u_5⟩, rfl, rfl⟩
      · have j_9 : ¬ (3 ≤ (y_2).toInt) := fun q => c_8 ((i_le (by decide) rfl).mpr q)
        refine lv_aload_n hx hb dX10_begins_7 rfl (lv_at hl 0 rfl) ?_
        refine g_get (ci := 10) (x := .ref (G.2.2 (121))) C h 106 (by decide) rfl rfl hi10 20 (by decide) f54 rfl rfl dX10_begins_8 ?_
        refine lv_iload_n hx hb dX10_begins_11 rfl (lv_at hl 1 rfl) ?_
        refine lv_aload_n hx hb dX10_begins_12 rfl (lv_at hl 0 rfl) ?_
        refine g_get (ci := 10) (x := .ref (G.2.2 (119))) C h 106 (by decide) rfl rfl hi10 16 (by decide) f48 rfl rfl dX10_begins_13 ?_
        refine lv_iload_n hx hb dX10_begins_16 rfl (lv_at hl 1 rfl) ?_
        refine g_iald C h 119 (by decide) (by decide) (n := 3) (by decide) (vp_of rfl (by omega) (by omega)) dX10_begins_17 ?_
        refine lv_topi (fun x_10 e_11 => ?_)
        have q_12 := i_rng x_10
        refine lv_i2l (v := (x_10 : Int32).toInt64) hx hb dX10_begins_18 rfl ?_
        refine g_last C h 121 (by decide) (by decide) (n := 3) (by decide) (vp_of rfl (by omega) (by omega)) dX10_begins_19 (fun H locs h => ?_)
        obtain ⟨w_13, hw_13⟩ : ∃ z, z = gul w_3 121 ((y_2 : Int32).toNatClampNeg) ((x_10 : Int32).toInt64) := ⟨_, rfl⟩
        have h : gS (gA G) G s v w_13 sg H locs := by rw [hw_13]; exact h
        have u_14 : fM 114 123 10 19 v w v w_13 := by rw [hw_13]; exact (fM_w u_5 (by decide))
        obtain ⟨x_15, e_16⟩ : ∃ y : Int32, y = y_2 + 1 := ⟨_, rfl⟩
        have i_17 : x_15.toInt = (y_2).toInt + 1 := ia_add e_16 rfl (by decide) (by omega) (by omega)
        refine lv_iinc (v := x_15) (lv' := [(1, .int (x_15)), (0, .ref (G.2.2 (106)))]) hx hb dX10_begins_20 hl (k := 1) rfl (by rw [e_16]; rfl) (by decide) rfl (fun ls hl => ?_)
        refine lv_goto (tgt := 2) hx hb dX10_begins_23 (by decide) ?_
        exact ih2 x_15 w_13 _ _ _ (by omega) u_4 u_14 (by omega) h (lv_sub hl [1, 0] rfl)
  refine lv_istore_n (lv' := [(1, .int (0)), (0, .ref (G.2.2 (106)))]) hx hb dX10_begins_1 rfl hl (by decide) rfl (fun ls hl => ?_)
  exact J2_3 _ 0 w _ _ _ (Nat.lt_succ_self _) mi fM_rf (by omega) h (lv_sub hl [1, 0] rfl)
