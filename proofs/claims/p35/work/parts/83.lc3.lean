set_option maxHeartbeats 4000000 in
set_option maxRecDepth 100000 in
theorem lc_27 {p : Program} {l : Launch} {e : Env} {R : Room} {s : State} {m : MethodId} {args : Array Value} {below : List Frame} {meth : Method} {c : Code} {H : Heap} {locs : List Loc} {cells slots : Nat} {Q : State → Prop} {ls : Array Slot} {A : Nat → Prop} {G : gG} {v : Nat → Nat → Int32} {w : Nat → Nat → Int64} {sg : Nat → Nat} {b L : Nat} {xs : Nat → Int32} {x3 : Int32}
    (C : gC p s m c code 4 args wsL_law RL A G) (hR : R = room_1) (hcs : cells ≤ R.cells ∧ slots ≤ R.slots) (hX : va_X b L xs s s.heap) (hbl : b < s.heap.size) (hbA : ¬ A b) (hi3 : 0 ≤ x3.toInt ∧ x3.toInt + 7 ≤ (L : Int)) (hL : L ≤ 3584) (ci : cI v) (cg : cG sg) (mi : mI v) (rl : Rl v) (h : gS A G s v w sg H locs) (hl : lv_has ls 4 [(0, .ref b), (1, .ref (G.2.2 (0))), (2, .ref (G.2.2 (106))), (3, .int (x3))])
    (K : ∀ (v : Nat → Nat → Int32) (w : Nat → Nat → Int64) (sg : Nat → Nat) (H : Heap) (locs : List Loc) (ls : Array Slot), cI v → cG sg → mI v → Rl v → gS A G s v w sg H locs → lv_has ls 4 [(0, .ref b), (1, .ref (G.2.2 (0))), (2, .ref (G.2.2 (106))), (3, .int (x3))] → W p l e R s m args below meth c H locs cells slots Q (F0 m 1423 ls [])) : W p l e R s m args below meth c H locs cells slots Q (F0 m 1143 ls []) := by
  have hx := C.1.1
  have hb := C.1.2.1
  have hown := C.1.2.2.2.1
  have hts := C.1.2.2.2.2
  have z_0 : (0 : Int32).toInt = 0 := by decide
  have z_1 : (1 : Int32).toInt = 1 := by decide
  have z_2 : (2 : Int32).toInt = 2 := by decide
  have z_3 : (3 : Int32).toInt = 3 := by decide
  refine lv_aload_n hx hb dL_law_1143 rfl (lv_at hl 1 rfl) ?_
  refine lv_aload_n hx hb dL_law_1144 rfl (lv_at hl 0 rfl) ?_
  refine lv_iload_n hx hb dL_law_1145 rfl (lv_at hl 3 rfl) ?_
  refine lv_iconst (v := 1) hx hb dL_law_1146 (by decide) ?_
  refine lv_iadd hx hb dL_law_1147 ?_
  refine lv_topi (fun x_1 e_2 => ?_)
  have i_3 : x_1.toInt = (x3).toInt + 1 := ia_add e_2 rfl (by decide) (by omega) (by omega)
  refine va_sld hx hb hX hbl hbA h.2 (vp_of i_3 (by omega) (by omega)) dL_law_1148 ?_
  refine lv_topi (fun x_4 e_5 => ?_)
  refine lv_aload_n hx hb dL_law_1149 rfl (lv_at hl 0 rfl) ?_
  refine lv_iload_n hx hb dL_law_1150 rfl (lv_at hl 3 rfl) ?_
  refine lv_iconst (v := 2) hx hb dL_law_1151 (by decide) ?_
  refine lv_iadd hx hb dL_law_1152 ?_
  refine lv_topi (fun x_6 e_7 => ?_)
  have i_8 : x_6.toInt = (x3).toInt + 2 := ia_add e_7 rfl (by decide) (by omega) (by omega)
  refine va_sld hx hb hX hbl hbA h.2 (vp_of i_8 (by omega) (by omega)) dL_law_1153 ?_
  refine lv_topi (fun x_9 e_10 => ?_)
  refine lv_if_eq (tgt := 1161) hx hb dL_law_1154 (by decide) (fun c_11 => ?_) (fun c_11 => ?_)
  · have j_12 : (x_9).toInt = 0 := (i_eq rfl (by decide)).mp c_11
    refine lv_iconst (v := 0) hx hb dL_law_1161 (by decide) ?_
    refine lv_aload_n hx hb dL_law_1162 rfl (lv_at hl 0 rfl) ?_
    refine lv_iload_n hx hb dL_law_1163 rfl (lv_at hl 3 rfl) ?_
    refine lv_iconst (v := 3) hx hb dL_law_1164 (by decide) ?_
    refine lv_iadd hx hb dL_law_1165 ?_
    refine lv_topi (fun x_13 e_14 => ?_)
    have i_15 : x_13.toInt = (x3).toInt + 3 := ia_add e_14 rfl (by decide) (by omega) (by omega)
    refine va_sld hx hb hX hbl hbA h.2 (vp_of i_15 (by omega) (by omega)) dL_law_1166 ?_
    refine lv_topi (fun x_16 e_17 => ?_)
    refine g_calli C (va_runV (As := [.int (x_4), .int (0), .int (x_16)]) (rest := []) C.1 (c_X9_press l G v w sg x_4 (A1 := (x_4).toInt) rfl (0) (A2 := 0) (by decide) x_16 (A3 := (x_16).toInt) rfl ci) (cwV 3 hts gL_law_X9_press rfl rfl rfl (by decide +kernel) ⟨by rw [hR]; exact Nat.le_of_ble_eq_true rfl, by rw [hR]; exact Nat.le_of_ble_eq_true rfl⟩) ⟨gPre_blind, g_recv C h 0 (by decide) (ci := 9) rfl rfl, gS_pre C h _⟩ rfl rfl hl.1 rfl (lv_room (Nat.le_of_ble_eq_true rfl)) dL_law_1167 hcs) h (fun r_18 v_20 w_21 g_22 H locs p_19 h => ?_)
    obtain ⟨p_19, rfl, rfl⟩ := p_19
    have u_23 := p_19.1
    have u_24 := cg
    have u_25 := mI_fC mi p_19.2.1 (by decide)
    refine lv_pop hx hb dL_law_1170 rfl ?_
    refine lv_aload_n hx hb dL_law_1171 rfl (lv_at hl 2 rfl) ?_
    refine lv_aload_n hx hb dL_law_1172 rfl (lv_at hl 0 rfl) ?_
    refine lv_iload_n hx hb dL_law_1173 rfl (lv_at hl 3 rfl) ?_
    refine lv_iconst (v := 1) hx hb dL_law_1174 (by decide) ?_
    refine lv_iadd hx hb dL_law_1175 ?_
    refine lv_topi (fun x_26 e_27 => ?_)
    have i_28 : x_26.toInt = (x3).toInt + 1 := ia_add e_27 rfl (by decide) (by omega) (by omega)
    refine va_sld hx hb hX hbl hbA h.2 (vp_of i_28 (by omega) (by omega)) dL_law_1176 ?_
    refine lv_topi (fun x_29 e_30 => ?_)
    have s_31 : x_4 = x_29 := by rw [e_5, e_30, show x_1 = x_26 from (fa_eq _ _).mpr ((i_3).trans (i_28).symm)]
    subst s_31
    refine lv_aload_n hx hb dL_law_1177 rfl (lv_at hl 0 rfl) ?_
    refine lv_iload_n hx hb dL_law_1178 rfl (lv_at hl 3 rfl) ?_
    refine lv_iconst (v := 2) hx hb dL_law_1179 (by decide) ?_
    refine lv_iadd hx hb dL_law_1180 ?_
    refine lv_topi (fun x_32 e_33 => ?_)
    have i_34 : x_32.toInt = (x3).toInt + 2 := ia_add e_33 rfl (by decide) (by omega) (by omega)
    refine va_sld hx hb hX hbl hbA h.2 (vp_of i_34 (by omega) (by omega)) dL_law_1181 ?_
    refine lv_topi (fun x_35 e_36 => ?_)
    have s_37 : x_9 = x_35 := by rw [e_10, e_36, show x_6 = x_32 from (fa_eq _ _).mpr ((i_8).trans (i_34).symm)]
    subst s_37
    refine lv_if_eq (tgt := 1189) hx hb dL_law_1182 (by decide) (fun c_38 => ?_) (fun c_38 => ?_)
    · have j_39 : (x_9).toInt = 0 := (i_eq rfl (by decide)).mp c_38
      refine lv_iconst (v := 0) hx hb dL_law_1189 (by decide) ?_
      refine lv_aload_n hx hb dL_law_1190 rfl (lv_at hl 0 rfl) ?_
      refine lv_iload_n hx hb dL_law_1191 rfl (lv_at hl 3 rfl) ?_
      refine lv_iconst (v := 3) hx hb dL_law_1192 (by decide) ?_
      refine lv_iadd hx hb dL_law_1193 ?_
      refine lv_topi (fun x_40 e_41 => ?_)
      have i_42 : x_40.toInt = (x3).toInt + 3 := ia_add e_41 rfl (by decide) (by omega) (by omega)
      refine va_sld hx hb hX hbl hbA h.2 (vp_of i_42 (by omega) (by omega)) dL_law_1194 ?_
      refine lv_topi (fun x_43 e_44 => ?_)
      have s_45 : x_16 = x_43 := by rw [e_17, e_44, show x_13 = x_40 from (fa_eq _ _).mpr ((i_15).trans (i_42).symm)]
      subst s_45
      refine g_calli C (va_runV (As := [.int (x_4), .int (0), .int (x_16)]) (rest := []) C.1 (c_X10_press l G v_20 w sg x_4 (A1 := (x_4).toInt) rfl (0) (A2 := 0) (by decide) x_16 (A3 := (x_16).toInt) rfl u_25) (cwV 3 hts gL_law_X10_press rfl rfl rfl (by decide +kernel) ⟨by rw [hR]; exact Nat.le_of_ble_eq_true rfl, by rw [hR]; exact Nat.le_of_ble_eq_true rfl⟩) ⟨gPre_blind, g_recv C h 106 (by decide) (ci := 10) rfl rfl, gS_pre C h _⟩ rfl rfl hl.1 rfl (lv_room (Nat.le_of_ble_eq_true rfl)) dL_law_1195 hcs) h (fun r_46 v_48 w_49 g_50 H locs p_47 h => ?_)
      obtain ⟨p_47, rfl, rfl⟩ := p_47
      have u_51 := cI_fM u_23 p_47.2.1 (by decide)
      have u_52 := u_24
      have u_53 := p_47.1
      have hrl_54 := pr_press rfl (by decide) rfl (by decide) rl ci mi p_19 p_47
      refine lv_pop hx hb dL_law_1198 rfl ?_
      refine lv_goto (tgt := 1423) hx hb dL_law_1199 (by decide) ?_
      exact K v_48 w sg _ _ _ u_51 u_52 u_53 hrl_54.2 h (lv_sub hl [0, 1, 2, 3] rfl)
    · have j_39 : ¬ ((x_9).toInt = 0) := fun q => c_38 ((i_eq rfl (by decide)).mpr q)
      refine lv_iconst (v := 1) hx hb dL_law_1185 (by decide) ?_
      refine lv_goto (tgt := 1190) hx hb dL_law_1186 (by decide) ?_
      refine lv_aload_n hx hb dL_law_1190 rfl (lv_at hl 0 rfl) ?_
      refine lv_iload_n hx hb dL_law_1191 rfl (lv_at hl 3 rfl) ?_
      refine lv_iconst (v := 3) hx hb dL_law_1192 (by decide) ?_
      refine lv_iadd hx hb dL_law_1193 ?_
      refine lv_topi (fun x_55 e_56 => ?_)
      have i_57 : x_55.toInt = (x3).toInt + 3 := ia_add e_56 rfl (by decide) (by omega) (by omega)
      refine va_sld hx hb hX hbl hbA h.2 (vp_of i_57 (by omega) (by omega)) dL_law_1194 ?_
      refine lv_topi (fun x_58 e_59 => ?_)
      have s_60 : x_16 = x_58 := by rw [e_17, e_59, show x_13 = x_55 from (fa_eq _ _).mpr ((i_15).trans (i_57).symm)]
      subst s_60
      exfalso; omega
  · have j_12 : ¬ ((x_9).toInt = 0) := fun q => c_11 ((i_eq rfl (by decide)).mpr q)
    refine lv_iconst (v := 1) hx hb dL_law_1157 (by decide) ?_
    refine lv_goto (tgt := 1162) hx hb dL_law_1158 (by decide) ?_
    refine lv_aload_n hx hb dL_law_1162 rfl (lv_at hl 0 rfl) ?_
    refine lv_iload_n hx hb dL_law_1163 rfl (lv_at hl 3 rfl) ?_
    refine lv_iconst (v := 3) hx hb dL_law_1164 (by decide) ?_
    refine lv_iadd hx hb dL_law_1165 ?_
    refine lv_topi (fun x_61 e_62 => ?_)
    have i_63 : x_61.toInt = (x3).toInt + 3 := ia_add e_62 rfl (by decide) (by omega) (by omega)
    refine va_sld hx hb hX hbl hbA h.2 (vp_of i_63 (by omega) (by omega)) dL_law_1166 ?_
    refine lv_topi (fun x_64 e_65 => ?_)
    refine g_calli C (va_runV (As := [.int (x_4), .int (1), .int (x_64)]) (rest := []) C.1 (c_X9_press l G v w sg x_4 (A1 := (x_4).toInt) rfl (1) (A2 := 1) (by decide) x_64 (A3 := (x_64).toInt) rfl ci) (cwV 3 hts gL_law_X9_press rfl rfl rfl (by decide +kernel) ⟨by rw [hR]; exact Nat.le_of_ble_eq_true rfl, by rw [hR]; exact Nat.le_of_ble_eq_true rfl⟩) ⟨gPre_blind, g_recv C h 0 (by decide) (ci := 9) rfl rfl, gS_pre C h _⟩ rfl rfl hl.1 rfl (lv_room (Nat.le_of_ble_eq_true rfl)) dL_law_1167 hcs) h (fun r_66 v_68 w_69 g_70 H locs p_67 h => ?_)
    obtain ⟨p_67, rfl, rfl⟩ := p_67
    have u_71 := p_67.1
    have u_72 := cg
    have u_73 := mI_fC mi p_67.2.1 (by decide)
    refine lv_pop hx hb dL_law_1170 rfl ?_
    refine lv_aload_n hx hb dL_law_1171 rfl (lv_at hl 2 rfl) ?_
    refine lv_aload_n hx hb dL_law_1172 rfl (lv_at hl 0 rfl) ?_
    refine lv_iload_n hx hb dL_law_1173 rfl (lv_at hl 3 rfl) ?_
    refine lv_iconst (v := 1) hx hb dL_law_1174 (by decide) ?_
    refine lv_iadd hx hb dL_law_1175 ?_
    refine lv_topi (fun x_74 e_75 => ?_)
    have i_76 : x_74.toInt = (x3).toInt + 1 := ia_add e_75 rfl (by decide) (by omega) (by omega)
    refine va_sld hx hb hX hbl hbA h.2 (vp_of i_76 (by omega) (by omega)) dL_law_1176 ?_
    refine lv_topi (fun x_77 e_78 => ?_)
    have s_79 : x_4 = x_77 := by rw [e_5, e_78, show x_1 = x_74 from (fa_eq _ _).mpr ((i_3).trans (i_76).symm)]
    subst s_79
    refine lv_aload_n hx hb dL_law_1177 rfl (lv_at hl 0 rfl) ?_
    refine lv_iload_n hx hb dL_law_1178 rfl (lv_at hl 3 rfl) ?_
    refine lv_iconst (v := 2) hx hb dL_law_1179 (by decide) ?_
    refine lv_iadd hx hb dL_law_1180 ?_
    refine lv_topi (fun x_80 e_81 => ?_)
    have i_82 : x_80.toInt = (x3).toInt + 2 := ia_add e_81 rfl (by decide) (by omega) (by omega)
    refine va_sld hx hb hX hbl hbA h.2 (vp_of i_82 (by omega) (by omega)) dL_law_1181 ?_
    refine lv_topi (fun x_83 e_84 => ?_)
    have s_85 : x_9 = x_83 := by rw [e_10, e_84, show x_6 = x_80 from (fa_eq _ _).mpr ((i_8).trans (i_82).symm)]
    subst s_85
    refine lv_if_eq (tgt := 1189) hx hb dL_law_1182 (by decide) (fun c_86 => ?_) (fun c_86 => ?_)
    · have j_87 : (x_9).toInt = 0 := (i_eq rfl (by decide)).mp c_86
      refine lv_iconst (v := 0) hx hb dL_law_1189 (by decide) ?_
      refine lv_aload_n hx hb dL_law_1190 rfl (lv_at hl 0 rfl) ?_
      refine lv_iload_n hx hb dL_law_1191 rfl (lv_at hl 3 rfl) ?_
      refine lv_iconst (v := 3) hx hb dL_law_1192 (by decide) ?_
      refine lv_iadd hx hb dL_law_1193 ?_
      refine lv_topi (fun x_88 e_89 => ?_)
      have i_90 : x_88.toInt = (x3).toInt + 3 := ia_add e_89 rfl (by decide) (by omega) (by omega)
      refine va_sld hx hb hX hbl hbA h.2 (vp_of i_90 (by omega) (by omega)) dL_law_1194 ?_
      refine lv_topi (fun x_91 e_92 => ?_)
      have s_93 : x_64 = x_91 := by rw [e_65, e_92, show x_61 = x_88 from (fa_eq _ _).mpr ((i_63).trans (i_90).symm)]
      subst s_93
      exfalso; omega
    · have j_87 : ¬ ((x_9).toInt = 0) := fun q => c_86 ((i_eq rfl (by decide)).mpr q)
      refine lv_iconst (v := 1) hx hb dL_law_1185 (by decide) ?_
      refine lv_goto (tgt := 1190) hx hb dL_law_1186 (by decide) ?_
      refine lv_aload_n hx hb dL_law_1190 rfl (lv_at hl 0 rfl) ?_
      refine lv_iload_n hx hb dL_law_1191 rfl (lv_at hl 3 rfl) ?_
      refine lv_iconst (v := 3) hx hb dL_law_1192 (by decide) ?_
      refine lv_iadd hx hb dL_law_1193 ?_
      refine lv_topi (fun x_94 e_95 => ?_)
      have i_96 : x_94.toInt = (x3).toInt + 3 := ia_add e_95 rfl (by decide) (by omega) (by omega)
      refine va_sld hx hb hX hbl hbA h.2 (vp_of i_96 (by omega) (by omega)) dL_law_1194 ?_
      refine lv_topi (fun x_97 e_98 => ?_)
      have s_99 : x_64 = x_97 := by rw [e_65, e_98, show x_61 = x_94 from (fa_eq _ _).mpr ((i_63).trans (i_96).symm)]
      subst s_99
      refine g_calli C (va_runV (As := [.int (x_4), .int (1), .int (x_64)]) (rest := []) C.1 (c_X10_press l G v_68 w sg x_4 (A1 := (x_4).toInt) rfl (1) (A2 := 1) (by decide) x_64 (A3 := (x_64).toInt) rfl u_73) (cwV 3 hts gL_law_X10_press rfl rfl rfl (by decide +kernel) ⟨by rw [hR]; exact Nat.le_of_ble_eq_true rfl, by rw [hR]; exact Nat.le_of_ble_eq_true rfl⟩) ⟨gPre_blind, g_recv C h 106 (by decide) (ci := 10) rfl rfl, gS_pre C h _⟩ rfl rfl hl.1 rfl (lv_room (Nat.le_of_ble_eq_true rfl)) dL_law_1195 hcs) h (fun r_100 v_102 w_103 g_104 H locs p_101 h => ?_)
      obtain ⟨p_101, rfl, rfl⟩ := p_101
      have u_105 := cI_fM u_71 p_101.2.1 (by decide)
      have u_106 := u_72
      have u_107 := p_101.1
      have hrl_108 := pr_press rfl (by decide) rfl (by decide) rl ci mi p_67 p_101
      refine lv_pop hx hb dL_law_1198 rfl ?_
      refine lv_goto (tgt := 1423) hx hb dL_law_1199 (by decide) ?_
      exact K v_102 w sg _ _ _ u_105 u_106 u_107 hrl_108.2 h (lv_sub hl [0, 1, 2, 3] rfl)

set_option maxHeartbeats 4000000 in
set_option maxRecDepth 100000 in
theorem lc_28 {p : Program} {l : Launch} {e : Env} {R : Room} {s : State} {m : MethodId} {args : Array Value} {below : List Frame} {meth : Method} {c : Code} {H : Heap} {locs : List Loc} {cells slots : Nat} {Q : State → Prop} {ls : Array Slot} {A : Nat → Prop} {G : gG} {v : Nat → Nat → Int32} {w : Nat → Nat → Int64} {sg : Nat → Nat} {b L : Nat} {xs : Nat → Int32} {x3 : Int32}
    (C : gC p s m c code 4 args wsL_law RL A G) (hR : R = room_1) (hcs : cells ≤ R.cells ∧ slots ≤ R.slots) (hX : va_X b L xs s s.heap) (hbl : b < s.heap.size) (hbA : ¬ A b) (hi3 : 0 ≤ x3.toInt ∧ x3.toInt + 7 ≤ (L : Int)) (hL : L ≤ 3584) (ci : cI v) (cg : cG sg) (mi : mI v) (rl : Rl v) (h : gS A G s v w sg H locs) (hl : lv_has ls 4 [(0, .ref b), (1, .ref (G.2.2 (0))), (2, .ref (G.2.2 (106))), (3, .int (x3))])
    (K : ∀ (v : Nat → Nat → Int32) (w : Nat → Nat → Int64) (sg : Nat → Nat) (H : Heap) (locs : List Loc) (ls : Array Slot), cI v → cG sg → mI v → Rl v → gS A G s v w sg H locs → lv_has ls 4 [(0, .ref b), (1, .ref (G.2.2 (0))), (2, .ref (G.2.2 (106))), (3, .int (x3))] → W p l e R s m args below meth c H locs cells slots Q (F0 m 1423 ls [])) : W p l e R s m args below meth c H locs cells slots Q (F0 m 1202 ls []) := by
  have hx := C.1.1
  have hb := C.1.2.1
  have hown := C.1.2.2.2.1
  have hts := C.1.2.2.2.2
  have z_0 : (0 : Int32).toInt = 0 := by decide
  have z_1 : (1 : Int32).toInt = 1 := by decide
  have z_2 : (2 : Int32).toInt = 2 := by decide
  have z_3 : (3 : Int32).toInt = 3 := by decide
  refine lv_aload_n hx hb dL_law_1202 rfl (lv_at hl 1 rfl) ?_
  refine lv_aload_n hx hb dL_law_1203 rfl (lv_at hl 0 rfl) ?_
  refine lv_iload_n hx hb dL_law_1204 rfl (lv_at hl 3 rfl) ?_
  refine lv_iconst (v := 1) hx hb dL_law_1205 (by decide) ?_
  refine lv_iadd hx hb dL_law_1206 ?_
  refine lv_topi (fun x_1 e_2 => ?_)
  have i_3 : x_1.toInt = (x3).toInt + 1 := ia_add e_2 rfl (by decide) (by omega) (by omega)
  refine va_sld hx hb hX hbl hbA h.2 (vp_of i_3 (by omega) (by omega)) dL_law_1207 ?_
  refine lv_topi (fun x_4 e_5 => ?_)
  refine lv_aload_n hx hb dL_law_1208 rfl (lv_at hl 0 rfl) ?_
  refine lv_iload_n hx hb dL_law_1209 rfl (lv_at hl 3 rfl) ?_
  refine lv_iconst (v := 2) hx hb dL_law_1210 (by decide) ?_
  refine lv_iadd hx hb dL_law_1211 ?_
  refine lv_topi (fun x_6 e_7 => ?_)
  have i_8 : x_6.toInt = (x3).toInt + 2 := ia_add e_7 rfl (by decide) (by omega) (by omega)
  refine va_sld hx hb hX hbl hbA h.2 (vp_of i_8 (by omega) (by omega)) dL_law_1212 ?_
  refine lv_topi (fun x_9 e_10 => ?_)
  refine lv_aload_n hx hb dL_law_1213 rfl (lv_at hl 0 rfl) ?_
  refine lv_iload_n hx hb dL_law_1214 rfl (lv_at hl 3 rfl) ?_
  refine lv_iconst (v := 3) hx hb dL_law_1215 (by decide) ?_
  refine lv_iadd hx hb dL_law_1216 ?_
  refine lv_topi (fun x_11 e_12 => ?_)
  have i_13 : x_11.toInt = (x3).toInt + 3 := ia_add e_12 rfl (by decide) (by omega) (by omega)
  refine va_sld hx hb hX hbl hbA h.2 (vp_of i_13 (by omega) (by omega)) dL_law_1217 ?_
  refine lv_topi (fun x_14 e_15 => ?_)
  refine g_calli C (va_runV (As := [.int (x_4), .int (x_9), .int (x_14)]) (rest := []) C.1 (c_X9_sheet l G v w sg x_4 (A1 := (x_4).toInt) rfl x_9 (A2 := (x_9).toInt) rfl x_14 (A3 := (x_14).toInt) rfl ci) (cwV 3 hts gL_law_X9_sheet rfl rfl rfl (by decide +kernel) ⟨by rw [hR]; exact Nat.le_of_ble_eq_true rfl, by rw [hR]; exact Nat.le_of_ble_eq_true rfl⟩) ⟨gPre_blind, g_recv C h 0 (by decide) (ci := 9) rfl rfl, gS_pre C h _⟩ rfl rfl hl.1 rfl (lv_room (Nat.le_of_ble_eq_true rfl)) dL_law_1218 hcs) h (fun r_16 v_18 w_19 g_20 H locs p_17 h => ?_)
  obtain ⟨p_17, rfl, rfl⟩ := p_17
  have u_21 := p_17.1
  have u_22 := cg
  have u_23 := mI_fC mi p_17.2.1 (by decide)
  refine lv_pop hx hb dL_law_1221 rfl ?_
  refine lv_aload_n hx hb dL_law_1222 rfl (lv_at hl 2 rfl) ?_
  refine lv_aload_n hx hb dL_law_1223 rfl (lv_at hl 0 rfl) ?_
  refine lv_iload_n hx hb dL_law_1224 rfl (lv_at hl 3 rfl) ?_
  refine lv_iconst (v := 1) hx hb dL_law_1225 (by decide) ?_
  refine lv_iadd hx hb dL_law_1226 ?_
  refine lv_topi (fun x_24 e_25 => ?_)
  have i_26 : x_24.toInt = (x3).toInt + 1 := ia_add e_25 rfl (by decide) (by omega) (by omega)
  refine va_sld hx hb hX hbl hbA h.2 (vp_of i_26 (by omega) (by omega)) dL_law_1227 ?_
  refine lv_topi (fun x_27 e_28 => ?_)
  have s_29 : x_4 = x_27 := by rw [e_5, e_28, show x_1 = x_24 from (fa_eq _ _).mpr ((i_3).trans (i_26).symm)]
  subst s_29
  refine lv_aload_n hx hb dL_law_1228 rfl (lv_at hl 0 rfl) ?_
  refine lv_iload_n hx hb dL_law_1229 rfl (lv_at hl 3 rfl) ?_
  refine lv_iconst (v := 2) hx hb dL_law_1230 (by decide) ?_
  refine lv_iadd hx hb dL_law_1231 ?_
  refine lv_topi (fun x_30 e_31 => ?_)
  have i_32 : x_30.toInt = (x3).toInt + 2 := ia_add e_31 rfl (by decide) (by omega) (by omega)
  refine va_sld hx hb hX hbl hbA h.2 (vp_of i_32 (by omega) (by omega)) dL_law_1232 ?_
  refine lv_topi (fun x_33 e_34 => ?_)
  have s_35 : x_9 = x_33 := by rw [e_10, e_34, show x_6 = x_30 from (fa_eq _ _).mpr ((i_8).trans (i_32).symm)]
  subst s_35
  refine lv_aload_n hx hb dL_law_1233 rfl (lv_at hl 0 rfl) ?_
  refine lv_iload_n hx hb dL_law_1234 rfl (lv_at hl 3 rfl) ?_
  refine lv_iconst (v := 3) hx hb dL_law_1235 (by decide) ?_
  refine lv_iadd hx hb dL_law_1236 ?_
  refine lv_topi (fun x_36 e_37 => ?_)
  have i_38 : x_36.toInt = (x3).toInt + 3 := ia_add e_37 rfl (by decide) (by omega) (by omega)
  refine va_sld hx hb hX hbl hbA h.2 (vp_of i_38 (by omega) (by omega)) dL_law_1237 ?_
  refine lv_topi (fun x_39 e_40 => ?_)
  have s_41 : x_14 = x_39 := by rw [e_15, e_40, show x_11 = x_36 from (fa_eq _ _).mpr ((i_13).trans (i_38).symm)]
  subst s_41
  refine g_calli C (va_runV (As := [.int (x_4), .int (x_9), .int (x_14)]) (rest := []) C.1 (c_X10_sheet l G v_18 w sg x_4 (A1 := (x_4).toInt) rfl x_9 (A2 := (x_9).toInt) rfl x_14 (A3 := (x_14).toInt) rfl u_23) (cwV 3 hts gL_law_X10_sheet rfl rfl rfl (by decide +kernel) ⟨by rw [hR]; exact Nat.le_of_ble_eq_true rfl, by rw [hR]; exact Nat.le_of_ble_eq_true rfl⟩) ⟨gPre_blind, g_recv C h 106 (by decide) (ci := 10) rfl rfl, gS_pre C h _⟩ rfl rfl hl.1 rfl (lv_room (Nat.le_of_ble_eq_true rfl)) dL_law_1238 hcs) h (fun r_42 v_44 w_45 g_46 H locs p_43 h => ?_)
  obtain ⟨p_43, rfl, rfl⟩ := p_43
  have u_47 := cI_fM u_21 p_43.2.1 (by decide)
  have u_48 := u_22
  have u_49 := p_43.1
  have hrl_50 := pr_sheet rfl rfl rfl rl ci mi p_17 p_43
  refine lv_pop hx hb dL_law_1241 rfl ?_
  refine lv_goto (tgt := 1423) hx hb dL_law_1242 (by decide) ?_
  exact K v_44 w sg _ _ _ u_47 u_48 u_49 hrl_50.2 h (lv_sub hl [0, 1, 2, 3] rfl)

set_option maxHeartbeats 4000000 in
set_option maxRecDepth 100000 in
theorem lc_29 {p : Program} {l : Launch} {e : Env} {R : Room} {s : State} {m : MethodId} {args : Array Value} {below : List Frame} {meth : Method} {c : Code} {H : Heap} {locs : List Loc} {cells slots : Nat} {Q : State → Prop} {ls : Array Slot} {A : Nat → Prop} {G : gG} {v : Nat → Nat → Int32} {w : Nat → Nat → Int64} {sg : Nat → Nat} {b L : Nat} {xs : Nat → Int32} {x3 : Int32}
    (C : gC p s m c code 4 args wsL_law RL A G) (hR : R = room_1) (hcs : cells ≤ R.cells ∧ slots ≤ R.slots) (hX : va_X b L xs s s.heap) (hbl : b < s.heap.size) (hbA : ¬ A b) (hi3 : 0 ≤ x3.toInt ∧ x3.toInt + 7 ≤ (L : Int)) (hL : L ≤ 3584) (ci : cI v) (cg : cG sg) (mi : mI v) (rl : Rl v) (h : gS A G s v w sg H locs) (hl : lv_has ls 4 [(0, .ref b), (1, .ref (G.2.2 (0))), (2, .ref (G.2.2 (106))), (3, .int (x3))])
    (K : ∀ (v : Nat → Nat → Int32) (w : Nat → Nat → Int64) (sg : Nat → Nat) (H : Heap) (locs : List Loc) (ls : Array Slot), cI v → cG sg → mI v → Rl v → gS A G s v w sg H locs → lv_has ls 4 [(0, .ref b), (1, .ref (G.2.2 (0))), (2, .ref (G.2.2 (106))), (3, .int (x3))] → W p l e R s m args below meth c H locs cells slots Q (F0 m 1423 ls [])) : W p l e R s m args below meth c H locs cells slots Q (F0 m 1245 ls []) := by
  have hx := C.1.1
  have hb := C.1.2.1
  have hown := C.1.2.2.2.1
  have hts := C.1.2.2.2.2
  have z_0 : (0 : Int32).toInt = 0 := by decide
  have z_1 : (1 : Int32).toInt = 1 := by decide
  have z_2 : (2 : Int32).toInt = 2 := by decide
  have z_3 : (3 : Int32).toInt = 3 := by decide
  refine lv_aload_n hx hb dL_law_1245 rfl (lv_at hl 1 rfl) ?_
  refine lv_aload_n hx hb dL_law_1246 rfl (lv_at hl 0 rfl) ?_
  refine lv_iload_n hx hb dL_law_1247 rfl (lv_at hl 3 rfl) ?_
  refine lv_iconst (v := 1) hx hb dL_law_1248 (by decide) ?_
  refine lv_iadd hx hb dL_law_1249 ?_
  refine lv_topi (fun x_1 e_2 => ?_)
  have i_3 : x_1.toInt = (x3).toInt + 1 := ia_add e_2 rfl (by decide) (by omega) (by omega)
  refine va_sld hx hb hX hbl hbA h.2 (vp_of i_3 (by omega) (by omega)) dL_law_1250 ?_
  refine lv_topi (fun x_4 e_5 => ?_)
  refine lv_aload_n hx hb dL_law_1251 rfl (lv_at hl 0 rfl) ?_
  refine lv_iload_n hx hb dL_law_1252 rfl (lv_at hl 3 rfl) ?_
  refine lv_iconst (v := 2) hx hb dL_law_1253 (by decide) ?_
  refine lv_iadd hx hb dL_law_1254 ?_
  refine lv_topi (fun x_6 e_7 => ?_)
  have i_8 : x_6.toInt = (x3).toInt + 2 := ia_add e_7 rfl (by decide) (by omega) (by omega)
  refine va_sld hx hb hX hbl hbA h.2 (vp_of i_8 (by omega) (by omega)) dL_law_1255 ?_
  refine lv_topi (fun x_9 e_10 => ?_)
  refine lv_aload_n hx hb dL_law_1256 rfl (lv_at hl 0 rfl) ?_
  refine lv_iload_n hx hb dL_law_1257 rfl (lv_at hl 3 rfl) ?_
  refine lv_iconst (v := 3) hx hb dL_law_1258 (by decide) ?_
  refine lv_iadd hx hb dL_law_1259 ?_
  refine lv_topi (fun x_11 e_12 => ?_)
  have i_13 : x_11.toInt = (x3).toInt + 3 := ia_add e_12 rfl (by decide) (by omega) (by omega)
  refine va_sld hx hb hX hbl hbA h.2 (vp_of i_13 (by omega) (by omega)) dL_law_1260 ?_
  refine lv_topi (fun x_14 e_15 => ?_)
  refine g_calli C (va_runV (As := [.int (x_4), .int (x_9), .int (x_14)]) (rest := []) C.1 (c_X9_lay l G v w sg x_4 (A1 := (x_4).toInt) rfl x_9 (A2 := (x_9).toInt) rfl x_14 (A3 := (x_14).toInt) rfl ci) (cwV 3 hts gL_law_X9_lay rfl rfl rfl (by decide +kernel) ⟨by rw [hR]; exact Nat.le_of_ble_eq_true rfl, by rw [hR]; exact Nat.le_of_ble_eq_true rfl⟩) ⟨gPre_blind, g_recv C h 0 (by decide) (ci := 9) rfl rfl, gS_pre C h _⟩ rfl rfl hl.1 rfl (lv_room (Nat.le_of_ble_eq_true rfl)) dL_law_1261 hcs) h (fun r_16 v_18 w_19 g_20 H locs p_17 h => ?_)
  obtain ⟨p_17, rfl, rfl⟩ := p_17
  have u_21 := p_17.1
  have u_22 := cg
  have u_23 := mI_fC mi p_17.2.1 (by decide)
  refine lv_pop hx hb dL_law_1264 rfl ?_
  refine lv_aload_n hx hb dL_law_1265 rfl (lv_at hl 2 rfl) ?_
  refine lv_aload_n hx hb dL_law_1266 rfl (lv_at hl 0 rfl) ?_
  refine lv_iload_n hx hb dL_law_1267 rfl (lv_at hl 3 rfl) ?_
  refine lv_iconst (v := 1) hx hb dL_law_1268 (by decide) ?_
  refine lv_iadd hx hb dL_law_1269 ?_
  refine lv_topi (fun x_24 e_25 => ?_)
  have i_26 : x_24.toInt = (x3).toInt + 1 := ia_add e_25 rfl (by decide) (by omega) (by omega)
  refine va_sld hx hb hX hbl hbA h.2 (vp_of i_26 (by omega) (by omega)) dL_law_1270 ?_
  refine lv_topi (fun x_27 e_28 => ?_)
  have s_29 : x_4 = x_27 := by rw [e_5, e_28, show x_1 = x_24 from (fa_eq _ _).mpr ((i_3).trans (i_26).symm)]
  subst s_29
  refine lv_aload_n hx hb dL_law_1271 rfl (lv_at hl 0 rfl) ?_
  refine lv_iload_n hx hb dL_law_1272 rfl (lv_at hl 3 rfl) ?_
  refine lv_iconst (v := 2) hx hb dL_law_1273 (by decide) ?_
  refine lv_iadd hx hb dL_law_1274 ?_
  refine lv_topi (fun x_30 e_31 => ?_)
  have i_32 : x_30.toInt = (x3).toInt + 2 := ia_add e_31 rfl (by decide) (by omega) (by omega)
  refine va_sld hx hb hX hbl hbA h.2 (vp_of i_32 (by omega) (by omega)) dL_law_1275 ?_
  refine lv_topi (fun x_33 e_34 => ?_)
  have s_35 : x_9 = x_33 := by rw [e_10, e_34, show x_6 = x_30 from (fa_eq _ _).mpr ((i_8).trans (i_32).symm)]
  subst s_35
  refine lv_aload_n hx hb dL_law_1276 rfl (lv_at hl 0 rfl) ?_
  refine lv_iload_n hx hb dL_law_1277 rfl (lv_at hl 3 rfl) ?_
  refine lv_iconst (v := 3) hx hb dL_law_1278 (by decide) ?_
  refine lv_iadd hx hb dL_law_1279 ?_
  refine lv_topi (fun x_36 e_37 => ?_)
  have i_38 : x_36.toInt = (x3).toInt + 3 := ia_add e_37 rfl (by decide) (by omega) (by omega)
  refine va_sld hx hb hX hbl hbA h.2 (vp_of i_38 (by omega) (by omega)) dL_law_1280 ?_
  refine lv_topi (fun x_39 e_40 => ?_)
  have s_41 : x_14 = x_39 := by rw [e_15, e_40, show x_11 = x_36 from (fa_eq _ _).mpr ((i_13).trans (i_38).symm)]
  subst s_41
  refine g_calli C (va_runV (As := [.int (x_4), .int (x_9), .int (x_14)]) (rest := []) C.1 (c_X10_lay l G v_18 w sg x_4 (A1 := (x_4).toInt) rfl x_9 (A2 := (x_9).toInt) rfl x_14 (A3 := (x_14).toInt) rfl u_23) (cwV 3 hts gL_law_X10_lay rfl rfl rfl (by decide +kernel) ⟨by rw [hR]; exact Nat.le_of_ble_eq_true rfl, by rw [hR]; exact Nat.le_of_ble_eq_true rfl⟩) ⟨gPre_blind, g_recv C h 106 (by decide) (ci := 10) rfl rfl, gS_pre C h _⟩ rfl rfl hl.1 rfl (lv_room (Nat.le_of_ble_eq_true rfl)) dL_law_1281 hcs) h (fun r_42 v_44 w_45 g_46 H locs p_43 h => ?_)
  obtain ⟨p_43, rfl, rfl⟩ := p_43
  have u_47 := cI_fM u_21 p_43.2.1 (by decide)
  have u_48 := u_22
  have u_49 := p_43.1
  have hrl_50 := pr_lay rfl rfl rfl rl ci mi p_17 p_43
  refine lv_pop hx hb dL_law_1284 rfl ?_
  refine lv_goto (tgt := 1423) hx hb dL_law_1285 (by decide) ?_
  exact K v_44 w sg _ _ _ u_47 u_48 u_49 hrl_50.2 h (lv_sub hl [0, 1, 2, 3] rfl)

set_option maxHeartbeats 4000000 in
set_option maxRecDepth 100000 in
theorem lc_30 {p : Program} {l : Launch} {e : Env} {R : Room} {s : State} {m : MethodId} {args : Array Value} {below : List Frame} {meth : Method} {c : Code} {H : Heap} {locs : List Loc} {cells slots : Nat} {Q : State → Prop} {ls : Array Slot} {A : Nat → Prop} {G : gG} {v : Nat → Nat → Int32} {w : Nat → Nat → Int64} {sg : Nat → Nat} {b L : Nat} {xs : Nat → Int32} {x3 : Int32}
    (C : gC p s m c code 4 args wsL_law RL A G) (hR : R = room_1) (hcs : cells ≤ R.cells ∧ slots ≤ R.slots) (hX : va_X b L xs s s.heap) (hbl : b < s.heap.size) (hbA : ¬ A b) (hi3 : 0 ≤ x3.toInt ∧ x3.toInt + 7 ≤ (L : Int)) (hL : L ≤ 3584) (ci : cI v) (cg : cG sg) (mi : mI v) (rl : Rl v) (h : gS A G s v w sg H locs) (hl : lv_has ls 4 [(0, .ref b), (1, .ref (G.2.2 (0))), (2, .ref (G.2.2 (106))), (3, .int (x3))])
    (K : ∀ (v : Nat → Nat → Int32) (w : Nat → Nat → Int64) (sg : Nat → Nat) (H : Heap) (locs : List Loc) (ls : Array Slot), cI v → cG sg → mI v → Rl v → gS A G s v w sg H locs → lv_has ls 4 [(0, .ref b), (1, .ref (G.2.2 (0))), (2, .ref (G.2.2 (106))), (3, .int (x3))] → W p l e R s m args below meth c H locs cells slots Q (F0 m 1423 ls [])) : W p l e R s m args below meth c H locs cells slots Q (F0 m 1288 ls []) := by
  have hx := C.1.1
  have hb := C.1.2.1
  have hown := C.1.2.2.2.1
  have hts := C.1.2.2.2.2
  have z_0 : (0 : Int32).toInt = 0 := by decide
  have z_1 : (1 : Int32).toInt = 1 := by decide
  have z_2 : (2 : Int32).toInt = 2 := by decide
  have z_3 : (3 : Int32).toInt = 3 := by decide
  refine lv_aload_n hx hb dL_law_1288 rfl (lv_at hl 1 rfl) ?_
  refine lv_aload_n hx hb dL_law_1289 rfl (lv_at hl 0 rfl) ?_
  refine lv_iload_n hx hb dL_law_1290 rfl (lv_at hl 3 rfl) ?_
  refine lv_iconst (v := 1) hx hb dL_law_1291 (by decide) ?_
  refine lv_iadd hx hb dL_law_1292 ?_
  refine lv_topi (fun x_1 e_2 => ?_)
  have i_3 : x_1.toInt = (x3).toInt + 1 := ia_add e_2 rfl (by decide) (by omega) (by omega)
  refine va_sld hx hb hX hbl hbA h.2 (vp_of i_3 (by omega) (by omega)) dL_law_1293 ?_
  refine lv_topi (fun x_4 e_5 => ?_)
  refine lv_aload_n hx hb dL_law_1294 rfl (lv_at hl 0 rfl) ?_
  refine lv_iload_n hx hb dL_law_1295 rfl (lv_at hl 3 rfl) ?_
  refine lv_iconst (v := 2) hx hb dL_law_1296 (by decide) ?_
  refine lv_iadd hx hb dL_law_1297 ?_
  refine lv_topi (fun x_6 e_7 => ?_)
  have i_8 : x_6.toInt = (x3).toInt + 2 := ia_add e_7 rfl (by decide) (by omega) (by omega)
  refine va_sld hx hb hX hbl hbA h.2 (vp_of i_8 (by omega) (by omega)) dL_law_1298 ?_
  refine lv_topi (fun x_9 e_10 => ?_)
  refine lv_aload_n hx hb dL_law_1299 rfl (lv_at hl 0 rfl) ?_
  refine lv_iload_n hx hb dL_law_1300 rfl (lv_at hl 3 rfl) ?_
  refine lv_iconst (v := 3) hx hb dL_law_1301 (by decide) ?_
  refine lv_iadd hx hb dL_law_1302 ?_
  refine lv_topi (fun x_11 e_12 => ?_)
  have i_13 : x_11.toInt = (x3).toInt + 3 := ia_add e_12 rfl (by decide) (by omega) (by omega)
  refine va_sld hx hb hX hbl hbA h.2 (vp_of i_13 (by omega) (by omega)) dL_law_1303 ?_
  refine lv_topi (fun x_14 e_15 => ?_)
  refine g_calli C (va_runV (As := [.int (x_4), .int (x_9), .int (x_14)]) (rest := []) C.1 (c_X9_scan l G v w sg x_4 (A1 := (x_4).toInt) rfl x_9 (A2 := (x_9).toInt) rfl x_14 (A3 := (x_14).toInt) rfl ci) (cwV 3 hts gL_law_X9_scan rfl rfl rfl (by decide +kernel) ⟨by rw [hR]; exact Nat.le_of_ble_eq_true rfl, by rw [hR]; exact Nat.le_of_ble_eq_true rfl⟩) ⟨gPre_blind, g_recv C h 0 (by decide) (ci := 9) rfl rfl, gS_pre C h _⟩ rfl rfl hl.1 rfl (lv_room (Nat.le_of_ble_eq_true rfl)) dL_law_1304 hcs) h (fun r_16 v_18 w_19 g_20 H locs p_17 h => ?_)
  obtain ⟨p_17, rfl, rfl⟩ := p_17
  have u_21 := p_17.1
  have u_22 := cg
  have u_23 := mI_fC mi p_17.2.1 (by decide)
  refine lv_pop hx hb dL_law_1307 rfl ?_
  refine lv_aload_n hx hb dL_law_1308 rfl (lv_at hl 2 rfl) ?_
  refine lv_aload_n hx hb dL_law_1309 rfl (lv_at hl 0 rfl) ?_
  refine lv_iload_n hx hb dL_law_1310 rfl (lv_at hl 3 rfl) ?_
  refine lv_iconst (v := 1) hx hb dL_law_1311 (by decide) ?_
  refine lv_iadd hx hb dL_law_1312 ?_
  refine lv_topi (fun x_24 e_25 => ?_)
  have i_26 : x_24.toInt = (x3).toInt + 1 := ia_add e_25 rfl (by decide) (by omega) (by omega)
  refine va_sld hx hb hX hbl hbA h.2 (vp_of i_26 (by omega) (by omega)) dL_law_1313 ?_
  refine lv_topi (fun x_27 e_28 => ?_)
  have s_29 : x_4 = x_27 := by rw [e_5, e_28, show x_1 = x_24 from (fa_eq _ _).mpr ((i_3).trans (i_26).symm)]
  subst s_29
  refine lv_aload_n hx hb dL_law_1314 rfl (lv_at hl 0 rfl) ?_
  refine lv_iload_n hx hb dL_law_1315 rfl (lv_at hl 3 rfl) ?_
  refine lv_iconst (v := 2) hx hb dL_law_1316 (by decide) ?_
  refine lv_iadd hx hb dL_law_1317 ?_
  refine lv_topi (fun x_30 e_31 => ?_)
  have i_32 : x_30.toInt = (x3).toInt + 2 := ia_add e_31 rfl (by decide) (by omega) (by omega)
  refine va_sld hx hb hX hbl hbA h.2 (vp_of i_32 (by omega) (by omega)) dL_law_1318 ?_
  refine lv_topi (fun x_33 e_34 => ?_)
  have s_35 : x_9 = x_33 := by rw [e_10, e_34, show x_6 = x_30 from (fa_eq _ _).mpr ((i_8).trans (i_32).symm)]
  subst s_35
  refine lv_aload_n hx hb dL_law_1319 rfl (lv_at hl 0 rfl) ?_
  refine lv_iload_n hx hb dL_law_1320 rfl (lv_at hl 3 rfl) ?_
  refine lv_iconst (v := 3) hx hb dL_law_1321 (by decide) ?_
  refine lv_iadd hx hb dL_law_1322 ?_
  refine lv_topi (fun x_36 e_37 => ?_)
  have i_38 : x_36.toInt = (x3).toInt + 3 := ia_add e_37 rfl (by decide) (by omega) (by omega)
  refine va_sld hx hb hX hbl hbA h.2 (vp_of i_38 (by omega) (by omega)) dL_law_1323 ?_
  refine lv_topi (fun x_39 e_40 => ?_)
  have s_41 : x_14 = x_39 := by rw [e_15, e_40, show x_11 = x_36 from (fa_eq _ _).mpr ((i_13).trans (i_38).symm)]
  subst s_41
  refine g_calli C (va_runV (As := [.int (x_4), .int (x_9), .int (x_14)]) (rest := []) C.1 (c_X10_scan l G v_18 w sg x_4 (A1 := (x_4).toInt) rfl x_9 (A2 := (x_9).toInt) rfl x_14 (A3 := (x_14).toInt) rfl u_23) (cwV 3 hts gL_law_X10_scan rfl rfl rfl (by decide +kernel) ⟨by rw [hR]; exact Nat.le_of_ble_eq_true rfl, by rw [hR]; exact Nat.le_of_ble_eq_true rfl⟩) ⟨gPre_blind, g_recv C h 106 (by decide) (ci := 10) rfl rfl, gS_pre C h _⟩ rfl rfl hl.1 rfl (lv_room (Nat.le_of_ble_eq_true rfl)) dL_law_1324 hcs) h (fun r_42 v_44 w_45 g_46 H locs p_43 h => ?_)
  obtain ⟨p_43, rfl, rfl⟩ := p_43
  have u_47 := cI_fM u_21 p_43.2.1 (by decide)
  have u_48 := u_22
  have u_49 := p_43.1
  have hrl_50 := pr_scan rfl rfl rfl rl ci mi p_17 p_43
  refine lv_pop hx hb dL_law_1327 rfl ?_
  refine lv_goto (tgt := 1423) hx hb dL_law_1328 (by decide) ?_
  exact K v_44 w sg _ _ _ u_47 u_48 u_49 hrl_50.2 h (lv_sub hl [0, 1, 2, 3] rfl)

set_option maxHeartbeats 4000000 in
set_option maxRecDepth 100000 in
theorem lc_31 {p : Program} {l : Launch} {e : Env} {R : Room} {s : State} {m : MethodId} {args : Array Value} {below : List Frame} {meth : Method} {c : Code} {H : Heap} {locs : List Loc} {cells slots : Nat} {Q : State → Prop} {ls : Array Slot} {A : Nat → Prop} {G : gG} {v : Nat → Nat → Int32} {w : Nat → Nat → Int64} {sg : Nat → Nat} {b L : Nat} {xs : Nat → Int32} {x3 : Int32}
    (C : gC p s m c code 4 args wsL_law RL A G) (hR : R = room_1) (hcs : cells ≤ R.cells ∧ slots ≤ R.slots) (hX : va_X b L xs s s.heap) (hbl : b < s.heap.size) (hbA : ¬ A b) (hi3 : 0 ≤ x3.toInt ∧ x3.toInt + 7 ≤ (L : Int)) (hL : L ≤ 3584) (ci : cI v) (cg : cG sg) (mi : mI v) (rl : Rl v) (h : gS A G s v w sg H locs) (hl : lv_has ls 4 [(0, .ref b), (1, .ref (G.2.2 (0))), (2, .ref (G.2.2 (106))), (3, .int (x3))])
    (K : ∀ (v : Nat → Nat → Int32) (w : Nat → Nat → Int64) (sg : Nat → Nat) (H : Heap) (locs : List Loc) (ls : Array Slot), cI v → cG sg → mI v → Rl v → gS A G s v w sg H locs → lv_has ls 4 [(0, .ref b), (1, .ref (G.2.2 (0))), (2, .ref (G.2.2 (106))), (3, .int (x3))] → W p l e R s m args below meth c H locs cells slots Q (F0 m 1423 ls [])) : W p l e R s m args below meth c H locs cells slots Q (F0 m 1331 ls []) := by
  have hx := C.1.1
  have hb := C.1.2.1
  have hown := C.1.2.2.2.1
  have hts := C.1.2.2.2.2
  have z_0 : (0 : Int32).toInt = 0 := by decide
  have z_1 : (1 : Int32).toInt = 1 := by decide
  refine lv_aload_n hx hb dL_law_1331 rfl (lv_at hl 1 rfl) ?_
  refine g_calli C (va_runV (As := []) (rest := []) C.1 (c_X9_force l G v w sg  ci) (cwV 0 hts gL_law_X9_force rfl rfl rfl (by decide +kernel) ⟨by rw [hR]; exact Nat.le_of_ble_eq_true rfl, by rw [hR]; exact Nat.le_of_ble_eq_true rfl⟩) ⟨gPre_blind, g_recv C h 0 (by decide) (ci := 9) rfl rfl, gS_pre C h _⟩ rfl rfl hl.1 rfl (lv_room (Nat.le_of_ble_eq_true rfl)) dL_law_1332 hcs) h (fun r_1 v_3 w_4 g_5 H locs p_2 h => ?_)
  obtain ⟨p_2, rfl, rfl, rfl⟩ := p_2
  refine lv_pop hx hb dL_law_1335 rfl ?_
  refine lv_aload_n hx hb dL_law_1336 rfl (lv_at hl 2 rfl) ?_
  refine g_calli C (va_runV (As := []) (rest := []) C.1 (c_X10_force l G v w sg  mi) (cwV 0 hts gL_law_X10_force rfl rfl rfl (by decide +kernel) ⟨by rw [hR]; exact Nat.le_of_ble_eq_true rfl, by rw [hR]; exact Nat.le_of_ble_eq_true rfl⟩) ⟨gPre_blind, g_recv C h 106 (by decide) (ci := 10) rfl rfl, gS_pre C h _⟩ rfl rfl hl.1 rfl (lv_room (Nat.le_of_ble_eq_true rfl)) dL_law_1337 hcs) h (fun r_6 v_8 w_9 g_10 H locs p_7 h => ?_)
  obtain ⟨p_7, rfl, rfl, rfl⟩ := p_7
  have hrl_11 := pr_force  rl ci mi p_2 p_7
  refine lv_pop hx hb dL_law_1340 rfl ?_
  refine lv_goto (tgt := 1423) hx hb dL_law_1341 (by decide) ?_
  exact K v w sg _ _ _ ci cg mi hrl_11.2 h (lv_sub hl [0, 1, 2, 3] rfl)

set_option maxHeartbeats 4000000 in
set_option maxRecDepth 100000 in
theorem lc_32 {p : Program} {l : Launch} {e : Env} {R : Room} {s : State} {m : MethodId} {args : Array Value} {below : List Frame} {meth : Method} {c : Code} {H : Heap} {locs : List Loc} {cells slots : Nat} {Q : State → Prop} {ls : Array Slot} {A : Nat → Prop} {G : gG} {v : Nat → Nat → Int32} {w : Nat → Nat → Int64} {sg : Nat → Nat} {b L : Nat} {xs : Nat → Int32} {x3 : Int32}
    (C : gC p s m c code 4 args wsL_law RL A G) (hR : R = room_1) (hcs : cells ≤ R.cells ∧ slots ≤ R.slots) (hX : va_X b L xs s s.heap) (hbl : b < s.heap.size) (hbA : ¬ A b) (hi3 : 0 ≤ x3.toInt ∧ x3.toInt + 7 ≤ (L : Int)) (hL : L ≤ 3584) (ci : cI v) (cg : cG sg) (mi : mI v) (rl : Rl v) (h : gS A G s v w sg H locs) (hl : lv_has ls 4 [(0, .ref b), (1, .ref (G.2.2 (0))), (2, .ref (G.2.2 (106))), (3, .int (x3))])
    (K : ∀ (v : Nat → Nat → Int32) (w : Nat → Nat → Int64) (sg : Nat → Nat) (H : Heap) (locs : List Loc) (ls : Array Slot), cI v → cG sg → mI v → Rl v → gS A G s v w sg H locs → lv_has ls 4 [(0, .ref b), (1, .ref (G.2.2 (0))), (2, .ref (G.2.2 (106))), (3, .int (x3))] → W p l e R s m args below meth c H locs cells slots Q (F0 m 1423 ls [])) : W p l e R s m args below meth c H locs cells slots Q (F0 m 1344 ls []) := by
  have hx := C.1.1
  have hb := C.1.2.1
  have hown := C.1.2.2.2.1
  have hts := C.1.2.2.2.2
  have z_0 : (0 : Int32).toInt = 0 := by decide
  have z_1 : (1 : Int32).toInt = 1 := by decide
  have z_2 : (2 : Int32).toInt = 2 := by decide
  refine lv_aload_n hx hb dL_law_1344 rfl (lv_at hl 1 rfl) ?_
  refine lv_aload_n hx hb dL_law_1345 rfl (lv_at hl 0 rfl) ?_
  refine lv_iload_n hx hb dL_law_1346 rfl (lv_at hl 3 rfl) ?_
  refine lv_iconst (v := 1) hx hb dL_law_1347 (by decide) ?_
  refine lv_iadd hx hb dL_law_1348 ?_
  refine lv_topi (fun x_1 e_2 => ?_)
  have i_3 : x_1.toInt = (x3).toInt + 1 := ia_add e_2 rfl (by decide) (by omega) (by omega)
  refine va_sld hx hb hX hbl hbA h.2 (vp_of i_3 (by omega) (by omega)) dL_law_1349 ?_
  refine lv_topi (fun x_4 e_5 => ?_)
  refine lv_aload_n hx hb dL_law_1350 rfl (lv_at hl 0 rfl) ?_
  refine lv_iload_n hx hb dL_law_1351 rfl (lv_at hl 3 rfl) ?_
  refine lv_iconst (v := 2) hx hb dL_law_1352 (by decide) ?_
  refine lv_iadd hx hb dL_law_1353 ?_
  refine lv_topi (fun x_6 e_7 => ?_)
  have i_8 : x_6.toInt = (x3).toInt + 2 := ia_add e_7 rfl (by decide) (by omega) (by omega)
  refine va_sld hx hb hX hbl hbA h.2 (vp_of i_8 (by omega) (by omega)) dL_law_1354 ?_
  refine lv_topi (fun x_9 e_10 => ?_)
  refine g_calli C (va_runV (As := [.int (x_4), .int (x_9)]) (rest := []) C.1 (c_X9_check l G v w sg x_4 (A1 := (x_4).toInt) rfl x_9 (A2 := (x_9).toInt) rfl (bp_of rl) ci) (cwV 2 hts gL_law_X9_check rfl rfl rfl (by decide +kernel) ⟨by rw [hR]; exact Nat.le_of_ble_eq_true rfl, by rw [hR]; exact Nat.le_of_ble_eq_true rfl⟩) ⟨gPre_blind, g_recv C h 0 (by decide) (ci := 9) rfl rfl, gS_pre C h _⟩ rfl rfl hl.1 rfl (lv_room (Nat.le_of_ble_eq_true rfl)) dL_law_1355 hcs) h (fun r_11 v_13 w_14 g_15 H locs p_12 h => ?_)
  obtain ⟨p_12, rfl, rfl, rfl⟩ := p_12
  refine lv_pop hx hb dL_law_1358 rfl ?_
  refine lv_aload_n hx hb dL_law_1359 rfl (lv_at hl 2 rfl) ?_
  refine lv_aload_n hx hb dL_law_1360 rfl (lv_at hl 0 rfl) ?_
  refine lv_iload_n hx hb dL_law_1361 rfl (lv_at hl 3 rfl) ?_
  refine lv_iconst (v := 1) hx hb dL_law_1362 (by decide) ?_
  refine lv_iadd hx hb dL_law_1363 ?_
  refine lv_topi (fun x_16 e_17 => ?_)
  have i_18 : x_16.toInt = (x3).toInt + 1 := ia_add e_17 rfl (by decide) (by omega) (by omega)
  refine va_sld hx hb hX hbl hbA h.2 (vp_of i_18 (by omega) (by omega)) dL_law_1364 ?_
  refine lv_topi (fun x_19 e_20 => ?_)
  have s_21 : x_4 = x_19 := by rw [e_5, e_20, show x_1 = x_16 from (fa_eq _ _).mpr ((i_3).trans (i_18).symm)]
  subst s_21
  refine lv_aload_n hx hb dL_law_1365 rfl (lv_at hl 0 rfl) ?_
  refine lv_iload_n hx hb dL_law_1366 rfl (lv_at hl 3 rfl) ?_
  refine lv_iconst (v := 2) hx hb dL_law_1367 (by decide) ?_
  refine lv_iadd hx hb dL_law_1368 ?_
  refine lv_topi (fun x_22 e_23 => ?_)
  have i_24 : x_22.toInt = (x3).toInt + 2 := ia_add e_23 rfl (by decide) (by omega) (by omega)
  refine va_sld hx hb hX hbl hbA h.2 (vp_of i_24 (by omega) (by omega)) dL_law_1369 ?_
  refine lv_topi (fun x_25 e_26 => ?_)
  have s_27 : x_9 = x_25 := by rw [e_10, e_26, show x_6 = x_22 from (fa_eq _ _).mpr ((i_8).trans (i_24).symm)]
  subst s_27
  refine g_calli C (va_runV (As := [.int (x_4), .int (x_9)]) (rest := []) C.1 (c_X10_check l G v w sg x_4 (A1 := (x_4).toInt) rfl x_9 (A2 := (x_9).toInt) rfl (bm_of rl) mi) (cwV 2 hts gL_law_X10_check rfl rfl rfl (by decide +kernel) ⟨by rw [hR]; exact Nat.le_of_ble_eq_true rfl, by rw [hR]; exact Nat.le_of_ble_eq_true rfl⟩) ⟨gPre_blind, g_recv C h 106 (by decide) (ci := 10) rfl rfl, gS_pre C h _⟩ rfl rfl hl.1 rfl (lv_room (Nat.le_of_ble_eq_true rfl)) dL_law_1370 hcs) h (fun r_28 v_30 w_31 g_32 H locs p_29 h => ?_)
  obtain ⟨p_29, rfl, rfl, rfl⟩ := p_29
  have hrl_33 := pr_check rfl rfl rl ci mi p_12 p_29
  refine lv_pop hx hb dL_law_1373 rfl ?_
  refine lv_goto (tgt := 1423) hx hb dL_law_1374 (by decide) ?_
  exact K v w sg _ _ _ ci cg mi hrl_33.2 h (lv_sub hl [0, 1, 2, 3] rfl)

set_option maxHeartbeats 4000000 in
set_option maxRecDepth 100000 in
theorem lc_33 {p : Program} {l : Launch} {e : Env} {R : Room} {s : State} {m : MethodId} {args : Array Value} {below : List Frame} {meth : Method} {c : Code} {H : Heap} {locs : List Loc} {cells slots : Nat} {Q : State → Prop} {ls : Array Slot} {A : Nat → Prop} {G : gG} {v : Nat → Nat → Int32} {w : Nat → Nat → Int64} {sg : Nat → Nat} {b L : Nat} {xs : Nat → Int32} {x3 : Int32}
    (C : gC p s m c code 4 args wsL_law RL A G) (hR : R = room_1) (hcs : cells ≤ R.cells ∧ slots ≤ R.slots) (hX : va_X b L xs s s.heap) (hbl : b < s.heap.size) (hbA : ¬ A b) (hi3 : 0 ≤ x3.toInt ∧ x3.toInt + 7 ≤ (L : Int)) (hL : L ≤ 3584) (ci : cI v) (cg : cG sg) (mi : mI v) (rl : Rl v) (h : gS A G s v w sg H locs) (hl : lv_has ls 4 [(0, .ref b), (1, .ref (G.2.2 (0))), (2, .ref (G.2.2 (106))), (3, .int (x3))])
    (K : ∀ (v : Nat → Nat → Int32) (w : Nat → Nat → Int64) (sg : Nat → Nat) (H : Heap) (locs : List Loc) (ls : Array Slot), cI v → cG sg → mI v → Rl v → gS A G s v w sg H locs → lv_has ls 4 [(0, .ref b), (1, .ref (G.2.2 (0))), (2, .ref (G.2.2 (106))), (3, .int (x3))] → W p l e R s m args below meth c H locs cells slots Q (F0 m 1423 ls [])) : W p l e R s m args below meth c H locs cells slots Q (F0 m 1377 ls []) := by
  have hx := C.1.1
  have hb := C.1.2.1
  have hown := C.1.2.2.2.1
  have hts := C.1.2.2.2.2
  have z_0 : (0 : Int32).toInt = 0 := by decide
  have z_1 : (1 : Int32).toInt = 1 := by decide
  refine lv_aload_n hx hb dL_law_1377 rfl (lv_at hl 1 rfl) ?_
  refine lv_aload_n hx hb dL_law_1378 rfl (lv_at hl 0 rfl) ?_
  refine lv_iload_n hx hb dL_law_1379 rfl (lv_at hl 3 rfl) ?_
  refine lv_iconst (v := 1) hx hb dL_law_1380 (by decide) ?_
  refine lv_iadd hx hb dL_law_1381 ?_
  refine lv_topi (fun x_1 e_2 => ?_)
  have i_3 : x_1.toInt = (x3).toInt + 1 := ia_add e_2 rfl (by decide) (by omega) (by omega)
  refine va_sld hx hb hX hbl hbA h.2 (vp_of i_3 (by omega) (by omega)) dL_law_1382 ?_
  refine lv_topi (fun x_4 e_5 => ?_)
  refine g_calli C (va_runV (As := [.int (x_4)]) (rest := []) C.1 (c_X9_fill l G v w sg x_4 (A1 := (x_4).toInt) rfl (bp_of rl) ci) (cwV 1 hts gL_law_X9_fill rfl rfl rfl (by decide +kernel) ⟨by rw [hR]; exact Nat.le_of_ble_eq_true rfl, by rw [hR]; exact Nat.le_of_ble_eq_true rfl⟩) ⟨gPre_blind, g_recv C h 0 (by decide) (ci := 9) rfl rfl, gS_pre C h _⟩ rfl rfl hl.1 rfl (lv_room (Nat.le_of_ble_eq_true rfl)) dL_law_1383 hcs) h (fun r_6 v_8 w_9 g_10 H locs p_7 h => ?_)
  obtain ⟨p_7, rfl, rfl, rfl⟩ := p_7
  refine lv_aload_n hx hb dL_law_1386 rfl (lv_at hl 2 rfl) ?_
  refine lv_aload_n hx hb dL_law_1387 rfl (lv_at hl 0 rfl) ?_
  refine lv_iload_n hx hb dL_law_1388 rfl (lv_at hl 3 rfl) ?_
  refine lv_iconst (v := 1) hx hb dL_law_1389 (by decide) ?_
  refine lv_iadd hx hb dL_law_1390 ?_
  refine lv_topi (fun x_11 e_12 => ?_)
  have i_13 : x_11.toInt = (x3).toInt + 1 := ia_add e_12 rfl (by decide) (by omega) (by omega)
  refine va_sld hx hb hX hbl hbA h.2 (vp_of i_13 (by omega) (by omega)) dL_law_1391 ?_
  refine lv_topi (fun x_14 e_15 => ?_)
  have s_16 : x_4 = x_14 := by rw [e_5, e_15, show x_1 = x_11 from (fa_eq _ _).mpr ((i_3).trans (i_13).symm)]
  subst s_16
  refine g_calli C (va_runV (As := [.int (x_4)]) (rest := [.int (r_6)]) C.1 (c_X10_fill l G v w sg x_4 (A1 := (x_4).toInt) rfl (bm_of rl) mi) (cwV 1 hts gL_law_X10_fill rfl rfl rfl (by decide +kernel) ⟨by rw [hR]; exact Nat.le_of_ble_eq_true rfl, by rw [hR]; exact Nat.le_of_ble_eq_true rfl⟩) ⟨gPre_blind, g_recv C h 106 (by decide) (ci := 10) rfl rfl, gS_pre C h _⟩ rfl rfl hl.1 rfl (lv_room (Nat.le_of_ble_eq_true rfl)) dL_law_1392 hcs) h (fun r_17 v_19 w_20 g_21 H locs p_18 h => ?_)
  obtain ⟨p_18, rfl, rfl, rfl⟩ := p_18
  have hrl_22 := pr_fill rfl rl ci mi p_7 p_18
  refine lv_icmp_eq (tgt := 1423) hx hb dL_law_1395 (by decide) (fun c_23 => ?_) (fun c_23 => ?_)
  · skip
    exact K v w sg _ _ _ ci cg mi hrl_22.2 h (lv_sub hl [0, 1, 2, 3] rfl)
  · skip
    refine lv_iconst (v := 0) hx hb dL_law_1398 (by decide) ?_
    exact absurd hrl_22.1 c_23

set_option maxHeartbeats 4000000 in
set_option maxRecDepth 100000 in
theorem lc_34 {p : Program} {l : Launch} {e : Env} {R : Room} {s : State} {m : MethodId} {args : Array Value} {below : List Frame} {meth : Method} {c : Code} {H : Heap} {locs : List Loc} {cells slots : Nat} {Q : State → Prop} {ls : Array Slot} {A : Nat → Prop} {G : gG} {v : Nat → Nat → Int32} {w : Nat → Nat → Int64} {sg : Nat → Nat} {b L : Nat} {xs : Nat → Int32} {x3 : Int32}
    (C : gC p s m c code 4 args wsL_law RL A G) (hR : R = room_1) (hcs : cells ≤ R.cells ∧ slots ≤ R.slots) (hX : va_X b L xs s s.heap) (hbl : b < s.heap.size) (hbA : ¬ A b) (hi3 : 0 ≤ x3.toInt ∧ x3.toInt + 7 ≤ (L : Int)) (hL : L ≤ 3584) (ci : cI v) (cg : cG sg) (mi : mI v) (rl : Rl v) (h : gS A G s v w sg H locs) (hl : lv_has ls 4 [(0, .ref b), (1, .ref (G.2.2 (0))), (2, .ref (G.2.2 (106))), (3, .int (x3))])
    (K : ∀ (v : Nat → Nat → Int32) (w : Nat → Nat → Int64) (sg : Nat → Nat) (H : Heap) (locs : List Loc) (ls : Array Slot), cI v → cG sg → mI v → Rl v → gS A G s v w sg H locs → lv_has ls 4 [(0, .ref b), (1, .ref (G.2.2 (0))), (2, .ref (G.2.2 (106))), (3, .int (x3))] → W p l e R s m args below meth c H locs cells slots Q (F0 m 1423 ls [])) : W p l e R s m args below meth c H locs cells slots Q (F0 m 1400 ls []) := by
  have hx := C.1.1
  have hb := C.1.2.1
  have hown := C.1.2.2.2.1
  have hts := C.1.2.2.2.2
  have z_0 : (0 : Int32).toInt = 0 := by decide
  have z_1 : (1 : Int32).toInt = 1 := by decide
  refine lv_aload_n hx hb dL_law_1400 rfl (lv_at hl 1 rfl) ?_
  refine lv_aload_n hx hb dL_law_1401 rfl (lv_at hl 0 rfl) ?_
  refine lv_iload_n hx hb dL_law_1402 rfl (lv_at hl 3 rfl) ?_
  refine lv_iconst (v := 1) hx hb dL_law_1403 (by decide) ?_
  refine lv_iadd hx hb dL_law_1404 ?_
  refine lv_topi (fun x_1 e_2 => ?_)
  have i_3 : x_1.toInt = (x3).toInt + 1 := ia_add e_2 rfl (by decide) (by omega) (by omega)
  refine va_sld hx hb hX hbl hbA h.2 (vp_of i_3 (by omega) (by omega)) dL_law_1405 ?_
  refine lv_topi (fun x_4 e_5 => ?_)
  refine g_calli C (va_runV (As := [.int (x_4)]) (rest := []) C.1 (c_X9_count l G v w sg x_4 (A1 := (x_4).toInt) rfl ci) (cwV 1 hts gL_law_X9_count rfl rfl rfl (by decide +kernel) ⟨by rw [hR]; exact Nat.le_of_ble_eq_true rfl, by rw [hR]; exact Nat.le_of_ble_eq_true rfl⟩) ⟨gPre_blind, g_recv C h 0 (by decide) (ci := 9) rfl rfl, gS_pre C h _⟩ rfl rfl hl.1 rfl (lv_room (Nat.le_of_ble_eq_true rfl)) dL_law_1406 hcs) h (fun r_6 v_8 w_9 g_10 H locs p_7 h => ?_)
  obtain ⟨p_7, rfl, rfl, rfl⟩ := p_7
  refine lv_pop hx hb dL_law_1409 rfl ?_
  refine lv_aload_n hx hb dL_law_1410 rfl (lv_at hl 2 rfl) ?_
  refine lv_aload_n hx hb dL_law_1411 rfl (lv_at hl 0 rfl) ?_
  refine lv_iload_n hx hb dL_law_1412 rfl (lv_at hl 3 rfl) ?_
  refine lv_iconst (v := 1) hx hb dL_law_1413 (by decide) ?_
  refine lv_iadd hx hb dL_law_1414 ?_
  refine lv_topi (fun x_11 e_12 => ?_)
  have i_13 : x_11.toInt = (x3).toInt + 1 := ia_add e_12 rfl (by decide) (by omega) (by omega)
  refine va_sld hx hb hX hbl hbA h.2 (vp_of i_13 (by omega) (by omega)) dL_law_1415 ?_
  refine lv_topi (fun x_14 e_15 => ?_)
  have s_16 : x_4 = x_14 := by rw [e_5, e_15, show x_1 = x_11 from (fa_eq _ _).mpr ((i_3).trans (i_13).symm)]
  subst s_16
  refine g_calli C (va_runV (As := [.int (x_4)]) (rest := []) C.1 (c_X10_count l G v w sg x_4 (A1 := (x_4).toInt) rfl mi) (cwV 1 hts gL_law_X10_count rfl rfl rfl (by decide +kernel) ⟨by rw [hR]; exact Nat.le_of_ble_eq_true rfl, by rw [hR]; exact Nat.le_of_ble_eq_true rfl⟩) ⟨gPre_blind, g_recv C h 106 (by decide) (ci := 10) rfl rfl, gS_pre C h _⟩ rfl rfl hl.1 rfl (lv_room (Nat.le_of_ble_eq_true rfl)) dL_law_1416 hcs) h (fun r_17 v_19 w_20 g_21 H locs p_18 h => ?_)
  obtain ⟨p_18, rfl, rfl, rfl⟩ := p_18
  have hrl_22 := pr_count  rl ci mi p_7 p_18
  refine lv_pop hx hb dL_law_1419 rfl ?_
  refine lv_goto (tgt := 1423) hx hb dL_law_1420 (by decide) ?_
  exact K v w sg _ _ _ ci cg mi hrl_22 h (lv_sub hl [0, 1, 2, 3] rfl)
