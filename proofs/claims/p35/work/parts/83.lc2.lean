set_option maxHeartbeats 4000000 in
set_option maxRecDepth 100000 in
theorem lc_18 {p : Program} {l : Launch} {e : Env} {R : Room} {s : State} {m : MethodId} {args : Array Value} {below : List Frame} {meth : Method} {c : Code} {H : Heap} {locs : List Loc} {cells slots : Nat} {Q : State → Prop} {ls : Array Slot} {A : Nat → Prop} {G : gG} {v : Nat → Nat → Int32} {w : Nat → Nat → Int64} {sg : Nat → Nat} {b L : Nat} {xs : Nat → Int32} {x3 : Int32}
    (C : gC p s m c code 4 args wsL_law RL A G) (hR : R = room_1) (hcs : cells ≤ R.cells ∧ slots ≤ R.slots) (hX : va_X b L xs s s.heap) (hbl : b < s.heap.size) (hbA : ¬ A b) (hi3 : 0 ≤ x3.toInt ∧ x3.toInt + 7 ≤ (L : Int)) (hL : L ≤ 3584) (ci : cI v) (cg : cG sg) (mi : mI v) (rl : Rl v) (h : gS A G s v w sg H locs) (hl : lv_has ls 4 [(0, .ref b), (1, .ref (G.2.2 (0))), (2, .ref (G.2.2 (106))), (3, .int (x3))])
    (K : ∀ (v : Nat → Nat → Int32) (w : Nat → Nat → Int64) (sg : Nat → Nat) (H : Heap) (locs : List Loc) (ls : Array Slot), cI v → cG sg → mI v → Rl v → gS A G s v w sg H locs → lv_has ls 4 [(0, .ref b), (1, .ref (G.2.2 (0))), (2, .ref (G.2.2 (106))), (3, .int (x3))] → W p l e R s m args below meth c H locs cells slots Q (F0 m 1423 ls [])) : W p l e R s m args below meth c H locs cells slots Q (F0 m 870 ls []) := by
  have hx := C.1.1
  have hb := C.1.2.1
  have hown := C.1.2.2.2.1
  have hts := C.1.2.2.2.2
  have z_0 : (0 : Int32).toInt = 0 := by decide
  have z_1 : (1 : Int32).toInt = 1 := by decide
  have z_2 : (2 : Int32).toInt = 2 := by decide
  refine lv_aload_n hx hb dL_law_870 rfl (lv_at hl 1 rfl) ?_
  refine lv_aload_n hx hb dL_law_871 rfl (lv_at hl 0 rfl) ?_
  refine lv_iload_n hx hb dL_law_872 rfl (lv_at hl 3 rfl) ?_
  refine lv_iconst (v := 1) hx hb dL_law_873 (by decide) ?_
  refine lv_iadd hx hb dL_law_874 ?_
  refine lv_topi (fun x_1 e_2 => ?_)
  have i_3 : x_1.toInt = (x3).toInt + 1 := ia_add e_2 rfl (by decide) (by omega) (by omega)
  refine va_sld hx hb hX hbl hbA h.2 (vp_of i_3 (by omega) (by omega)) dL_law_875 ?_
  refine lv_topi (fun x_4 e_5 => ?_)
  refine lv_aload_n hx hb dL_law_876 rfl (lv_at hl 0 rfl) ?_
  refine lv_iload_n hx hb dL_law_877 rfl (lv_at hl 3 rfl) ?_
  refine lv_iconst (v := 2) hx hb dL_law_878 (by decide) ?_
  refine lv_iadd hx hb dL_law_879 ?_
  refine lv_topi (fun x_6 e_7 => ?_)
  have i_8 : x_6.toInt = (x3).toInt + 2 := ia_add e_7 rfl (by decide) (by omega) (by omega)
  refine va_sld hx hb hX hbl hbA h.2 (vp_of i_8 (by omega) (by omega)) dL_law_880 ?_
  refine lv_topi (fun x_9 e_10 => ?_)
  refine lv_if_eq (tgt := 888) hx hb dL_law_881 (by decide) (fun c_11 => ?_) (fun c_11 => ?_)
  · have j_12 : (x_9).toInt = 0 := (i_eq rfl (by decide)).mp c_11
    refine lv_iconst (v := 0) hx hb dL_law_888 (by decide) ?_
    refine g_calli C (va_runV (As := [.int (x_4), .int (0)]) (rest := []) C.1 (c_X9_done l G v w sg x_4 (A1 := (x_4).toInt) rfl (0) (A2 := 0) (by decide) (by omega) ci) (cwV 2 hts gL_law_X9_done rfl rfl rfl (by decide +kernel) ⟨by rw [hR]; exact Nat.le_of_ble_eq_true rfl, by rw [hR]; exact Nat.le_of_ble_eq_true rfl⟩) ⟨gPre_blind, g_recv C h 0 (by decide) (ci := 9) rfl rfl, gS_pre C h _⟩ rfl rfl hl.1 rfl (lv_room (Nat.le_of_ble_eq_true rfl)) dL_law_889 hcs) h (fun r_13 v_15 w_16 g_17 H locs p_14 h => ?_)
    obtain ⟨p_14, rfl, rfl⟩ := p_14
    have u_18 := p_14.1
    have u_19 := cg
    have u_20 := mI_fC mi p_14.2.1 (by decide)
    refine lv_pop hx hb dL_law_892 rfl ?_
    refine lv_aload_n hx hb dL_law_893 rfl (lv_at hl 2 rfl) ?_
    refine lv_aload_n hx hb dL_law_894 rfl (lv_at hl 0 rfl) ?_
    refine lv_iload_n hx hb dL_law_895 rfl (lv_at hl 3 rfl) ?_
    refine lv_iconst (v := 1) hx hb dL_law_896 (by decide) ?_
    refine lv_iadd hx hb dL_law_897 ?_
    refine lv_topi (fun x_21 e_22 => ?_)
    have i_23 : x_21.toInt = (x3).toInt + 1 := ia_add e_22 rfl (by decide) (by omega) (by omega)
    refine va_sld hx hb hX hbl hbA h.2 (vp_of i_23 (by omega) (by omega)) dL_law_898 ?_
    refine lv_topi (fun x_24 e_25 => ?_)
    have s_26 : x_4 = x_24 := by rw [e_5, e_25, show x_1 = x_21 from (fa_eq _ _).mpr ((i_3).trans (i_23).symm)]
    subst s_26
    refine lv_aload_n hx hb dL_law_899 rfl (lv_at hl 0 rfl) ?_
    refine lv_iload_n hx hb dL_law_900 rfl (lv_at hl 3 rfl) ?_
    refine lv_iconst (v := 2) hx hb dL_law_901 (by decide) ?_
    refine lv_iadd hx hb dL_law_902 ?_
    refine lv_topi (fun x_27 e_28 => ?_)
    have i_29 : x_27.toInt = (x3).toInt + 2 := ia_add e_28 rfl (by decide) (by omega) (by omega)
    refine va_sld hx hb hX hbl hbA h.2 (vp_of i_29 (by omega) (by omega)) dL_law_903 ?_
    refine lv_topi (fun x_30 e_31 => ?_)
    have s_32 : x_9 = x_30 := by rw [e_10, e_31, show x_6 = x_27 from (fa_eq _ _).mpr ((i_8).trans (i_29).symm)]
    subst s_32
    refine lv_if_eq (tgt := 911) hx hb dL_law_904 (by decide) (fun c_33 => ?_) (fun c_33 => ?_)
    · have j_34 : (x_9).toInt = 0 := (i_eq rfl (by decide)).mp c_33
      refine lv_iconst (v := 0) hx hb dL_law_911 (by decide) ?_
      refine g_calli C (va_runV (As := [.int (x_4), .int (0)]) (rest := []) C.1 (c_X10_done l G v_15 w sg x_4 (A1 := (x_4).toInt) rfl (0) (A2 := 0) (by decide) u_20) (cwV 2 hts gL_law_X10_done rfl rfl rfl (by decide +kernel) ⟨by rw [hR]; exact Nat.le_of_ble_eq_true rfl, by rw [hR]; exact Nat.le_of_ble_eq_true rfl⟩) ⟨gPre_blind, g_recv C h 106 (by decide) (ci := 10) rfl rfl, gS_pre C h _⟩ rfl rfl hl.1 rfl (lv_room (Nat.le_of_ble_eq_true rfl)) dL_law_912 hcs) h (fun r_35 v_37 w_38 g_39 H locs p_36 h => ?_)
      obtain ⟨p_36, rfl, rfl⟩ := p_36
      have u_40 := cI_fM u_18 p_36.2.1 (by decide)
      have u_41 := u_19
      have u_42 := p_36.1
      have hrl_43 := pr_done rfl (by decide) (by decide) rl ci mi p_14 p_36
      refine lv_pop hx hb dL_law_915 rfl ?_
      refine lv_goto (tgt := 1423) hx hb dL_law_916 (by decide) ?_
      exact K v_37 w sg _ _ _ u_40 u_41 u_42 hrl_43.2 h (lv_sub hl [0, 1, 2, 3] rfl)
    · have j_34 : ¬ ((x_9).toInt = 0) := fun q => c_33 ((i_eq rfl (by decide)).mpr q)
      refine lv_iconst (v := 1) hx hb dL_law_907 (by decide) ?_
      refine lv_goto (tgt := 912) hx hb dL_law_908 (by decide) ?_
      exfalso; omega
  · have j_12 : ¬ ((x_9).toInt = 0) := fun q => c_11 ((i_eq rfl (by decide)).mpr q)
    refine lv_iconst (v := 1) hx hb dL_law_884 (by decide) ?_
    refine lv_goto (tgt := 889) hx hb dL_law_885 (by decide) ?_
    refine g_calli C (va_runV (As := [.int (x_4), .int (1)]) (rest := []) C.1 (c_X9_done l G v w sg x_4 (A1 := (x_4).toInt) rfl (1) (A2 := 1) (by decide) (by omega) ci) (cwV 2 hts gL_law_X9_done rfl rfl rfl (by decide +kernel) ⟨by rw [hR]; exact Nat.le_of_ble_eq_true rfl, by rw [hR]; exact Nat.le_of_ble_eq_true rfl⟩) ⟨gPre_blind, g_recv C h 0 (by decide) (ci := 9) rfl rfl, gS_pre C h _⟩ rfl rfl hl.1 rfl (lv_room (Nat.le_of_ble_eq_true rfl)) dL_law_889 hcs) h (fun r_44 v_46 w_47 g_48 H locs p_45 h => ?_)
    obtain ⟨p_45, rfl, rfl⟩ := p_45
    have u_49 := p_45.1
    have u_50 := cg
    have u_51 := mI_fC mi p_45.2.1 (by decide)
    refine lv_pop hx hb dL_law_892 rfl ?_
    refine lv_aload_n hx hb dL_law_893 rfl (lv_at hl 2 rfl) ?_
    refine lv_aload_n hx hb dL_law_894 rfl (lv_at hl 0 rfl) ?_
    refine lv_iload_n hx hb dL_law_895 rfl (lv_at hl 3 rfl) ?_
    refine lv_iconst (v := 1) hx hb dL_law_896 (by decide) ?_
    refine lv_iadd hx hb dL_law_897 ?_
    refine lv_topi (fun x_52 e_53 => ?_)
    have i_54 : x_52.toInt = (x3).toInt + 1 := ia_add e_53 rfl (by decide) (by omega) (by omega)
    refine va_sld hx hb hX hbl hbA h.2 (vp_of i_54 (by omega) (by omega)) dL_law_898 ?_
    refine lv_topi (fun x_55 e_56 => ?_)
    have s_57 : x_4 = x_55 := by rw [e_5, e_56, show x_1 = x_52 from (fa_eq _ _).mpr ((i_3).trans (i_54).symm)]
    subst s_57
    refine lv_aload_n hx hb dL_law_899 rfl (lv_at hl 0 rfl) ?_
    refine lv_iload_n hx hb dL_law_900 rfl (lv_at hl 3 rfl) ?_
    refine lv_iconst (v := 2) hx hb dL_law_901 (by decide) ?_
    refine lv_iadd hx hb dL_law_902 ?_
    refine lv_topi (fun x_58 e_59 => ?_)
    have i_60 : x_58.toInt = (x3).toInt + 2 := ia_add e_59 rfl (by decide) (by omega) (by omega)
    refine va_sld hx hb hX hbl hbA h.2 (vp_of i_60 (by omega) (by omega)) dL_law_903 ?_
    refine lv_topi (fun x_61 e_62 => ?_)
    have s_63 : x_9 = x_61 := by rw [e_10, e_62, show x_6 = x_58 from (fa_eq _ _).mpr ((i_8).trans (i_60).symm)]
    subst s_63
    refine lv_if_eq (tgt := 911) hx hb dL_law_904 (by decide) (fun c_64 => ?_) (fun c_64 => ?_)
    · have j_65 : (x_9).toInt = 0 := (i_eq rfl (by decide)).mp c_64
      refine lv_iconst (v := 0) hx hb dL_law_911 (by decide) ?_
      exfalso; omega
    · have j_65 : ¬ ((x_9).toInt = 0) := fun q => c_64 ((i_eq rfl (by decide)).mpr q)
      refine lv_iconst (v := 1) hx hb dL_law_907 (by decide) ?_
      refine lv_goto (tgt := 912) hx hb dL_law_908 (by decide) ?_
      refine g_calli C (va_runV (As := [.int (x_4), .int (1)]) (rest := []) C.1 (c_X10_done l G v_46 w sg x_4 (A1 := (x_4).toInt) rfl (1) (A2 := 1) (by decide) u_51) (cwV 2 hts gL_law_X10_done rfl rfl rfl (by decide +kernel) ⟨by rw [hR]; exact Nat.le_of_ble_eq_true rfl, by rw [hR]; exact Nat.le_of_ble_eq_true rfl⟩) ⟨gPre_blind, g_recv C h 106 (by decide) (ci := 10) rfl rfl, gS_pre C h _⟩ rfl rfl hl.1 rfl (lv_room (Nat.le_of_ble_eq_true rfl)) dL_law_912 hcs) h (fun r_66 v_68 w_69 g_70 H locs p_67 h => ?_)
      obtain ⟨p_67, rfl, rfl⟩ := p_67
      have u_71 := cI_fM u_49 p_67.2.1 (by decide)
      have u_72 := u_50
      have u_73 := p_67.1
      have hrl_74 := pr_done rfl (by decide) (by decide) rl ci mi p_45 p_67
      refine lv_pop hx hb dL_law_915 rfl ?_
      refine lv_goto (tgt := 1423) hx hb dL_law_916 (by decide) ?_
      exact K v_68 w sg _ _ _ u_71 u_72 u_73 hrl_74.2 h (lv_sub hl [0, 1, 2, 3] rfl)

set_option maxHeartbeats 4000000 in
set_option maxRecDepth 100000 in
theorem lc_19 {p : Program} {l : Launch} {e : Env} {R : Room} {s : State} {m : MethodId} {args : Array Value} {below : List Frame} {meth : Method} {c : Code} {H : Heap} {locs : List Loc} {cells slots : Nat} {Q : State → Prop} {ls : Array Slot} {A : Nat → Prop} {G : gG} {v : Nat → Nat → Int32} {w : Nat → Nat → Int64} {sg : Nat → Nat} {b L : Nat} {xs : Nat → Int32} {x3 : Int32}
    (C : gC p s m c code 4 args wsL_law RL A G) (hR : R = room_1) (hcs : cells ≤ R.cells ∧ slots ≤ R.slots) (hX : va_X b L xs s s.heap) (hbl : b < s.heap.size) (hbA : ¬ A b) (hi3 : 0 ≤ x3.toInt ∧ x3.toInt + 7 ≤ (L : Int)) (hL : L ≤ 3584) (ci : cI v) (cg : cG sg) (mi : mI v) (rl : Rl v) (h : gS A G s v w sg H locs) (hl : lv_has ls 4 [(0, .ref b), (1, .ref (G.2.2 (0))), (2, .ref (G.2.2 (106))), (3, .int (x3))])
    (K : ∀ (v : Nat → Nat → Int32) (w : Nat → Nat → Int64) (sg : Nat → Nat) (H : Heap) (locs : List Loc) (ls : Array Slot), cI v → cG sg → mI v → Rl v → gS A G s v w sg H locs → lv_has ls 4 [(0, .ref b), (1, .ref (G.2.2 (0))), (2, .ref (G.2.2 (106))), (3, .int (x3))] → W p l e R s m args below meth c H locs cells slots Q (F0 m 1423 ls [])) : W p l e R s m args below meth c H locs cells slots Q (F0 m 919 ls []) := by
  have hx := C.1.1
  have hb := C.1.2.1
  have hown := C.1.2.2.2.1
  have hts := C.1.2.2.2.2
  have z_0 : (0 : Int32).toInt = 0 := by decide
  have z_1 : (1 : Int32).toInt = 1 := by decide
  have z_2 : (2 : Int32).toInt = 2 := by decide
  refine lv_aload_n hx hb dL_law_919 rfl (lv_at hl 1 rfl) ?_
  refine lv_aload_n hx hb dL_law_920 rfl (lv_at hl 0 rfl) ?_
  refine lv_iload_n hx hb dL_law_921 rfl (lv_at hl 3 rfl) ?_
  refine lv_iconst (v := 1) hx hb dL_law_922 (by decide) ?_
  refine lv_iadd hx hb dL_law_923 ?_
  refine lv_topi (fun x_1 e_2 => ?_)
  have i_3 : x_1.toInt = (x3).toInt + 1 := ia_add e_2 rfl (by decide) (by omega) (by omega)
  refine va_sld hx hb hX hbl hbA h.2 (vp_of i_3 (by omega) (by omega)) dL_law_924 ?_
  refine lv_topi (fun x_4 e_5 => ?_)
  refine lv_aload_n hx hb dL_law_925 rfl (lv_at hl 0 rfl) ?_
  refine lv_iload_n hx hb dL_law_926 rfl (lv_at hl 3 rfl) ?_
  refine lv_iconst (v := 2) hx hb dL_law_927 (by decide) ?_
  refine lv_iadd hx hb dL_law_928 ?_
  refine lv_topi (fun x_6 e_7 => ?_)
  have i_8 : x_6.toInt = (x3).toInt + 2 := ia_add e_7 rfl (by decide) (by omega) (by omega)
  refine va_sld hx hb hX hbl hbA h.2 (vp_of i_8 (by omega) (by omega)) dL_law_929 ?_
  refine lv_topi (fun x_9 e_10 => ?_)
  refine g_calli C (va_runV (As := [.int (x_4), .int (x_9)]) (rest := []) C.1 (c_X9_moves l G v w sg x_4 (A1 := (x_4).toInt) rfl x_9 (A2 := (x_9).toInt) rfl ci) (cwV 2 hts gL_law_X9_moves rfl rfl rfl (by decide +kernel) ⟨by rw [hR]; exact Nat.le_of_ble_eq_true rfl, by rw [hR]; exact Nat.le_of_ble_eq_true rfl⟩) ⟨gPre_blind, g_recv C h 0 (by decide) (ci := 9) rfl rfl, gS_pre C h _⟩ rfl rfl hl.1 rfl (lv_room (Nat.le_of_ble_eq_true rfl)) dL_law_930 hcs) h (fun r_11 v_13 w_14 g_15 H locs p_12 h => ?_)
  obtain ⟨p_12, rfl, rfl, rfl⟩ := p_12
  refine lv_pop hx hb dL_law_933 rfl ?_
  refine lv_aload_n hx hb dL_law_934 rfl (lv_at hl 2 rfl) ?_
  refine lv_aload_n hx hb dL_law_935 rfl (lv_at hl 0 rfl) ?_
  refine lv_iload_n hx hb dL_law_936 rfl (lv_at hl 3 rfl) ?_
  refine lv_iconst (v := 1) hx hb dL_law_937 (by decide) ?_
  refine lv_iadd hx hb dL_law_938 ?_
  refine lv_topi (fun x_16 e_17 => ?_)
  have i_18 : x_16.toInt = (x3).toInt + 1 := ia_add e_17 rfl (by decide) (by omega) (by omega)
  refine va_sld hx hb hX hbl hbA h.2 (vp_of i_18 (by omega) (by omega)) dL_law_939 ?_
  refine lv_topi (fun x_19 e_20 => ?_)
  have s_21 : x_4 = x_19 := by rw [e_5, e_20, show x_1 = x_16 from (fa_eq _ _).mpr ((i_3).trans (i_18).symm)]
  subst s_21
  refine lv_aload_n hx hb dL_law_940 rfl (lv_at hl 0 rfl) ?_
  refine lv_iload_n hx hb dL_law_941 rfl (lv_at hl 3 rfl) ?_
  refine lv_iconst (v := 2) hx hb dL_law_942 (by decide) ?_
  refine lv_iadd hx hb dL_law_943 ?_
  refine lv_topi (fun x_22 e_23 => ?_)
  have i_24 : x_22.toInt = (x3).toInt + 2 := ia_add e_23 rfl (by decide) (by omega) (by omega)
  refine va_sld hx hb hX hbl hbA h.2 (vp_of i_24 (by omega) (by omega)) dL_law_944 ?_
  refine lv_topi (fun x_25 e_26 => ?_)
  have s_27 : x_9 = x_25 := by rw [e_10, e_26, show x_6 = x_22 from (fa_eq _ _).mpr ((i_8).trans (i_24).symm)]
  subst s_27
  refine g_calli C (va_runV (As := [.int (x_4), .int (x_9)]) (rest := []) C.1 (c_X10_moves l G v w sg x_4 (A1 := (x_4).toInt) rfl x_9 (A2 := (x_9).toInt) rfl mi) (cwV 2 hts gL_law_X10_moves rfl rfl rfl (by decide +kernel) ⟨by rw [hR]; exact Nat.le_of_ble_eq_true rfl, by rw [hR]; exact Nat.le_of_ble_eq_true rfl⟩) ⟨gPre_blind, g_recv C h 106 (by decide) (ci := 10) rfl rfl, gS_pre C h _⟩ rfl rfl hl.1 rfl (lv_room (Nat.le_of_ble_eq_true rfl)) dL_law_945 hcs) h (fun r_28 v_30 w_31 g_32 H locs p_29 h => ?_)
  obtain ⟨p_29, rfl, rfl, rfl⟩ := p_29
  have hrl_33 := pr_moves rfl rfl rl ci mi p_12 p_29
  refine lv_pop hx hb dL_law_948 rfl ?_
  refine lv_goto (tgt := 1423) hx hb dL_law_949 (by decide) ?_
  exact K v w sg _ _ _ ci cg mi hrl_33.2 h (lv_sub hl [0, 1, 2, 3] rfl)

set_option maxHeartbeats 4000000 in
set_option maxRecDepth 100000 in
theorem lc_20 {p : Program} {l : Launch} {e : Env} {R : Room} {s : State} {m : MethodId} {args : Array Value} {below : List Frame} {meth : Method} {c : Code} {H : Heap} {locs : List Loc} {cells slots : Nat} {Q : State → Prop} {ls : Array Slot} {A : Nat → Prop} {G : gG} {v : Nat → Nat → Int32} {w : Nat → Nat → Int64} {sg : Nat → Nat} {b L : Nat} {xs : Nat → Int32} {x3 : Int32}
    (C : gC p s m c code 4 args wsL_law RL A G) (hR : R = room_1) (hcs : cells ≤ R.cells ∧ slots ≤ R.slots) (hX : va_X b L xs s s.heap) (hbl : b < s.heap.size) (hbA : ¬ A b) (hi3 : 0 ≤ x3.toInt ∧ x3.toInt + 7 ≤ (L : Int)) (hL : L ≤ 3584) (ci : cI v) (cg : cG sg) (mi : mI v) (rl : Rl v) (h : gS A G s v w sg H locs) (hl : lv_has ls 4 [(0, .ref b), (1, .ref (G.2.2 (0))), (2, .ref (G.2.2 (106))), (3, .int (x3))])
    (K : ∀ (v : Nat → Nat → Int32) (w : Nat → Nat → Int64) (sg : Nat → Nat) (H : Heap) (locs : List Loc) (ls : Array Slot), cI v → cG sg → mI v → Rl v → gS A G s v w sg H locs → lv_has ls 4 [(0, .ref b), (1, .ref (G.2.2 (0))), (2, .ref (G.2.2 (106))), (3, .int (x3))] → W p l e R s m args below meth c H locs cells slots Q (F0 m 1423 ls [])) : W p l e R s m args below meth c H locs cells slots Q (F0 m 952 ls []) := by
  have hx := C.1.1
  have hb := C.1.2.1
  have hown := C.1.2.2.2.1
  have hts := C.1.2.2.2.2
  have z_0 : (0 : Int32).toInt = 0 := by decide
  have z_1 : (1 : Int32).toInt = 1 := by decide
  refine lv_aload_n hx hb dL_law_952 rfl (lv_at hl 1 rfl) ?_
  refine g_calli C (va_runV (As := []) (rest := []) C.1 (c_X9_least l G v w sg  (hm_of rl mi) (hz_of rl) ci) (cwV 0 hts gL_law_X9_least rfl rfl rfl (by decide +kernel) ⟨by rw [hR]; exact Nat.le_of_ble_eq_true rfl, by rw [hR]; exact Nat.le_of_ble_eq_true rfl⟩) ⟨gPre_blind, g_recv C h 0 (by decide) (ci := 9) rfl rfl, gS_pre C h _⟩ rfl rfl hl.1 rfl (lv_room (Nat.le_of_ble_eq_true rfl)) dL_law_953 hcs) h (fun r_1 v_3 w_4 g_5 H locs p_2 h => ?_)
  obtain ⟨p_2, rfl, rfl⟩ := p_2
  have u_6 := p_2.1
  have u_7 := cg
  have u_8 := mI_fC mi p_2.2.1 (by decide)
  refine lv_pop hx hb dL_law_956 rfl ?_
  refine lv_aload_n hx hb dL_law_957 rfl (lv_at hl 2 rfl) ?_
  refine g_calli C (va_runV (As := []) (rest := []) C.1 (c_X10_least l G v_3 w sg  u_8) (cwV 0 hts gL_law_X10_least rfl rfl rfl (by decide +kernel) ⟨by rw [hR]; exact Nat.le_of_ble_eq_true rfl, by rw [hR]; exact Nat.le_of_ble_eq_true rfl⟩) ⟨gPre_blind, g_recv C h 106 (by decide) (ci := 10) rfl rfl, gS_pre C h _⟩ rfl rfl hl.1 rfl (lv_room (Nat.le_of_ble_eq_true rfl)) dL_law_958 hcs) h (fun r_9 v_11 w_12 g_13 H locs p_10 h => ?_)
  obtain ⟨p_10, rfl, rfl⟩ := p_10
  have u_14 := cI_fM u_6 p_10.2.1 (by decide)
  have u_15 := u_7
  have u_16 := p_10.1
  have hrl_17 := pr_least  rl ci mi p_2 p_10
  refine lv_pop hx hb dL_law_961 rfl ?_
  refine lv_goto (tgt := 1423) hx hb dL_law_962 (by decide) ?_
  exact K v_11 w sg _ _ _ u_14 u_15 u_16 hrl_17.2 h (lv_sub hl [0, 1, 2, 3] rfl)

set_option maxHeartbeats 4000000 in
set_option maxRecDepth 100000 in
theorem lc_21 {p : Program} {l : Launch} {e : Env} {R : Room} {s : State} {m : MethodId} {args : Array Value} {below : List Frame} {meth : Method} {c : Code} {H : Heap} {locs : List Loc} {cells slots : Nat} {Q : State → Prop} {ls : Array Slot} {A : Nat → Prop} {G : gG} {v : Nat → Nat → Int32} {w : Nat → Nat → Int64} {sg : Nat → Nat} {b L : Nat} {xs : Nat → Int32} {x3 : Int32}
    (C : gC p s m c code 4 args wsL_law RL A G) (hR : R = room_1) (hcs : cells ≤ R.cells ∧ slots ≤ R.slots) (hX : va_X b L xs s s.heap) (hbl : b < s.heap.size) (hbA : ¬ A b) (hi3 : 0 ≤ x3.toInt ∧ x3.toInt + 7 ≤ (L : Int)) (hL : L ≤ 3584) (ci : cI v) (cg : cG sg) (mi : mI v) (rl : Rl v) (h : gS A G s v w sg H locs) (hl : lv_has ls 4 [(0, .ref b), (1, .ref (G.2.2 (0))), (2, .ref (G.2.2 (106))), (3, .int (x3))])
    (K : ∀ (v : Nat → Nat → Int32) (w : Nat → Nat → Int64) (sg : Nat → Nat) (H : Heap) (locs : List Loc) (ls : Array Slot), cI v → cG sg → mI v → Rl v → gS A G s v w sg H locs → lv_has ls 4 [(0, .ref b), (1, .ref (G.2.2 (0))), (2, .ref (G.2.2 (106))), (3, .int (x3))] → W p l e R s m args below meth c H locs cells slots Q (F0 m 1423 ls [])) : W p l e R s m args below meth c H locs cells slots Q (F0 m 965 ls []) := by
  have hx := C.1.1
  have hb := C.1.2.1
  have hown := C.1.2.2.2.1
  have hts := C.1.2.2.2.2
  have z_0 : (0 : Int32).toInt = 0 := by decide
  have z_1 : (1 : Int32).toInt = 1 := by decide
  refine lv_aload_n hx hb dL_law_965 rfl (lv_at hl 1 rfl) ?_
  refine lv_aload_n hx hb dL_law_966 rfl (lv_at hl 0 rfl) ?_
  refine lv_iload_n hx hb dL_law_967 rfl (lv_at hl 3 rfl) ?_
  refine lv_iconst (v := 1) hx hb dL_law_968 (by decide) ?_
  refine lv_iadd hx hb dL_law_969 ?_
  refine lv_topi (fun x_1 e_2 => ?_)
  have i_3 : x_1.toInt = (x3).toInt + 1 := ia_add e_2 rfl (by decide) (by omega) (by omega)
  refine va_sld hx hb hX hbl hbA h.2 (vp_of i_3 (by omega) (by omega)) dL_law_970 ?_
  refine lv_topi (fun x_4 e_5 => ?_)
  refine g_calli C (va_runV (As := [.int (x_4)]) (rest := []) C.1 (c_X9_order l G v w sg x_4 (A1 := (x_4).toInt) rfl (hm_of rl mi) (hz_of rl) ci) (cwV 1 hts gL_law_X9_order rfl rfl rfl (by decide +kernel) ⟨by rw [hR]; exact Nat.le_of_ble_eq_true rfl, by rw [hR]; exact Nat.le_of_ble_eq_true rfl⟩) ⟨gPre_blind, g_recv C h 0 (by decide) (ci := 9) rfl rfl, gS_pre C h _⟩ rfl rfl hl.1 rfl (lv_room (Nat.le_of_ble_eq_true rfl)) dL_law_971 hcs) h (fun r_6 v_8 w_9 g_10 H locs p_7 h => ?_)
  obtain ⟨p_7, rfl, rfl⟩ := p_7
  have u_11 := p_7.1
  have u_12 := cg
  have u_13 := mI_fC mi p_7.2.1 (by decide)
  refine lv_pop hx hb dL_law_974 rfl ?_
  refine lv_aload_n hx hb dL_law_975 rfl (lv_at hl 2 rfl) ?_
  refine lv_aload_n hx hb dL_law_976 rfl (lv_at hl 0 rfl) ?_
  refine lv_iload_n hx hb dL_law_977 rfl (lv_at hl 3 rfl) ?_
  refine lv_iconst (v := 1) hx hb dL_law_978 (by decide) ?_
  refine lv_iadd hx hb dL_law_979 ?_
  refine lv_topi (fun x_14 e_15 => ?_)
  have i_16 : x_14.toInt = (x3).toInt + 1 := ia_add e_15 rfl (by decide) (by omega) (by omega)
  refine va_sld hx hb hX hbl hbA h.2 (vp_of i_16 (by omega) (by omega)) dL_law_980 ?_
  refine lv_topi (fun x_17 e_18 => ?_)
  have s_19 : x_4 = x_17 := by rw [e_5, e_18, show x_1 = x_14 from (fa_eq _ _).mpr ((i_3).trans (i_16).symm)]
  subst s_19
  refine g_calli C (va_runV (As := [.int (x_4)]) (rest := []) C.1 (c_X10_order l G v_8 w sg x_4 (A1 := (x_4).toInt) rfl u_13) (cwV 1 hts gL_law_X10_order rfl rfl rfl (by decide +kernel) ⟨by rw [hR]; exact Nat.le_of_ble_eq_true rfl, by rw [hR]; exact Nat.le_of_ble_eq_true rfl⟩) ⟨gPre_blind, g_recv C h 106 (by decide) (ci := 10) rfl rfl, gS_pre C h _⟩ rfl rfl hl.1 rfl (lv_room (Nat.le_of_ble_eq_true rfl)) dL_law_981 hcs) h (fun r_20 v_22 w_23 g_24 H locs p_21 h => ?_)
  obtain ⟨p_21, rfl, rfl⟩ := p_21
  have u_25 := cI_fM u_11 p_21.2.1 (by decide)
  have u_26 := u_12
  have u_27 := p_21.1
  have hrl_28 := pr_order rfl rl ci mi p_7 p_21
  refine lv_pop hx hb dL_law_984 rfl ?_
  refine lv_goto (tgt := 1423) hx hb dL_law_985 (by decide) ?_
  exact K v_22 w sg _ _ _ u_25 u_26 u_27 hrl_28.2 h (lv_sub hl [0, 1, 2, 3] rfl)

set_option maxHeartbeats 4000000 in
set_option maxRecDepth 100000 in
theorem lc_22 {p : Program} {l : Launch} {e : Env} {R : Room} {s : State} {m : MethodId} {args : Array Value} {below : List Frame} {meth : Method} {c : Code} {H : Heap} {locs : List Loc} {cells slots : Nat} {Q : State → Prop} {ls : Array Slot} {A : Nat → Prop} {G : gG} {v : Nat → Nat → Int32} {w : Nat → Nat → Int64} {sg : Nat → Nat} {b L : Nat} {xs : Nat → Int32} {x3 : Int32}
    (C : gC p s m c code 4 args wsL_law RL A G) (hR : R = room_1) (hcs : cells ≤ R.cells ∧ slots ≤ R.slots) (hX : va_X b L xs s s.heap) (hbl : b < s.heap.size) (hbA : ¬ A b) (hi3 : 0 ≤ x3.toInt ∧ x3.toInt + 7 ≤ (L : Int)) (hL : L ≤ 3584) (ci : cI v) (cg : cG sg) (mi : mI v) (rl : Rl v) (h : gS A G s v w sg H locs) (hl : lv_has ls 4 [(0, .ref b), (1, .ref (G.2.2 (0))), (2, .ref (G.2.2 (106))), (3, .int (x3))])
    (K : ∀ (v : Nat → Nat → Int32) (w : Nat → Nat → Int64) (sg : Nat → Nat) (H : Heap) (locs : List Loc) (ls : Array Slot), cI v → cG sg → mI v → Rl v → gS A G s v w sg H locs → lv_has ls 4 [(0, .ref b), (1, .ref (G.2.2 (0))), (2, .ref (G.2.2 (106))), (3, .int (x3))] → W p l e R s m args below meth c H locs cells slots Q (F0 m 1423 ls [])) : W p l e R s m args below meth c H locs cells slots Q (F0 m 988 ls []) := by
  have hx := C.1.1
  have hb := C.1.2.1
  have hown := C.1.2.2.2.1
  have hts := C.1.2.2.2.2
  have z_0 : (0 : Int32).toInt = 0 := by decide
  have z_1 : (1 : Int32).toInt = 1 := by decide
  have z_2 : (2 : Int32).toInt = 2 := by decide
  have z_3 : (3 : Int32).toInt = 3 := by decide
  have z_4 : (4 : Int32).toInt = 4 := by decide
  refine lv_aload_n hx hb dL_law_988 rfl (lv_at hl 1 rfl) ?_
  refine lv_aload_n hx hb dL_law_989 rfl (lv_at hl 0 rfl) ?_
  refine lv_iload_n hx hb dL_law_990 rfl (lv_at hl 3 rfl) ?_
  refine lv_iconst (v := 1) hx hb dL_law_991 (by decide) ?_
  refine lv_iadd hx hb dL_law_992 ?_
  refine lv_topi (fun x_1 e_2 => ?_)
  have i_3 : x_1.toInt = (x3).toInt + 1 := ia_add e_2 rfl (by decide) (by omega) (by omega)
  refine va_sld hx hb hX hbl hbA h.2 (vp_of i_3 (by omega) (by omega)) dL_law_993 ?_
  refine lv_topi (fun x_4 e_5 => ?_)
  refine lv_aload_n hx hb dL_law_994 rfl (lv_at hl 0 rfl) ?_
  refine lv_iload_n hx hb dL_law_995 rfl (lv_at hl 3 rfl) ?_
  refine lv_iconst (v := 2) hx hb dL_law_996 (by decide) ?_
  refine lv_iadd hx hb dL_law_997 ?_
  refine lv_topi (fun x_6 e_7 => ?_)
  have i_8 : x_6.toInt = (x3).toInt + 2 := ia_add e_7 rfl (by decide) (by omega) (by omega)
  refine va_sld hx hb hX hbl hbA h.2 (vp_of i_8 (by omega) (by omega)) dL_law_998 ?_
  refine lv_topi (fun x_9 e_10 => ?_)
  refine lv_aload_n hx hb dL_law_999 rfl (lv_at hl 0 rfl) ?_
  refine lv_iload_n hx hb dL_law_1000 rfl (lv_at hl 3 rfl) ?_
  refine lv_iconst (v := 3) hx hb dL_law_1001 (by decide) ?_
  refine lv_iadd hx hb dL_law_1002 ?_
  refine lv_topi (fun x_11 e_12 => ?_)
  have i_13 : x_11.toInt = (x3).toInt + 3 := ia_add e_12 rfl (by decide) (by omega) (by omega)
  refine va_sld hx hb hX hbl hbA h.2 (vp_of i_13 (by omega) (by omega)) dL_law_1003 ?_
  refine lv_topi (fun x_14 e_15 => ?_)
  refine lv_aload_n hx hb dL_law_1004 rfl (lv_at hl 0 rfl) ?_
  refine lv_iload_n hx hb dL_law_1005 rfl (lv_at hl 3 rfl) ?_
  refine lv_iconst (v := 4) hx hb dL_law_1006 (by decide) ?_
  refine lv_iadd hx hb dL_law_1007 ?_
  refine lv_topi (fun x_16 e_17 => ?_)
  have i_18 : x_16.toInt = (x3).toInt + 4 := ia_add e_17 rfl (by decide) (by omega) (by omega)
  refine va_sld hx hb hX hbl hbA h.2 (vp_of i_18 (by omega) (by omega)) dL_law_1008 ?_
  refine lv_topi (fun x_19 e_20 => ?_)
  refine g_calli C (va_runV (As := [.int (x_4), .int (x_9), .int (x_14), .int (x_19)]) (rest := []) C.1 (c_X9_rule l G v w sg x_4 (A1 := (x_4).toInt) rfl x_9 (A2 := (x_9).toInt) rfl x_14 (A3 := (x_14).toInt) rfl x_19 (A4 := (x_19).toInt) rfl ci) (cwV 4 hts gL_law_X9_rule rfl rfl rfl (by decide +kernel) ⟨by rw [hR]; exact Nat.le_of_ble_eq_true rfl, by rw [hR]; exact Nat.le_of_ble_eq_true rfl⟩) ⟨gPre_blind, g_recv C h 0 (by decide) (ci := 9) rfl rfl, gS_pre C h _⟩ rfl rfl hl.1 rfl (lv_room (Nat.le_of_ble_eq_true rfl)) dL_law_1009 hcs) h (fun r_21 v_23 w_24 g_25 H locs p_22 h => ?_)
  obtain ⟨p_22, rfl, rfl⟩ := p_22
  have u_26 := p_22.1
  have u_27 := cg
  have u_28 := mI_fC mi p_22.2.1 (by decide)
  refine lv_pop hx hb dL_law_1012 rfl ?_
  refine lv_aload_n hx hb dL_law_1013 rfl (lv_at hl 2 rfl) ?_
  refine lv_aload_n hx hb dL_law_1014 rfl (lv_at hl 0 rfl) ?_
  refine lv_iload_n hx hb dL_law_1015 rfl (lv_at hl 3 rfl) ?_
  refine lv_iconst (v := 1) hx hb dL_law_1016 (by decide) ?_
  refine lv_iadd hx hb dL_law_1017 ?_
  refine lv_topi (fun x_29 e_30 => ?_)
  have i_31 : x_29.toInt = (x3).toInt + 1 := ia_add e_30 rfl (by decide) (by omega) (by omega)
  refine va_sld hx hb hX hbl hbA h.2 (vp_of i_31 (by omega) (by omega)) dL_law_1018 ?_
  refine lv_topi (fun x_32 e_33 => ?_)
  have s_34 : x_4 = x_32 := by rw [e_5, e_33, show x_1 = x_29 from (fa_eq _ _).mpr ((i_3).trans (i_31).symm)]
  subst s_34
  refine lv_aload_n hx hb dL_law_1019 rfl (lv_at hl 0 rfl) ?_
  refine lv_iload_n hx hb dL_law_1020 rfl (lv_at hl 3 rfl) ?_
  refine lv_iconst (v := 2) hx hb dL_law_1021 (by decide) ?_
  refine lv_iadd hx hb dL_law_1022 ?_
  refine lv_topi (fun x_35 e_36 => ?_)
  have i_37 : x_35.toInt = (x3).toInt + 2 := ia_add e_36 rfl (by decide) (by omega) (by omega)
  refine va_sld hx hb hX hbl hbA h.2 (vp_of i_37 (by omega) (by omega)) dL_law_1023 ?_
  refine lv_topi (fun x_38 e_39 => ?_)
  have s_40 : x_9 = x_38 := by rw [e_10, e_39, show x_6 = x_35 from (fa_eq _ _).mpr ((i_8).trans (i_37).symm)]
  subst s_40
  refine lv_aload_n hx hb dL_law_1024 rfl (lv_at hl 0 rfl) ?_
  refine lv_iload_n hx hb dL_law_1025 rfl (lv_at hl 3 rfl) ?_
  refine lv_iconst (v := 3) hx hb dL_law_1026 (by decide) ?_
  refine lv_iadd hx hb dL_law_1027 ?_
  refine lv_topi (fun x_41 e_42 => ?_)
  have i_43 : x_41.toInt = (x3).toInt + 3 := ia_add e_42 rfl (by decide) (by omega) (by omega)
  refine va_sld hx hb hX hbl hbA h.2 (vp_of i_43 (by omega) (by omega)) dL_law_1028 ?_
  refine lv_topi (fun x_44 e_45 => ?_)
  have s_46 : x_14 = x_44 := by rw [e_15, e_45, show x_11 = x_41 from (fa_eq _ _).mpr ((i_13).trans (i_43).symm)]
  subst s_46
  refine lv_aload_n hx hb dL_law_1029 rfl (lv_at hl 0 rfl) ?_
  refine lv_iload_n hx hb dL_law_1030 rfl (lv_at hl 3 rfl) ?_
  refine lv_iconst (v := 4) hx hb dL_law_1031 (by decide) ?_
  refine lv_iadd hx hb dL_law_1032 ?_
  refine lv_topi (fun x_47 e_48 => ?_)
  have i_49 : x_47.toInt = (x3).toInt + 4 := ia_add e_48 rfl (by decide) (by omega) (by omega)
  refine va_sld hx hb hX hbl hbA h.2 (vp_of i_49 (by omega) (by omega)) dL_law_1033 ?_
  refine lv_topi (fun x_50 e_51 => ?_)
  have s_52 : x_19 = x_50 := by rw [e_20, e_51, show x_16 = x_47 from (fa_eq _ _).mpr ((i_18).trans (i_49).symm)]
  subst s_52
  refine g_calli C (va_runV (As := [.int (x_4), .int (x_9), .int (x_14), .int (x_19)]) (rest := []) C.1 (c_X10_rule l G v_23 w sg x_4 (A1 := (x_4).toInt) rfl x_9 (A2 := (x_9).toInt) rfl x_14 (A3 := (x_14).toInt) rfl x_19 (A4 := (x_19).toInt) rfl u_28) (cwV 4 hts gL_law_X10_rule rfl rfl rfl (by decide +kernel) ⟨by rw [hR]; exact Nat.le_of_ble_eq_true rfl, by rw [hR]; exact Nat.le_of_ble_eq_true rfl⟩) ⟨gPre_blind, g_recv C h 106 (by decide) (ci := 10) rfl rfl, gS_pre C h _⟩ rfl rfl hl.1 rfl (lv_room (Nat.le_of_ble_eq_true rfl)) dL_law_1034 hcs) h (fun r_53 v_55 w_56 g_57 H locs p_54 h => ?_)
  obtain ⟨p_54, rfl, rfl⟩ := p_54
  have u_58 := cI_fM u_26 p_54.2.1 (by decide)
  have u_59 := u_27
  have u_60 := p_54.1
  have hrl_61 := pr_rule rfl rfl rfl rfl rl ci mi p_22 p_54
  refine lv_pop hx hb dL_law_1037 rfl ?_
  refine lv_goto (tgt := 1423) hx hb dL_law_1038 (by decide) ?_
  exact K v_55 w sg _ _ _ u_58 u_59 u_60 hrl_61.2 h (lv_sub hl [0, 1, 2, 3] rfl)

set_option maxHeartbeats 4000000 in
set_option maxRecDepth 100000 in
theorem lc_23 {p : Program} {l : Launch} {e : Env} {R : Room} {s : State} {m : MethodId} {args : Array Value} {below : List Frame} {meth : Method} {c : Code} {H : Heap} {locs : List Loc} {cells slots : Nat} {Q : State → Prop} {ls : Array Slot} {A : Nat → Prop} {G : gG} {v : Nat → Nat → Int32} {w : Nat → Nat → Int64} {sg : Nat → Nat} {b L : Nat} {xs : Nat → Int32} {x3 : Int32}
    (C : gC p s m c code 4 args wsL_law RL A G) (hR : R = room_1) (hcs : cells ≤ R.cells ∧ slots ≤ R.slots) (hX : va_X b L xs s s.heap) (hbl : b < s.heap.size) (hbA : ¬ A b) (hi3 : 0 ≤ x3.toInt ∧ x3.toInt + 7 ≤ (L : Int)) (hL : L ≤ 3584) (ci : cI v) (cg : cG sg) (mi : mI v) (rl : Rl v) (h : gS A G s v w sg H locs) (hl : lv_has ls 4 [(0, .ref b), (1, .ref (G.2.2 (0))), (2, .ref (G.2.2 (106))), (3, .int (x3))])
    (K : ∀ (v : Nat → Nat → Int32) (w : Nat → Nat → Int64) (sg : Nat → Nat) (H : Heap) (locs : List Loc) (ls : Array Slot), cI v → cG sg → mI v → Rl v → gS A G s v w sg H locs → lv_has ls 4 [(0, .ref b), (1, .ref (G.2.2 (0))), (2, .ref (G.2.2 (106))), (3, .int (x3))] → W p l e R s m args below meth c H locs cells slots Q (F0 m 1423 ls [])) : W p l e R s m args below meth c H locs cells slots Q (F0 m 1041 ls []) := by
  have hx := C.1.1
  have hb := C.1.2.1
  have hown := C.1.2.2.2.1
  have hts := C.1.2.2.2.2
  have z_0 : (0 : Int32).toInt = 0 := by decide
  have z_1 : (1 : Int32).toInt = 1 := by decide
  have z_2 : (2 : Int32).toInt = 2 := by decide
  have z_3 : (3 : Int32).toInt = 3 := by decide
  refine lv_aload_n hx hb dL_law_1041 rfl (lv_at hl 1 rfl) ?_
  refine lv_aload_n hx hb dL_law_1042 rfl (lv_at hl 0 rfl) ?_
  refine lv_iload_n hx hb dL_law_1043 rfl (lv_at hl 3 rfl) ?_
  refine lv_iconst (v := 1) hx hb dL_law_1044 (by decide) ?_
  refine lv_iadd hx hb dL_law_1045 ?_
  refine lv_topi (fun x_1 e_2 => ?_)
  have i_3 : x_1.toInt = (x3).toInt + 1 := ia_add e_2 rfl (by decide) (by omega) (by omega)
  refine va_sld hx hb hX hbl hbA h.2 (vp_of i_3 (by omega) (by omega)) dL_law_1046 ?_
  refine lv_topi (fun x_4 e_5 => ?_)
  refine lv_aload_n hx hb dL_law_1047 rfl (lv_at hl 0 rfl) ?_
  refine lv_iload_n hx hb dL_law_1048 rfl (lv_at hl 3 rfl) ?_
  refine lv_iconst (v := 2) hx hb dL_law_1049 (by decide) ?_
  refine lv_iadd hx hb dL_law_1050 ?_
  refine lv_topi (fun x_6 e_7 => ?_)
  have i_8 : x_6.toInt = (x3).toInt + 2 := ia_add e_7 rfl (by decide) (by omega) (by omega)
  refine va_sld hx hb hX hbl hbA h.2 (vp_of i_8 (by omega) (by omega)) dL_law_1051 ?_
  refine lv_topi (fun x_9 e_10 => ?_)
  refine lv_aload_n hx hb dL_law_1052 rfl (lv_at hl 0 rfl) ?_
  refine lv_iload_n hx hb dL_law_1053 rfl (lv_at hl 3 rfl) ?_
  refine lv_iconst (v := 3) hx hb dL_law_1054 (by decide) ?_
  refine lv_iadd hx hb dL_law_1055 ?_
  refine lv_topi (fun x_11 e_12 => ?_)
  have i_13 : x_11.toInt = (x3).toInt + 3 := ia_add e_12 rfl (by decide) (by omega) (by omega)
  refine va_sld hx hb hX hbl hbA h.2 (vp_of i_13 (by omega) (by omega)) dL_law_1056 ?_
  refine lv_topi (fun x_14 e_15 => ?_)
  refine g_calli C (va_runV (As := [.int (x_4), .int (x_9), .int (x_14)]) (rest := []) C.1 (c_X9_come l G v w sg x_4 (A1 := (x_4).toInt) rfl x_9 (A2 := (x_9).toInt) rfl x_14 (A3 := (x_14).toInt) rfl ci) (cwV 3 hts gL_law_X9_come rfl rfl rfl (by decide +kernel) ⟨by rw [hR]; exact Nat.le_of_ble_eq_true rfl, by rw [hR]; exact Nat.le_of_ble_eq_true rfl⟩) ⟨gPre_blind, g_recv C h 0 (by decide) (ci := 9) rfl rfl, gS_pre C h _⟩ rfl rfl hl.1 rfl (lv_room (Nat.le_of_ble_eq_true rfl)) dL_law_1057 hcs) h (fun r_16 v_18 w_19 g_20 H locs p_17 h => ?_)
  obtain ⟨p_17, rfl, rfl⟩ := p_17
  have u_21 := p_17.1
  have u_22 := cg
  have u_23 := mI_fC mi p_17.2.1 (by decide)
  refine lv_pop hx hb dL_law_1060 rfl ?_
  refine lv_aload_n hx hb dL_law_1061 rfl (lv_at hl 2 rfl) ?_
  refine lv_aload_n hx hb dL_law_1062 rfl (lv_at hl 0 rfl) ?_
  refine lv_iload_n hx hb dL_law_1063 rfl (lv_at hl 3 rfl) ?_
  refine lv_iconst (v := 1) hx hb dL_law_1064 (by decide) ?_
  refine lv_iadd hx hb dL_law_1065 ?_
  refine lv_topi (fun x_24 e_25 => ?_)
  have i_26 : x_24.toInt = (x3).toInt + 1 := ia_add e_25 rfl (by decide) (by omega) (by omega)
  refine va_sld hx hb hX hbl hbA h.2 (vp_of i_26 (by omega) (by omega)) dL_law_1066 ?_
  refine lv_topi (fun x_27 e_28 => ?_)
  have s_29 : x_4 = x_27 := by rw [e_5, e_28, show x_1 = x_24 from (fa_eq _ _).mpr ((i_3).trans (i_26).symm)]
  subst s_29
  refine lv_aload_n hx hb dL_law_1067 rfl (lv_at hl 0 rfl) ?_
  refine lv_iload_n hx hb dL_law_1068 rfl (lv_at hl 3 rfl) ?_
  refine lv_iconst (v := 2) hx hb dL_law_1069 (by decide) ?_
  refine lv_iadd hx hb dL_law_1070 ?_
  refine lv_topi (fun x_30 e_31 => ?_)
  have i_32 : x_30.toInt = (x3).toInt + 2 := ia_add e_31 rfl (by decide) (by omega) (by omega)
  refine va_sld hx hb hX hbl hbA h.2 (vp_of i_32 (by omega) (by omega)) dL_law_1071 ?_
  refine lv_topi (fun x_33 e_34 => ?_)
  have s_35 : x_9 = x_33 := by rw [e_10, e_34, show x_6 = x_30 from (fa_eq _ _).mpr ((i_8).trans (i_32).symm)]
  subst s_35
  refine lv_aload_n hx hb dL_law_1072 rfl (lv_at hl 0 rfl) ?_
  refine lv_iload_n hx hb dL_law_1073 rfl (lv_at hl 3 rfl) ?_
  refine lv_iconst (v := 3) hx hb dL_law_1074 (by decide) ?_
  refine lv_iadd hx hb dL_law_1075 ?_
  refine lv_topi (fun x_36 e_37 => ?_)
  have i_38 : x_36.toInt = (x3).toInt + 3 := ia_add e_37 rfl (by decide) (by omega) (by omega)
  refine va_sld hx hb hX hbl hbA h.2 (vp_of i_38 (by omega) (by omega)) dL_law_1076 ?_
  refine lv_topi (fun x_39 e_40 => ?_)
  have s_41 : x_14 = x_39 := by rw [e_15, e_40, show x_11 = x_36 from (fa_eq _ _).mpr ((i_13).trans (i_38).symm)]
  subst s_41
  refine g_calli C (va_runV (As := [.int (x_4), .int (x_9), .int (x_14)]) (rest := []) C.1 (c_X10_come l G v_18 w sg x_4 (A1 := (x_4).toInt) rfl x_9 (A2 := (x_9).toInt) rfl x_14 (A3 := (x_14).toInt) rfl u_23) (cwV 3 hts gL_law_X10_come rfl rfl rfl (by decide +kernel) ⟨by rw [hR]; exact Nat.le_of_ble_eq_true rfl, by rw [hR]; exact Nat.le_of_ble_eq_true rfl⟩) ⟨gPre_blind, g_recv C h 106 (by decide) (ci := 10) rfl rfl, gS_pre C h _⟩ rfl rfl hl.1 rfl (lv_room (Nat.le_of_ble_eq_true rfl)) dL_law_1077 hcs) h (fun r_42 v_44 w_45 g_46 H locs p_43 h => ?_)
  obtain ⟨p_43, rfl, rfl⟩ := p_43
  have u_47 := cI_fM u_21 p_43.2.1 (by decide)
  have u_48 := u_22
  have u_49 := p_43.1
  have hrl_50 := pr_come rfl rfl rfl rl ci mi p_17 p_43
  refine lv_pop hx hb dL_law_1080 rfl ?_
  refine lv_goto (tgt := 1423) hx hb dL_law_1081 (by decide) ?_
  exact K v_44 w sg _ _ _ u_47 u_48 u_49 hrl_50.2 h (lv_sub hl [0, 1, 2, 3] rfl)

set_option maxHeartbeats 4000000 in
set_option maxRecDepth 100000 in
theorem lc_24 {p : Program} {l : Launch} {e : Env} {R : Room} {s : State} {m : MethodId} {args : Array Value} {below : List Frame} {meth : Method} {c : Code} {H : Heap} {locs : List Loc} {cells slots : Nat} {Q : State → Prop} {ls : Array Slot} {A : Nat → Prop} {G : gG} {v : Nat → Nat → Int32} {w : Nat → Nat → Int64} {sg : Nat → Nat} {b L : Nat} {xs : Nat → Int32} {x3 : Int32}
    (C : gC p s m c code 4 args wsL_law RL A G) (hR : R = room_1) (hcs : cells ≤ R.cells ∧ slots ≤ R.slots) (hX : va_X b L xs s s.heap) (hbl : b < s.heap.size) (hbA : ¬ A b) (hi3 : 0 ≤ x3.toInt ∧ x3.toInt + 7 ≤ (L : Int)) (hL : L ≤ 3584) (ci : cI v) (cg : cG sg) (mi : mI v) (rl : Rl v) (h : gS A G s v w sg H locs) (hl : lv_has ls 4 [(0, .ref b), (1, .ref (G.2.2 (0))), (2, .ref (G.2.2 (106))), (3, .int (x3))])
    (K : ∀ (v : Nat → Nat → Int32) (w : Nat → Nat → Int64) (sg : Nat → Nat) (H : Heap) (locs : List Loc) (ls : Array Slot), cI v → cG sg → mI v → Rl v → gS A G s v w sg H locs → lv_has ls 4 [(0, .ref b), (1, .ref (G.2.2 (0))), (2, .ref (G.2.2 (106))), (3, .int (x3))] → W p l e R s m args below meth c H locs cells slots Q (F0 m 1423 ls [])) : W p l e R s m args below meth c H locs cells slots Q (F0 m 1084 ls []) := by
  have hx := C.1.1
  have hb := C.1.2.1
  have hown := C.1.2.2.2.1
  have hts := C.1.2.2.2.2
  have z_0 : (0 : Int32).toInt = 0 := by decide
  have z_1 : (1 : Int32).toInt = 1 := by decide
  refine lv_aload_n hx hb dL_law_1084 rfl (lv_at hl 1 rfl) ?_
  refine lv_aload_n hx hb dL_law_1085 rfl (lv_at hl 0 rfl) ?_
  refine lv_iload_n hx hb dL_law_1086 rfl (lv_at hl 3 rfl) ?_
  refine lv_iconst (v := 1) hx hb dL_law_1087 (by decide) ?_
  refine lv_iadd hx hb dL_law_1088 ?_
  refine lv_topi (fun x_1 e_2 => ?_)
  have i_3 : x_1.toInt = (x3).toInt + 1 := ia_add e_2 rfl (by decide) (by omega) (by omega)
  refine va_sld hx hb hX hbl hbA h.2 (vp_of i_3 (by omega) (by omega)) dL_law_1089 ?_
  refine lv_topi (fun x_4 e_5 => ?_)
  refine g_calli C (va_runV (As := [.int (x_4)]) (rest := []) C.1 (c_X9_settled l G v w sg x_4 (A1 := (x_4).toInt) rfl ci) (cwV 1 hts gL_law_X9_settled rfl rfl rfl (by decide +kernel) ⟨by rw [hR]; exact Nat.le_of_ble_eq_true rfl, by rw [hR]; exact Nat.le_of_ble_eq_true rfl⟩) ⟨gPre_blind, g_recv C h 0 (by decide) (ci := 9) rfl rfl, gS_pre C h _⟩ rfl rfl hl.1 rfl (lv_room (Nat.le_of_ble_eq_true rfl)) dL_law_1090 hcs) h (fun r_6 v_8 w_9 g_10 H locs p_7 h => ?_)
  obtain ⟨p_7, rfl, rfl, rfl⟩ := p_7
  refine lv_pop hx hb dL_law_1093 rfl ?_
  refine lv_aload_n hx hb dL_law_1094 rfl (lv_at hl 2 rfl) ?_
  refine lv_aload_n hx hb dL_law_1095 rfl (lv_at hl 0 rfl) ?_
  refine lv_iload_n hx hb dL_law_1096 rfl (lv_at hl 3 rfl) ?_
  refine lv_iconst (v := 1) hx hb dL_law_1097 (by decide) ?_
  refine lv_iadd hx hb dL_law_1098 ?_
  refine lv_topi (fun x_11 e_12 => ?_)
  have i_13 : x_11.toInt = (x3).toInt + 1 := ia_add e_12 rfl (by decide) (by omega) (by omega)
  refine va_sld hx hb hX hbl hbA h.2 (vp_of i_13 (by omega) (by omega)) dL_law_1099 ?_
  refine lv_topi (fun x_14 e_15 => ?_)
  have s_16 : x_4 = x_14 := by rw [e_5, e_15, show x_1 = x_11 from (fa_eq _ _).mpr ((i_3).trans (i_13).symm)]
  subst s_16
  refine g_calli C (va_runV (As := [.int (x_4)]) (rest := []) C.1 (c_X10_settled l G v w sg x_4 (A1 := (x_4).toInt) rfl mi) (cwV 1 hts gL_law_X10_settled rfl rfl rfl (by decide +kernel) ⟨by rw [hR]; exact Nat.le_of_ble_eq_true rfl, by rw [hR]; exact Nat.le_of_ble_eq_true rfl⟩) ⟨gPre_blind, g_recv C h 106 (by decide) (ci := 10) rfl rfl, gS_pre C h _⟩ rfl rfl hl.1 rfl (lv_room (Nat.le_of_ble_eq_true rfl)) dL_law_1100 hcs) h (fun r_17 v_19 w_20 g_21 H locs p_18 h => ?_)
  obtain ⟨p_18, rfl, rfl, rfl⟩ := p_18
  have hrl_22 := pr_settled rfl rl ci mi p_7 p_18
  refine lv_pop hx hb dL_law_1103 rfl ?_
  refine lv_goto (tgt := 1423) hx hb dL_law_1104 (by decide) ?_
  exact K v w sg _ _ _ ci cg mi hrl_22.2 h (lv_sub hl [0, 1, 2, 3] rfl)

set_option maxHeartbeats 4000000 in
set_option maxRecDepth 100000 in
theorem lc_25 {p : Program} {l : Launch} {e : Env} {R : Room} {s : State} {m : MethodId} {args : Array Value} {below : List Frame} {meth : Method} {c : Code} {H : Heap} {locs : List Loc} {cells slots : Nat} {Q : State → Prop} {ls : Array Slot} {A : Nat → Prop} {G : gG} {v : Nat → Nat → Int32} {w : Nat → Nat → Int64} {sg : Nat → Nat} {b L : Nat} {xs : Nat → Int32} {x3 : Int32}
    (C : gC p s m c code 4 args wsL_law RL A G) (hR : R = room_1) (hcs : cells ≤ R.cells ∧ slots ≤ R.slots) (hX : va_X b L xs s s.heap) (hbl : b < s.heap.size) (hbA : ¬ A b) (hi3 : 0 ≤ x3.toInt ∧ x3.toInt + 7 ≤ (L : Int)) (hL : L ≤ 3584) (ci : cI v) (cg : cG sg) (mi : mI v) (rl : Rl v) (h : gS A G s v w sg H locs) (hl : lv_has ls 4 [(0, .ref b), (1, .ref (G.2.2 (0))), (2, .ref (G.2.2 (106))), (3, .int (x3))])
    (K : ∀ (v : Nat → Nat → Int32) (w : Nat → Nat → Int64) (sg : Nat → Nat) (H : Heap) (locs : List Loc) (ls : Array Slot), cI v → cG sg → mI v → Rl v → gS A G s v w sg H locs → lv_has ls 4 [(0, .ref b), (1, .ref (G.2.2 (0))), (2, .ref (G.2.2 (106))), (3, .int (x3))] → W p l e R s m args below meth c H locs cells slots Q (F0 m 1423 ls [])) : W p l e R s m args below meth c H locs cells slots Q (F0 m 1107 ls []) := by
  have hx := C.1.1
  have hb := C.1.2.1
  have hown := C.1.2.2.2.1
  have hts := C.1.2.2.2.2
  have z_0 : (0 : Int32).toInt = 0 := by decide
  have z_1 : (1 : Int32).toInt = 1 := by decide
  refine lv_aload_n hx hb dL_law_1107 rfl (lv_at hl 1 rfl) ?_
  refine g_calli C (va_runV (As := []) (rest := []) C.1 (c_X9_anew l G v w sg  ci) (cwV 0 hts gL_law_X9_anew rfl rfl rfl (by decide +kernel) ⟨by rw [hR]; exact Nat.le_of_ble_eq_true rfl, by rw [hR]; exact Nat.le_of_ble_eq_true rfl⟩) ⟨gPre_blind, g_recv C h 0 (by decide) (ci := 9) rfl rfl, gS_pre C h _⟩ rfl rfl hl.1 rfl (lv_room (Nat.le_of_ble_eq_true rfl)) dL_law_1108 hcs) h (fun r_1 v_3 w_4 g_5 H locs p_2 h => ?_)
  obtain ⟨p_2, rfl, rfl⟩ := p_2
  have u_6 := p_2.1
  have u_7 := cg
  have u_8 := mI_fC mi p_2.2.1 (by decide)
  refine lv_pop hx hb dL_law_1111 rfl ?_
  refine lv_aload_n hx hb dL_law_1112 rfl (lv_at hl 2 rfl) ?_
  refine g_calli C (va_runV (As := []) (rest := []) C.1 (c_X10_anew l G v_3 w sg  u_8) (cwV 0 hts gL_law_X10_anew rfl rfl rfl (by decide +kernel) ⟨by rw [hR]; exact Nat.le_of_ble_eq_true rfl, by rw [hR]; exact Nat.le_of_ble_eq_true rfl⟩) ⟨gPre_blind, g_recv C h 106 (by decide) (ci := 10) rfl rfl, gS_pre C h _⟩ rfl rfl hl.1 rfl (lv_room (Nat.le_of_ble_eq_true rfl)) dL_law_1113 hcs) h (fun r_9 v_11 w_12 g_13 H locs p_10 h => ?_)
  obtain ⟨p_10, rfl, rfl⟩ := p_10
  have u_14 := cI_fM u_6 p_10.2.1 (by decide)
  have u_15 := u_7
  have u_16 := p_10.1
  have hrl_17 := pr_anew  rl ci mi p_2 p_10
  refine lv_pop hx hb dL_law_1116 rfl ?_
  refine lv_goto (tgt := 1423) hx hb dL_law_1117 (by decide) ?_
  exact K v_11 w sg _ _ _ u_14 u_15 u_16 hrl_17.2 h (lv_sub hl [0, 1, 2, 3] rfl)

set_option maxHeartbeats 4000000 in
set_option maxRecDepth 100000 in
theorem lc_26 {p : Program} {l : Launch} {e : Env} {R : Room} {s : State} {m : MethodId} {args : Array Value} {below : List Frame} {meth : Method} {c : Code} {H : Heap} {locs : List Loc} {cells slots : Nat} {Q : State → Prop} {ls : Array Slot} {A : Nat → Prop} {G : gG} {v : Nat → Nat → Int32} {w : Nat → Nat → Int64} {sg : Nat → Nat} {b L : Nat} {xs : Nat → Int32} {x3 : Int32}
    (C : gC p s m c code 4 args wsL_law RL A G) (hR : R = room_1) (hcs : cells ≤ R.cells ∧ slots ≤ R.slots) (hX : va_X b L xs s s.heap) (hbl : b < s.heap.size) (hbA : ¬ A b) (hi3 : 0 ≤ x3.toInt ∧ x3.toInt + 7 ≤ (L : Int)) (hL : L ≤ 3584) (ci : cI v) (cg : cG sg) (mi : mI v) (rl : Rl v) (h : gS A G s v w sg H locs) (hl : lv_has ls 4 [(0, .ref b), (1, .ref (G.2.2 (0))), (2, .ref (G.2.2 (106))), (3, .int (x3))])
    (K : ∀ (v : Nat → Nat → Int32) (w : Nat → Nat → Int64) (sg : Nat → Nat) (H : Heap) (locs : List Loc) (ls : Array Slot), cI v → cG sg → mI v → Rl v → gS A G s v w sg H locs → lv_has ls 4 [(0, .ref b), (1, .ref (G.2.2 (0))), (2, .ref (G.2.2 (106))), (3, .int (x3))] → W p l e R s m args below meth c H locs cells slots Q (F0 m 1423 ls [])) : W p l e R s m args below meth c H locs cells slots Q (F0 m 1120 ls []) := by
  have hx := C.1.1
  have hb := C.1.2.1
  have hown := C.1.2.2.2.1
  have hts := C.1.2.2.2.2
  have z_0 : (0 : Int32).toInt = 0 := by decide
  have z_1 : (1 : Int32).toInt = 1 := by decide
  refine lv_aload_n hx hb dL_law_1120 rfl (lv_at hl 1 rfl) ?_
  refine lv_aload_n hx hb dL_law_1121 rfl (lv_at hl 0 rfl) ?_
  refine lv_iload_n hx hb dL_law_1122 rfl (lv_at hl 3 rfl) ?_
  refine lv_iconst (v := 1) hx hb dL_law_1123 (by decide) ?_
  refine lv_iadd hx hb dL_law_1124 ?_
  refine lv_topi (fun x_1 e_2 => ?_)
  have i_3 : x_1.toInt = (x3).toInt + 1 := ia_add e_2 rfl (by decide) (by omega) (by omega)
  refine va_sld hx hb hX hbl hbA h.2 (vp_of i_3 (by omega) (by omega)) dL_law_1125 ?_
  refine lv_topi (fun x_4 e_5 => ?_)
  refine g_calli C (va_runV (As := [.int (x_4)]) (rest := []) C.1 (c_X9_tube l G v w sg x_4 (A1 := (x_4).toInt) rfl ci) (cwV 1 hts gL_law_X9_tube rfl rfl rfl (by decide +kernel) ⟨by rw [hR]; exact Nat.le_of_ble_eq_true rfl, by rw [hR]; exact Nat.le_of_ble_eq_true rfl⟩) ⟨gPre_blind, g_recv C h 0 (by decide) (ci := 9) rfl rfl, gS_pre C h _⟩ rfl rfl hl.1 rfl (lv_room (Nat.le_of_ble_eq_true rfl)) dL_law_1126 hcs) h (fun r_6 v_8 w_9 g_10 H locs p_7 h => ?_)
  obtain ⟨p_7, rfl, rfl⟩ := p_7
  have u_11 := p_7.1
  have u_12 := cg
  have u_13 := mI_fC mi p_7.2.1 (by decide)
  refine lv_pop hx hb dL_law_1129 rfl ?_
  refine lv_aload_n hx hb dL_law_1130 rfl (lv_at hl 2 rfl) ?_
  refine lv_aload_n hx hb dL_law_1131 rfl (lv_at hl 0 rfl) ?_
  refine lv_iload_n hx hb dL_law_1132 rfl (lv_at hl 3 rfl) ?_
  refine lv_iconst (v := 1) hx hb dL_law_1133 (by decide) ?_
  refine lv_iadd hx hb dL_law_1134 ?_
  refine lv_topi (fun x_14 e_15 => ?_)
  have i_16 : x_14.toInt = (x3).toInt + 1 := ia_add e_15 rfl (by decide) (by omega) (by omega)
  refine va_sld hx hb hX hbl hbA h.2 (vp_of i_16 (by omega) (by omega)) dL_law_1135 ?_
  refine lv_topi (fun x_17 e_18 => ?_)
  have s_19 : x_4 = x_17 := by rw [e_5, e_18, show x_1 = x_14 from (fa_eq _ _).mpr ((i_3).trans (i_16).symm)]
  subst s_19
  refine g_calli C (va_runV (As := [.int (x_4)]) (rest := []) C.1 (c_X10_tube l G v_8 w sg x_4 (A1 := (x_4).toInt) rfl u_13) (cwV 1 hts gL_law_X10_tube rfl rfl rfl (by decide +kernel) ⟨by rw [hR]; exact Nat.le_of_ble_eq_true rfl, by rw [hR]; exact Nat.le_of_ble_eq_true rfl⟩) ⟨gPre_blind, g_recv C h 106 (by decide) (ci := 10) rfl rfl, gS_pre C h _⟩ rfl rfl hl.1 rfl (lv_room (Nat.le_of_ble_eq_true rfl)) dL_law_1136 hcs) h (fun r_20 v_22 w_23 g_24 H locs p_21 h => ?_)
  obtain ⟨p_21, rfl, rfl⟩ := p_21
  have u_25 := cI_fM u_11 p_21.2.1 (by decide)
  have u_26 := u_12
  have u_27 := p_21.1
  have hrl_28 := pr_tube rfl rl ci mi p_7 p_21
  refine lv_pop hx hb dL_law_1139 rfl ?_
  refine lv_goto (tgt := 1423) hx hb dL_law_1140 (by decide) ?_
  exact K v_22 w sg _ _ _ u_25 u_26 u_27 hrl_28.2 h (lv_sub hl [0, 1, 2, 3] rfl)
