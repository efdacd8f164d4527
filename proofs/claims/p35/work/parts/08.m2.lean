set_option maxHeartbeats 4000000 in
set_option maxRecDepth 100000 in
theorem c_X10_down (l : Launch) (G : gG) (v : Nat → Nat → Int32) (w : Nat → Nat → Int64) (sg : Nat → Nat) (p0 : Int64) {A0 : Int} (a0 : p0.toInt = A0) (p2 : Int64) {A2 : Int} (a2 : p2.toInt = A2) (hd : 0 < A2) : Met l yX10_down wsX10_down ({ frames := 0, cells := 0, slots := 0, locals := 0 }) (gPre G v w sg [.long (p0), .long (p2)]) (gQl G (fun r v' w' sg' => (r.toInt = A0 / A2 ∧ fdB A0 r.toInt) ∧ v = v' ∧ w = w' ∧ sg = sg')) 0 0 (gA G) := by
  refine gM_ofl (cc := cX10_down) (maxL := 6) (by decide) rfl (Nat.le_of_ble_eq_true rfl) ?_
  intro p e R s m args below meth c Q ls C hR ret h hl
  have hx := C.1.1
  have hb := C.1.2.1
  have hown := C.1.2.2.2.1
  have hts := C.1.2.2.2.2
  have hl : lv_has ls 6 [(0, .long (p0)), (2, .long (p2))] := hl
  have q0 := l_rng p0; rw [a0] at q0
  have q2 := l_rng p2; rw [a2] at q2
  have z_0 : (0 : Int32).toInt = 0 := by decide
  have z_1 : (1 : Int32).toInt = 1 := by decide
  refine lv_lload_n hx hb dX10_down_0 rfl (lv_at hl 0 rfl) ?_
  refine lv_lload_n hx hb dX10_down_1 rfl (lv_at hl 1 rfl) ?_
  refine lv_ldiv hx hb dX10_down_2 (l_ne0 a2 (by omega)) ?_
  refine lv_topl (fun x_1 e_2 => ?_)
  have hdq := e_2
  refine lv_lstore (lv' := [(4, .long (x_1)), (0, .long (p0)), (2, .long (p2))]) hx hb dX10_down_3 hl (by decide) rfl (fun ls hl => ?_)
  refine lv_lload_n hx hb dX10_down_5 rfl (lv_at hl 1 rfl) ?_
  refine lv_lload_n hx hb dX10_down_6 rfl (lv_at hl 2 rfl) ?_
  refine lv_lrem hx hb dX10_down_7 (l_ne0 a2 (by omega)) ?_
  refine lv_topl (fun x_3 e_4 => ?_)
  have hdn := dn_a hdq e_4 a0 a2 hd
  refine lv_lconst (v := 0) hx hb dX10_down_8 (by decide) ?_
  refine W.lcmp hx hb dX10_down_9 ?_
  refine lv_if_ge (tgt := 20) hx hb dX10_down_10 (by decide) (fun c_5 => ?_) (fun c_5 => ?_)
  · have j_6 : 0 ≤ (x_3).toInt := (l_ge0 rfl (by decide)).mp c_5
    refine lv_lload hx hb dX10_down_20 (lv_at hl 0 rfl) ?_
    exact ret x_1 v w sg _ _ _ _ dX10_down_22 h ⟨(by have hq : x_1.toInt = A0 / A2 := (by exact hdn.1 (by omega)); exact ⟨hq, hq ▸ fdB_of hd⟩), rfl, rfl, rfl⟩
  · have j_6 : ¬ (0 ≤ (x_3).toInt) := fun q => c_5 ((l_ge0 rfl (by decide)).mpr q)
    refine lv_lload hx hb dX10_down_13 (lv_at hl 0 rfl) ?_
    refine lv_lconst (v := 1) hx hb dX10_down_15 (by decide) ?_
    refine lv_lsub hx hb dX10_down_16 ?_
    refine lv_topl (fun x_7 e_8 => ?_)
    refine lv_goto (tgt := 22) hx hb dX10_down_17 (by decide) ?_
    exact ret x_7 v w sg _ _ _ _ dX10_down_22 h ⟨(by have hq : x_7.toInt = A0 / A2 := (by rw [e_8]; exact hdn.2 (by omega)); exact ⟨hq, hq ▸ fdB_of hd⟩), rfl, rfl, rfl⟩

set_option maxHeartbeats 4000000 in
set_option maxRecDepth 100000 in
theorem c_X10_nearest (l : Launch) (G : gG) (v : Nat → Nat → Int32) (w : Nat → Nat → Int64) (sg : Nat → Nat) (p0 : Int64) {A0 : Int} (a0 : p0.toInt = A0) (p2 : Int64) {A2 : Int} (a2 : p2.toInt = A2) (hd : A2 ≠ 0 ∧ -6000000 ≤ A2 ∧ A2 ≤ 6000000) (b0 : -1000000000000 ≤ A0 ∧ A0 ≤ 1000000000000) : Met l yX10_nearest wsX10_nearest ({ frames := 1, cells := 0, slots := 0, locals := 25 }) (gPre G v w sg [.long (p0), .long (p2)]) (gQl G (fun r v' w' sg' => (r.toInt = nrI A0 (100 * A2)) ∧ v = v' ∧ w = w' ∧ sg = sg')) 0 0 (gA G) := by
  refine gM_ofl (cc := cX10_nearest) (maxL := 10) (by decide) rfl (Nat.le_of_ble_eq_true rfl) ?_
  intro p e R s m args below meth c Q ls C hR ret h hl
  have hx := C.1.1
  have hb := C.1.2.1
  have hown := C.1.2.2.2.1
  have hts := C.1.2.2.2.2
  have hl : lv_has ls 10 [(0, .long (p0)), (2, .long (p2))] := hl
  have q0 := l_rng p0; rw [a0] at q0
  have q2 := l_rng p2; rw [a2] at q2
  have z_0 : (0 : Int32).toInt = 0 := by decide
  have z_1 : (1 : Int32).toInt = 1 := by decide
  have k126 : (Cond.constantLong RX10 126 (100)).before args s = true := hts _ (by decide +kernel)
  have k122 : (Cond.constantLong RX10 122 (2)).before args s = true := hts _ (by decide +kernel)
  have k118 : (Cond.constantLong RX10 118 (-50)).before args s = true := hts _ (by decide +kernel)
  have k120 : (Cond.constantLong RX10 120 (50)).before args s = true := hts _ (by decide +kernel)
  refine lv_ldc2 hx hb hown k126 dX10_nearest_0 ?_
  refine lv_lload_n hx hb dX10_nearest_3 rfl (lv_at hl 1 rfl) ?_
  refine lv_lconst (v := 0) hx hb dX10_nearest_4 (by decide) ?_
  refine W.lcmp hx hb dX10_nearest_5 ?_
  have J15_1 : ∀ (y_1 : Int64) (H : Heap) (locs : List Loc) (ls : Array Slot), (0 < (y_1).toInt ∧ (y_1).toInt ≤ 6000000) → ((y_1).toInt = (if A2 < 0 then -A2 else A2)) → gS (gA G) G s v w sg H locs → lv_has ls 10 [(0, .long (p0)), (2, .long (p2))] → W p l e R s m args below meth c H locs 0 0 Q (F0 m 15 ls [.long (y_1), .long (100)]) := by
    intro y_1 H locs ls f_2 f_3 h hl
    refine lv_lmul hx hb dX10_nearest_15 ?_
    refine lv_topl (fun x_4 e_5 => ?_)
    have i_6 : x_4.toInt = 100 * (y_1).toInt := la_mul e_5 (by decide) rfl (by omega) (by omega)
    refine lv_lstore (lv' := [(4, .long (x_4)), (0, .long (p0)), (2, .long (p2))]) hx hb dX10_nearest_16 hl (by decide) rfl (fun ls hl => ?_)
    refine lv_lload_n hx hb dX10_nearest_18 rfl (lv_at hl 2 rfl) ?_
    refine lv_lconst (v := 0) hx hb dX10_nearest_19 (by decide) ?_
    refine W.lcmp hx hb dX10_nearest_20 ?_
    have J30_7 : ∀ (y_7 : Int64) (H : Heap) (locs : List Loc) (ls : Array Slot), ((y_7).toInt = (if A2 < 0 then -A0 else A0)) → (-1000000000000 ≤ (y_7).toInt ∧ (y_7).toInt ≤ 1000000000000) → gS (gA G) G s v w sg H locs → lv_has ls 10 [(0, .long (p0)), (2, .long (p2)), (4, .long (x_4))] → W p l e R s m args below meth c H locs 0 0 Q (F0 m 30 ls [.long (y_7)]) := by
      intro y_7 H locs ls f_8 f_9 h hl
      refine lv_lstore (lv' := [(6, .long (y_7)), (0, .long (p0)), (2, .long (p2)), (4, .long (x_4))]) hx hb dX10_nearest_30 hl (by decide) rfl (fun ls hl => ?_)
      refine lv_ldc2 hx hb hown k122 dX10_nearest_32 ?_
      refine lv_lload hx hb dX10_nearest_35 (lv_at hl 0 rfl) ?_
      refine lv_lmul hx hb dX10_nearest_37 ?_
      refine lv_topl (fun x_10 e_11 => ?_)
      have i_12 : x_10.toInt = 2 * (y_7).toInt := la_mul e_11 (by decide) rfl (by omega) (by omega)
      refine lv_lload hx hb dX10_nearest_38 (lv_at hl 3 rfl) ?_
      refine lv_ladd hx hb dX10_nearest_40 ?_
      refine lv_topl (fun x_13 e_14 => ?_)
      have i_15 : x_13.toInt = (2 * (y_7).toInt) + (100 * (y_1).toInt) := la_add e_14 i_12 i_6 (by omega) (by omega)
      refine lv_ldc2 hx hb hown k122 dX10_nearest_41 ?_
      refine lv_lload hx hb dX10_nearest_44 (lv_at hl 3 rfl) ?_
      refine lv_lmul hx hb dX10_nearest_46 ?_
      refine lv_topl (fun x_16 e_17 => ?_)
      have i_18 : x_16.toInt = 2 * (100 * (y_1).toInt) := la_mul e_17 (by decide) i_6 (by omega) (by omega)
      refine g_calll C (va_runS (As := [.long (x_13), .long (x_16)]) (rest := []) C.1 (c_X10_down l G v w sg x_13 (A0 := ((2 * (y_7).toInt) + (100 * (y_1).toInt))) i_15 x_16 (A2 := (2 * (100 * (y_1).toInt))) i_18 (by omega)) (va_cwS 2 hts gX10_nearest_X10_down rfl rfl rfl (by decide +kernel) ⟨by rw [hR]; exact Nat.le_of_ble_eq_true rfl, by rw [hR]; exact Nat.le_of_ble_eq_true rfl⟩) ⟨gPre_blind, gS_pre C h _⟩ rfl rfl hl.1 rfl (lv_room (Nat.le_of_ble_eq_true rfl)) dX10_nearest_47 ⟨Nat.zero_le _, Nat.zero_le _⟩) h (fun r_19 v_21 w_22 g_23 H locs p_20 h => ?_)
      obtain ⟨p_20, rfl, rfl, rfl⟩ := p_20
      have hq47 : (r_19).toInt = (2 * (if A2 < 0 then -A0 else A0) + 100 * (if A2 < 0 then -A2 else A2)) / (2 * (100 * (if A2 < 0 then -A2 else A2))) := by rw [p_20.1, f_3, f_8]
      refine lv_lstore (lv' := [(8, .long (r_19)), (6, .long (y_7)), (0, .long (p0)), (2, .long (p2)), (4, .long (x_4))]) hx hb dX10_nearest_50 hl (by decide) rfl (fun ls hl => ?_)
      refine lv_lload hx hb dX10_nearest_52 (lv_at hl 0 rfl) ?_
      refine lv_ldc2 hx hb hown k118 dX10_nearest_54 ?_
      refine W.lcmp hx hb dX10_nearest_57 ?_
      refine lv_if_ge (tgt := 67) hx hb dX10_nearest_58 (by decide) (fun c_24 => ?_) (fun c_24 => ?_)
      · have j_25 : (-50) ≤ (r_19).toInt := (l_ge0 rfl (by decide)).mp c_24
        refine lv_lload hx hb dX10_nearest_67 (lv_at hl 0 rfl) ?_
        refine lv_ldc2 hx hb hown k120 dX10_nearest_69 ?_
        refine W.lcmp hx hb dX10_nearest_72 ?_
        refine lv_if_le (tgt := 82) hx hb dX10_nearest_73 (by decide) (fun c_26 => ?_) (fun c_26 => ?_)
        · have j_27 : (r_19).toInt ≤ 50 := (l_le0 rfl (by decide)).mp c_26
          refine lv_lload hx hb dX10_nearest_82 (lv_at hl 0 rfl) ?_
          exact ret r_19 v w sg _ _ _ _ dX10_nearest_84 h ⟨(by rw [← nr_eq hd.1, ← hq47]; unfold clI; rw [if_neg (by omega), if_neg (by omega)]), rfl, rfl, rfl⟩
        · have j_27 : ¬ ((r_19).toInt ≤ 50) := fun q => c_26 ((l_le0 rfl (by decide)).mpr q)
          refine lv_ldc2 hx hb hown k120 dX10_nearest_76 ?_
          refine lv_goto (tgt := 84) hx hb dX10_nearest_79 (by decide) ?_
          exact ret 50 v w sg _ _ _ _ dX10_nearest_84 h ⟨(by rw [← nr_eq hd.1, ← hq47]; unfold clI; rw [if_neg (by omega), if_pos (by omega)]; decide), rfl, rfl, rfl⟩
      · have j_25 : ¬ ((-50) ≤ (r_19).toInt) := fun q => c_24 ((l_ge0 rfl (by decide)).mpr q)
        refine lv_ldc2 hx hb hown k118 dX10_nearest_61 ?_
        refine lv_goto (tgt := 84) hx hb dX10_nearest_64 (by decide) ?_
        exact ret (-50) v w sg _ _ _ _ dX10_nearest_84 h ⟨(by rw [← nr_eq hd.1, ← hq47]; unfold clI; rw [if_pos (by omega)]; decide), rfl, rfl, rfl⟩
    refine lv_if_ge (tgt := 29) hx hb dX10_nearest_21 (by decide) (fun c_28 => ?_) (fun c_28 => ?_)
    · have j_29 : 0 ≤ A2 := (l_ge0 a2 (by decide)).mp c_28
      refine lv_lload_n hx hb dX10_nearest_29 rfl (lv_at hl 1 rfl) ?_
      exact J30_7 p0 _ _ _ (by split <;> omega) (by omega) h (lv_sub hl [1, 2, 0] rfl)
    · have j_29 : ¬ (0 ≤ A2) := fun q => c_28 ((l_ge0 a2 (by decide)).mpr q)
      refine lv_lload_n hx hb dX10_nearest_24 rfl (lv_at hl 1 rfl) ?_
      refine lv_lneg hx hb dX10_nearest_25 ?_
      refine lv_topl (fun x_30 e_31 => ?_)
      have i_32 : x_30.toInt = -A0 := la_neg e_31 a0 (by omega)
      refine lv_goto (tgt := 30) hx hb dX10_nearest_26 (by decide) ?_
      exact J30_7 x_30 _ _ _ (by split <;> omega) (by omega) h (lv_sub hl [1, 2, 0] rfl)
  refine lv_if_ge (tgt := 14) hx hb dX10_nearest_6 (by decide) (fun c_33 => ?_) (fun c_33 => ?_)
  · have j_34 : 0 ≤ A2 := (l_ge0 a2 (by decide)).mp c_33
    refine lv_lload_n hx hb dX10_nearest_14 rfl (lv_at hl 1 rfl) ?_
    exact J15_1 p2 _ _ _ (by omega) (by split <;> omega) h (lv_sub hl [0, 1] rfl)
  · have j_34 : ¬ (0 ≤ A2) := fun q => c_33 ((l_ge0 a2 (by decide)).mpr q)
    refine lv_lload_n hx hb dX10_nearest_9 rfl (lv_at hl 1 rfl) ?_
    refine lv_lneg hx hb dX10_nearest_10 ?_
    refine lv_topl (fun x_35 e_36 => ?_)
    have i_37 : x_35.toInt = -A2 := la_neg e_36 a2 (by omega)
    refine lv_goto (tgt := 15) hx hb dX10_nearest_11 (by decide) ?_
    exact J15_1 x_35 _ _ _ (by omega) (by split <;> omega) h (lv_sub hl [0, 1] rfl)

set_option maxHeartbeats 4000000 in
set_option maxRecDepth 100000 in
theorem c_X10_determinant (l : Launch) (G : gG) (v : Nat → Nat → Int32) (w : Nat → Nat → Int64) (sg : Nat → Nat) (mi : mI v) : Met l yX10_determinant wsX10_determinant ({ frames := 0, cells := 0, slots := 0, locals := 0 }) (gPre G v w sg [.ref (G.2.2 (106))]) (gQl G (fun r v' w' sg' => (r = detL (w 109)) ∧ v = v' ∧ w = w' ∧ sg = sg')) 0 0 (gA G) := by
  refine gM_ofl (cc := cX10_determinant) (maxL := 1) (by decide) rfl (Nat.le_of_ble_eq_true rfl) ?_
  intro p e R s m args below meth c Q ls C hR ret h hl
  have hx := C.1.1
  have hb := C.1.2.1
  have hown := C.1.2.2.2.1
  have hts := C.1.2.2.2.2
  have hl : lv_has ls 1 [(0, .ref (G.2.2 (106)))] := hl
  have z_0 : (0 : Int32).toInt = 0 := by decide
  have z_1 : (1 : Int32).toInt = 1 := by decide
  have z_2 : (2 : Int32).toInt = 2 := by decide
  have z_3 : (3 : Int32).toInt = 3 := by decide
  have z_4 : (4 : Int32).toInt = 4 := by decide
  have z_5 : (5 : Int32).toInt = 5 := by decide
  have z_6 : (6 : Int32).toInt = 6 := by decide
  have z_7 : (7 : Int32).toInt = 7 := by decide
  have z_8 : (8 : Int32).toInt = 8 := by decide
  have f16 : Cond.fieldLink RX10 16 "WindHallModel" "m" "[J" ∈ wsX10_determinant := by decide +kernel
  have hi10 : ∀ x ∈ u_ws RX10 TX10 42, x ∈ wsX10_determinant := fun x q => List.mem_cons_of_mem _ (List.mem_append_right _ q)
  have o_1 := mi
  obtain ⟨I7, I10, I18, I22, I27, I29, I32, Is, I35, Ia, Iar, Isz, Ian⟩ := o_1
  refine lv_aload_n hx hb dX10_determinant_0 rfl (lv_at hl 0 rfl) ?_
  refine g_get (ci := 10) (x := .ref (G.2.2 (109))) C h 106 (by decide) rfl rfl hi10 2 (by decide) f16 rfl rfl dX10_determinant_1 ?_
  refine lv_iconst (v := 0) hx hb dX10_determinant_4 (by decide) ?_
  refine g_lald C h 109 (by decide) (by decide) (n := 9) (by decide) (vp_of (I := 0) (by decide) (by decide) (by decide)) dX10_determinant_5 ?_
  refine lv_topl (fun x_2 e_3 => ?_)
  refine lv_aload_n hx hb dX10_determinant_6 rfl (lv_at hl 0 rfl) ?_
  refine g_get (ci := 10) (x := .ref (G.2.2 (109))) C h 106 (by decide) rfl rfl hi10 2 (by decide) f16 rfl rfl dX10_determinant_7 ?_
  refine lv_iconst (v := 4) hx hb dX10_determinant_10 (by decide) ?_
  refine g_lald C h 109 (by decide) (by decide) (n := 9) (by decide) (vp_of (I := 4) (by decide) (by decide) (by decide)) dX10_determinant_11 ?_
  refine lv_topl (fun x_4 e_5 => ?_)
  refine lv_aload_n hx hb dX10_determinant_12 rfl (lv_at hl 0 rfl) ?_
  refine g_get (ci := 10) (x := .ref (G.2.2 (109))) C h 106 (by decide) rfl rfl hi10 2 (by decide) f16 rfl rfl dX10_determinant_13 ?_
  refine lv_bipush (v := 8) hx hb dX10_determinant_16 (by decide) ?_
  refine g_lald C h 109 (by decide) (by decide) (n := 9) (by decide) (vp_of (I := 8) (by decide) (by decide) (by decide)) dX10_determinant_18 ?_
  refine lv_topl (fun x_6 e_7 => ?_)
  refine lv_lmul hx hb dX10_determinant_19 ?_
  refine lv_topl (fun x_8 e_9 => ?_)
  refine lv_aload_n hx hb dX10_determinant_20 rfl (lv_at hl 0 rfl) ?_
  refine g_get (ci := 10) (x := .ref (G.2.2 (109))) C h 106 (by decide) rfl rfl hi10 2 (by decide) f16 rfl rfl dX10_determinant_21 ?_
  refine lv_iconst (v := 5) hx hb dX10_determinant_24 (by decide) ?_
  refine g_lald C h 109 (by decide) (by decide) (n := 9) (by decide) (vp_of (I := 5) (by decide) (by decide) (by decide)) dX10_determinant_25 ?_
  refine lv_topl (fun x_10 e_11 => ?_)
  refine lv_aload_n hx hb dX10_determinant_26 rfl (lv_at hl 0 rfl) ?_
  refine g_get (ci := 10) (x := .ref (G.2.2 (109))) C h 106 (by decide) rfl rfl hi10 2 (by decide) f16 rfl rfl dX10_determinant_27 ?_
  refine lv_bipush (v := 7) hx hb dX10_determinant_30 (by decide) ?_
  refine g_lald C h 109 (by decide) (by decide) (n := 9) (by decide) (vp_of (I := 7) (by decide) (by decide) (by decide)) dX10_determinant_32 ?_
  refine lv_topl (fun x_12 e_13 => ?_)
  refine lv_lmul hx hb dX10_determinant_33 ?_
  refine lv_topl (fun x_14 e_15 => ?_)
  refine lv_lsub hx hb dX10_determinant_34 ?_
  refine lv_topl (fun x_16 e_17 => ?_)
  refine lv_lmul hx hb dX10_determinant_35 ?_
  refine lv_topl (fun x_18 e_19 => ?_)
  refine lv_aload_n hx hb dX10_determinant_36 rfl (lv_at hl 0 rfl) ?_
  refine g_get (ci := 10) (x := .ref (G.2.2 (109))) C h 106 (by decide) rfl rfl hi10 2 (by decide) f16 rfl rfl dX10_determinant_37 ?_
  refine lv_iconst (v := 1) hx hb dX10_determinant_40 (by decide) ?_
  refine g_lald C h 109 (by decide) (by decide) (n := 9) (by decide) (vp_of (I := 1) (by decide) (by decide) (by decide)) dX10_determinant_41 ?_
  refine lv_topl (fun x_20 e_21 => ?_)
  refine lv_aload_n hx hb dX10_determinant_42 rfl (lv_at hl 0 rfl) ?_
  refine g_get (ci := 10) (x := .ref (G.2.2 (109))) C h 106 (by decide) rfl rfl hi10 2 (by decide) f16 rfl rfl dX10_determinant_43 ?_
  refine lv_iconst (v := 3) hx hb dX10_determinant_46 (by decide) ?_
  refine g_lald C h 109 (by decide) (by decide) (n := 9) (by decide) (vp_of (I := 3) (by decide) (by decide) (by decide)) dX10_determinant_47 ?_
  refine lv_topl (fun x_22 e_23 => ?_)
  refine lv_aload_n hx hb dX10_determinant_48 rfl (lv_at hl 0 rfl) ?_
  refine g_get (ci := 10) (x := .ref (G.2.2 (109))) C h 106 (by decide) rfl rfl hi10 2 (by decide) f16 rfl rfl dX10_determinant_49 ?_
  refine lv_bipush (v := 8) hx hb dX10_determinant_52 (by decide) ?_
  refine g_lald C h 109 (by decide) (by decide) (n := 9) (by decide) (vp_of (I := 8) (by decide) (by decide) (by decide)) dX10_determinant_54 ?_
  refine lv_topl (fun x_24 e_25 => ?_)
  refine lv_lmul hx hb dX10_determinant_55 ?_
  refine lv_topl (fun x_26 e_27 => ?_)
  refine lv_aload_n hx hb dX10_determinant_56 rfl (lv_at hl 0 rfl) ?_
  refine g_get (ci := 10) (x := .ref (G.2.2 (109))) C h 106 (by decide) rfl rfl hi10 2 (by decide) f16 rfl rfl dX10_determinant_57 ?_
  refine lv_iconst (v := 5) hx hb dX10_determinant_60 (by decide) ?_
  refine g_lald C h 109 (by decide) (by decide) (n := 9) (by decide) (vp_of (I := 5) (by decide) (by decide) (by decide)) dX10_determinant_61 ?_
  refine lv_topl (fun x_28 e_29 => ?_)
  refine lv_aload_n hx hb dX10_determinant_62 rfl (lv_at hl 0 rfl) ?_
  refine g_get (ci := 10) (x := .ref (G.2.2 (109))) C h 106 (by decide) rfl rfl hi10 2 (by decide) f16 rfl rfl dX10_determinant_63 ?_
  refine lv_bipush (v := 6) hx hb dX10_determinant_66 (by decide) ?_
  refine g_lald C h 109 (by decide) (by decide) (n := 9) (by decide) (vp_of (I := 6) (by decide) (by decide) (by decide)) dX10_determinant_68 ?_
  refine lv_topl (fun x_30 e_31 => ?_)
  refine lv_lmul hx hb dX10_determinant_69 ?_
  refine lv_topl (fun x_32 e_33 => ?_)
  refine lv_lsub hx hb dX10_determinant_70 ?_
  refine lv_topl (fun x_34 e_35 => ?_)
  refine lv_lmul hx hb dX10_determinant_71 ?_
  refine lv_topl (fun x_36 e_37 => ?_)
  refine lv_lsub hx hb dX10_determinant_72 ?_
  refine lv_topl (fun x_38 e_39 => ?_)
  refine lv_aload_n hx hb dX10_determinant_73 rfl (lv_at hl 0 rfl) ?_
  refine g_get (ci := 10) (x := .ref (G.2.2 (109))) C h 106 (by decide) rfl rfl hi10 2 (by decide) f16 rfl rfl dX10_determinant_74 ?_
  refine lv_iconst (v := 2) hx hb dX10_determinant_77 (by decide) ?_
  refine g_lald C h 109 (by decide) (by decide) (n := 9) (by decide) (vp_of (I := 2) (by decide) (by decide) (by decide)) dX10_determinant_78 ?_
  refine lv_topl (fun x_40 e_41 => ?_)
  refine lv_aload_n hx hb dX10_determinant_79 rfl (lv_at hl 0 rfl) ?_
  refine g_get (ci := 10) (x := .ref (G.2.2 (109))) C h 106 (by decide) rfl rfl hi10 2 (by decide) f16 rfl rfl dX10_determinant_80 ?_
  refine lv_iconst (v := 3) hx hb dX10_determinant_83 (by decide) ?_
  refine g_lald C h 109 (by decide) (by decide) (n := 9) (by decide) (vp_of (I := 3) (by decide) (by decide) (by decide)) dX10_determinant_84 ?_
  refine lv_topl (fun x_42 e_43 => ?_)
  refine lv_aload_n hx hb dX10_determinant_85 rfl (lv_at hl 0 rfl) ?_
  refine g_get (ci := 10) (x := .ref (G.2.2 (109))) C h 106 (by decide) rfl rfl hi10 2 (by decide) f16 rfl rfl dX10_determinant_86 ?_
  refine lv_bipush (v := 7) hx hb dX10_determinant_89 (by decide) ?_
  refine g_lald C h 109 (by decide) (by decide) (n := 9) (by decide) (vp_of (I := 7) (by decide) (by decide) (by decide)) dX10_determinant_91 ?_
  refine lv_topl (fun x_44 e_45 => ?_)
  refine lv_lmul hx hb dX10_determinant_92 ?_
  refine lv_topl (fun x_46 e_47 => ?_)
  refine lv_aload_n hx hb dX10_determinant_93 rfl (lv_at hl 0 rfl) ?_
  refine g_get (ci := 10) (x := .ref (G.2.2 (109))) C h 106 (by decide) rfl rfl hi10 2 (by decide) f16 rfl rfl dX10_determinant_94 ?_
  refine lv_iconst (v := 4) hx hb dX10_determinant_97 (by decide) ?_
  refine g_lald C h 109 (by decide) (by decide) (n := 9) (by decide) (vp_of (I := 4) (by decide) (by decide) (by decide)) dX10_determinant_98 ?_
  refine lv_topl (fun x_48 e_49 => ?_)
  refine lv_aload_n hx hb dX10_determinant_99 rfl (lv_at hl 0 rfl) ?_
  refine g_get (ci := 10) (x := .ref (G.2.2 (109))) C h 106 (by decide) rfl rfl hi10 2 (by decide) f16 rfl rfl dX10_determinant_100 ?_
  refine lv_bipush (v := 6) hx hb dX10_determinant_103 (by decide) ?_
  refine g_lald C h 109 (by decide) (by decide) (n := 9) (by decide) (vp_of (I := 6) (by decide) (by decide) (by decide)) dX10_determinant_105 ?_
  refine lv_topl (fun x_50 e_51 => ?_)
  refine lv_lmul hx hb dX10_determinant_106 ?_
  refine lv_topl (fun x_52 e_53 => ?_)
  refine lv_lsub hx hb dX10_determinant_107 ?_
  refine lv_topl (fun x_54 e_55 => ?_)
  refine lv_lmul hx hb dX10_determinant_108 ?_
  refine lv_topl (fun x_56 e_57 => ?_)
  refine lv_ladd hx hb dX10_determinant_109 ?_
  refine lv_topl (fun x_58 e_59 => ?_)
  exact ret x_58 v w sg _ _ _ _ dX10_determinant_110 h ⟨by subst_vars; rfl, rfl, rfl, rfl⟩

set_option maxHeartbeats 4000000 in
set_option maxRecDepth 100000 in
theorem c_X10_replaced (l : Launch) (G : gG) (v : Nat → Nat → Int32) (w : Nat → Nat → Int64) (sg : Nat → Nat) (p1 : Int32) {A1 : Int} (a1 : p1.toInt = A1) (b1 : 0 ≤ A1 ∧ A1 ≤ 2) (mi : mI v) : Met l yX10_replaced wsX10_replaced ({ frames := 1, cells := 0, slots := 0, locals := 20 }) (gPre G v w sg [.ref (G.2.2 (106)), .int (p1)]) (gQl G (fun r v' w' sg' => (mI v ∧ fM 109 110 0 0 v w v w' ∧ w' = w ∧ r = dsN (tmM w A1.toNat) 3) ∧ v = v' ∧ sg = sg')) 0 0 (gA G) := by
  refine gM_ofl (cc := cX10_replaced) (maxL := 10) (by decide) rfl (Nat.le_of_ble_eq_true rfl) ?_
  intro p e R s m args below meth c Q ls C hR ret h hl
  have hx := C.1.1
  have hb := C.1.2.1
  have hown := C.1.2.2.2.1
  have hts := C.1.2.2.2.2
  have hl : lv_has ls 10 [(0, .ref (G.2.2 (106))), (1, .int (p1))] := hl
  have q1 := i_rng p1; rw [a1] at q1
  have z_0 : (0 : Int32).toInt = 0 := by decide
  have z_1 : (1 : Int32).toInt = 1 := by decide
  have z_2 : (2 : Int32).toInt = 2 := by decide
  have z_3 : (3 : Int32).toInt = 3 := by decide
  have z_6 : (6 : Int32).toInt = 6 := by decide
  have f16 : Cond.fieldLink RX10 16 "WindHallModel" "m" "[J" ∈ wsX10_replaced := by decide +kernel
  have hi10 : ∀ x ∈ u_ws RX10 TX10 42, x ∈ wsX10_replaced := fun x q => List.mem_cons_of_mem _ (List.mem_append_right _ q)
  have f20 : Cond.fieldLink RX10 20 "WindHallModel" "right" "[J" ∈ wsX10_replaced := by decide +kernel
  have o_1 := mi
  obtain ⟨I7, I10, I18, I22, I27, I29, I32, Is, I35, Ia, Iar, Isz, Ian⟩ := o_1
  refine lv_aload_n hx hb dX10_replaced_0 rfl (lv_at hl 0 rfl) ?_
  refine g_get (ci := 10) (x := .ref (G.2.2 (109))) C h 106 (by decide) rfl rfl hi10 2 (by decide) f16 rfl rfl dX10_replaced_1 ?_
  refine lv_iload_n hx hb dX10_replaced_4 rfl (lv_at hl 1 rfl) ?_
  refine g_lald C h 109 (by decide) (by decide) (n := 9) (by decide) (vp_of a1 (by omega) (by omega)) dX10_replaced_5 ?_
  refine lv_topl (fun x_2 e_3 => ?_)
  have hu5 : x_2 = w 109 A1.toNat := by rw [e_3, cl_nat a1]
  refine lv_lstore_n (lv' := [(2, .long (x_2)), (0, .ref (G.2.2 (106))), (1, .int (p1))]) hx hb dX10_replaced_6 rfl hl (by decide) rfl (fun ls hl => ?_)
  refine lv_aload_n hx hb dX10_replaced_7 rfl (lv_at hl 1 rfl) ?_
  refine g_get (ci := 10) (x := .ref (G.2.2 (109))) C h 106 (by decide) rfl rfl hi10 2 (by decide) f16 rfl rfl dX10_replaced_8 ?_
  refine lv_iconst (v := 3) hx hb dX10_replaced_11 (by decide) ?_
  refine lv_iload_n hx hb dX10_replaced_12 rfl (lv_at hl 2 rfl) ?_
  refine lv_iadd hx hb dX10_replaced_13 ?_
  refine lv_topi (fun x_4 e_5 => ?_)
  have i_6 : x_4.toInt = 3 + A1 := ia_add e_5 (by decide) a1 (by omega) (by omega)
  refine g_lald C h 109 (by decide) (by decide) (n := 9) (by decide) (vp_of i_6 (by omega) (by omega)) dX10_replaced_14 ?_
  refine lv_topl (fun x_7 e_8 => ?_)
  have hu14 : x_7 = w 109 (3 + A1.toNat) := by rw [e_8, cl_nat i_6, show (3 + A1).toNat = 3 + A1.toNat by omega]
  refine lv_lstore (lv' := [(4, .long (x_7)), (2, .long (x_2)), (0, .ref (G.2.2 (106))), (1, .int (p1))]) hx hb dX10_replaced_15 hl (by decide) rfl (fun ls hl => ?_)
  refine lv_aload_n hx hb dX10_replaced_17 rfl (lv_at hl 2 rfl) ?_
  refine g_get (ci := 10) (x := .ref (G.2.2 (109))) C h 106 (by decide) rfl rfl hi10 2 (by decide) f16 rfl rfl dX10_replaced_18 ?_
  refine lv_bipush (v := 6) hx hb dX10_replaced_21 (by decide) ?_
  refine lv_iload_n hx hb dX10_replaced_23 rfl (lv_at hl 3 rfl) ?_
  refine lv_iadd hx hb dX10_replaced_24 ?_
  refine lv_topi (fun x_9 e_10 => ?_)
  have i_11 : x_9.toInt = 6 + A1 := ia_add e_10 (by decide) a1 (by omega) (by omega)
  refine g_lald C h 109 (by decide) (by decide) (n := 9) (by decide) (vp_of i_11 (by omega) (by omega)) dX10_replaced_25 ?_
  refine lv_topl (fun x_12 e_13 => ?_)
  have hu25 : x_12 = w 109 (6 + A1.toNat) := by rw [e_13, cl_nat i_11, show (6 + A1).toNat = 6 + A1.toNat by omega]
  refine lv_lstore (lv' := [(6, .long (x_12)), (4, .long (x_7)), (2, .long (x_2)), (0, .ref (G.2.2 (106))), (1, .int (p1))]) hx hb dX10_replaced_26 hl (by decide) rfl (fun ls hl => ?_)
  refine lv_aload_n hx hb dX10_replaced_28 rfl (lv_at hl 3 rfl) ?_
  refine g_get (ci := 10) (x := .ref (G.2.2 (109))) C h 106 (by decide) rfl rfl hi10 2 (by decide) f16 rfl rfl dX10_replaced_29 ?_
  refine lv_iload_n hx hb dX10_replaced_32 rfl (lv_at hl 4 rfl) ?_
  refine lv_aload_n hx hb dX10_replaced_33 rfl (lv_at hl 3 rfl) ?_
  refine g_get (ci := 10) (x := .ref (G.2.2 (110))) C h 106 (by decide) rfl rfl hi10 3 (by decide) f20 rfl rfl dX10_replaced_34 ?_
  refine lv_iconst (v := 0) hx hb dX10_replaced_37 (by decide) ?_
  refine g_lald C h 110 (by decide) (by decide) (n := 3) (by decide) (vp_of (I := 0) (by decide) (by decide) (by decide)) dX10_replaced_38 ?_
  refine lv_topl (fun x_14 e_15 => ?_)
  have hr38 : x_14 = w 110 0 := e_15
  refine g_last C h 109 (by decide) (by decide) (n := 9) (by decide) (vp_of a1 (by omega) (by omega)) dX10_replaced_39 (fun H locs h => ?_)
  obtain ⟨w_16, hw_16⟩ : ∃ z, z = gul w 109 ((p1 : Int32).toNatClampNeg) x_14 := ⟨_, rfl⟩
  have h : gS (gA G) G s v w_16 sg H locs := by rw [hw_16]; exact h
  have u_17 : fM 109 110 0 0 v w v w_16 := by rw [hw_16]; exact (fM_w fM_rf (by decide))
  refine lv_aload_n hx hb dX10_replaced_40 rfl (lv_at hl 3 rfl) ?_
  refine g_get (ci := 10) (x := .ref (G.2.2 (109))) C h 106 (by decide) rfl rfl hi10 2 (by decide) f16 rfl rfl dX10_replaced_41 ?_
  refine lv_iconst (v := 3) hx hb dX10_replaced_44 (by decide) ?_
  refine lv_iload_n hx hb dX10_replaced_45 rfl (lv_at hl 4 rfl) ?_
  refine lv_iadd hx hb dX10_replaced_46 ?_
  refine lv_topi (fun x_18 e_19 => ?_)
  have i_20 : x_18.toInt = 3 + A1 := ia_add e_19 (by decide) a1 (by omega) (by omega)
  refine lv_aload_n hx hb dX10_replaced_47 rfl (lv_at hl 3 rfl) ?_
  refine g_get (ci := 10) (x := .ref (G.2.2 (110))) C h 106 (by decide) rfl rfl hi10 3 (by decide) f20 rfl rfl dX10_replaced_48 ?_
  refine lv_iconst (v := 1) hx hb dX10_replaced_51 (by decide) ?_
  refine g_lald C h 110 (by decide) (by decide) (n := 3) (by decide) (vp_of (I := 1) (by decide) (by decide) (by decide)) dX10_replaced_52 ?_
  refine lv_topl (fun x_21 e_22 => ?_)
  have hr52 : x_21 = w 110 1 := by rw [e_22, hw_16, gul_n (Or.inl (by decide))]; rfl
  refine g_last C h 109 (by decide) (by decide) (n := 9) (by decide) (vp_of i_20 (by omega) (by omega)) dX10_replaced_53 (fun H locs h => ?_)
  obtain ⟨w_23, hw_23⟩ : ∃ z, z = gul w_16 109 ((x_18 : Int32).toNatClampNeg) x_21 := ⟨_, rfl⟩
  have h : gS (gA G) G s v w_23 sg H locs := by rw [hw_23]; exact h
  have u_24 : fM 109 110 0 0 v w v w_23 := by rw [hw_23]; exact (fM_w u_17 (by decide))
  refine lv_aload_n hx hb dX10_replaced_54 rfl (lv_at hl 3 rfl) ?_
  refine g_get (ci := 10) (x := .ref (G.2.2 (109))) C h 106 (by decide) rfl rfl hi10 2 (by decide) f16 rfl rfl dX10_replaced_55 ?_
  refine lv_bipush (v := 6) hx hb dX10_replaced_58 (by decide) ?_
  refine lv_iload_n hx hb dX10_replaced_60 rfl (lv_at hl 4 rfl) ?_
  refine lv_iadd hx hb dX10_replaced_61 ?_
  refine lv_topi (fun x_25 e_26 => ?_)
  have i_27 : x_25.toInt = 6 + A1 := ia_add e_26 (by decide) a1 (by omega) (by omega)
  refine lv_aload_n hx hb dX10_replaced_62 rfl (lv_at hl 3 rfl) ?_
  refine g_get (ci := 10) (x := .ref (G.2.2 (110))) C h 106 (by decide) rfl rfl hi10 3 (by decide) f20 rfl rfl dX10_replaced_63 ?_
  refine lv_iconst (v := 2) hx hb dX10_replaced_66 (by decide) ?_
  refine g_lald C h 110 (by decide) (by decide) (n := 3) (by decide) (vp_of (I := 2) (by decide) (by decide) (by decide)) dX10_replaced_67 ?_
  refine lv_topl (fun x_28 e_29 => ?_)
  have hr67 : x_28 = w 110 2 := by rw [e_29, hw_23, hw_16, gul_n (Or.inl (by decide)), gul_n (Or.inl (by decide))]; rfl
  refine g_last C h 109 (by decide) (by decide) (n := 9) (by decide) (vp_of i_27 (by omega) (by omega)) dX10_replaced_68 (fun H locs h => ?_)
  obtain ⟨w_30, hw_30⟩ : ∃ z, z = gul w_23 109 ((x_25 : Int32).toNatClampNeg) x_28 := ⟨_, rfl⟩
  have h : gS (gA G) G s v w_30 sg H locs := by rw [hw_30]; exact h
  have u_31 : fM 109 110 0 0 v w v w_30 := by rw [hw_30]; exact (fM_w u_24 (by decide))
  refine lv_aload_n hx hb dX10_replaced_69 rfl (lv_at hl 3 rfl) ?_
  refine g_calll C (va_runV (As := []) (rest := []) C.1 (c_X10_determinant l G v w_30 sg  mi) (cwV 0 hts gX10_replaced_X10_determinant rfl rfl rfl (by decide +kernel) ⟨by rw [hR]; exact Nat.le_of_ble_eq_true rfl, by rw [hR]; exact Nat.le_of_ble_eq_true rfl⟩) ⟨gPre_blind, g_recv C h 106 (by decide) (ci := 10) rfl rfl, gS_pre C h _⟩ rfl rfl hl.1 rfl (lv_room (Nat.le_of_ble_eq_true rfl)) dX10_replaced_70 ⟨Nat.zero_le _, Nat.zero_le _⟩) h (fun r_32 v_34 w_35 g_36 H locs p_33 h => ?_)
  obtain ⟨p_33, rfl, rfl, rfl⟩ := p_33
  have hdt := p_33
  refine lv_lstore (lv' := [(8, .long (r_32)), (6, .long (x_12)), (4, .long (x_7)), (2, .long (x_2)), (0, .ref (G.2.2 (106))), (1, .int (p1))]) hx hb dX10_replaced_73 hl (by decide) rfl (fun ls hl => ?_)
  refine lv_aload_n hx hb dX10_replaced_75 rfl (lv_at hl 4 rfl) ?_
  refine g_get (ci := 10) (x := .ref (G.2.2 (109))) C h 106 (by decide) rfl rfl hi10 2 (by decide) f16 rfl rfl dX10_replaced_76 ?_
  refine lv_iload_n hx hb dX10_replaced_79 rfl (lv_at hl 5 rfl) ?_
  refine lv_lload_n hx hb dX10_replaced_80 rfl (lv_at hl 3 rfl) ?_
  refine g_last C h 109 (by decide) (by decide) (n := 9) (by decide) (vp_of a1 (by omega) (by omega)) dX10_replaced_81 (fun H locs h => ?_)
  obtain ⟨w_37, hw_37⟩ : ∃ z, z = gul w_30 109 ((p1 : Int32).toNatClampNeg) x_2 := ⟨_, rfl⟩
  have h : gS (gA G) G s v w_37 sg H locs := by rw [hw_37]; exact h
  have u_38 : fM 109 110 0 0 v w v w_37 := by rw [hw_37]; exact (fM_w u_31 (by decide))
  refine lv_aload_n hx hb dX10_replaced_82 rfl (lv_at hl 4 rfl) ?_
  refine g_get (ci := 10) (x := .ref (G.2.2 (109))) C h 106 (by decide) rfl rfl hi10 2 (by decide) f16 rfl rfl dX10_replaced_83 ?_
  refine lv_iconst (v := 3) hx hb dX10_replaced_86 (by decide) ?_
  refine lv_iload_n hx hb dX10_replaced_87 rfl (lv_at hl 5 rfl) ?_
  refine lv_iadd hx hb dX10_replaced_88 ?_
  refine lv_topi (fun x_39 e_40 => ?_)
  have i_41 : x_39.toInt = 3 + A1 := ia_add e_40 (by decide) a1 (by omega) (by omega)
  refine lv_lload hx hb dX10_replaced_89 (lv_at hl 2 rfl) ?_
  refine g_last C h 109 (by decide) (by decide) (n := 9) (by decide) (vp_of i_41 (by omega) (by omega)) dX10_replaced_91 (fun H locs h => ?_)
  obtain ⟨w_42, hw_42⟩ : ∃ z, z = gul w_37 109 ((x_39 : Int32).toNatClampNeg) x_7 := ⟨_, rfl⟩
  have h : gS (gA G) G s v w_42 sg H locs := by rw [hw_42]; exact h
  have u_43 : fM 109 110 0 0 v w v w_42 := by rw [hw_42]; exact (fM_w u_38 (by decide))
  refine lv_aload_n hx hb dX10_replaced_92 rfl (lv_at hl 4 rfl) ?_
  refine g_get (ci := 10) (x := .ref (G.2.2 (109))) C h 106 (by decide) rfl rfl hi10 2 (by decide) f16 rfl rfl dX10_replaced_93 ?_
  refine lv_bipush (v := 6) hx hb dX10_replaced_96 (by decide) ?_
  refine lv_iload_n hx hb dX10_replaced_98 rfl (lv_at hl 5 rfl) ?_
  refine lv_iadd hx hb dX10_replaced_99 ?_
  refine lv_topi (fun x_44 e_45 => ?_)
  have i_46 : x_44.toInt = 6 + A1 := ia_add e_45 (by decide) a1 (by omega) (by omega)
  refine lv_lload hx hb dX10_replaced_100 (lv_at hl 1 rfl) ?_
  refine g_last C h 109 (by decide) (by decide) (n := 9) (by decide) (vp_of i_46 (by omega) (by omega)) dX10_replaced_102 (fun H locs h => ?_)
  obtain ⟨w_47, hw_47⟩ : ∃ z, z = gul w_42 109 ((x_44 : Int32).toNatClampNeg) x_12 := ⟨_, rfl⟩
  have h : gS (gA G) G s v w_47 sg H locs := by rw [hw_47]; exact h
  have u_48 : fM 109 110 0 0 v w v w_47 := by rw [hw_47]; exact (fM_w u_43 (by decide))
  refine lv_lload hx hb dX10_replaced_103 (lv_at hl 0 rfl) ?_
  exact ret r_32 v w_47 sg _ _ _ _ dX10_replaced_105 h ⟨⟨mi, u_48, ⟨rp_back (J := A1.toNat) (w1 := w_30) (by omega) (by rw [hw_30, hw_23, hw_16, cl_nat a1, cl_nat i_20, cl_nat i_27, show (3 + A1).toNat = 3 + A1.toNat by omega, show (6 + A1).toNat = 6 + A1.toNat by omega]) (by rw [hw_47, hw_42, hw_37, cl_nat a1, cl_nat i_41, cl_nat i_46, show (3 + A1).toNat = 3 + A1.toNat by omega, show (6 + A1).toNat = 6 + A1.toNat by omega]) hu5 hu14 hu25, by rw [hdt]; exact rp_det (by omega) (by rw [hw_30, hw_23, hw_16, cl_nat a1, cl_nat i_20, cl_nat i_27, show (3 + A1).toNat = 3 + A1.toNat by omega, show (6 + A1).toNat = 6 + A1.toNat by omega]) hr38 hr52 hr67⟩⟩, rfl, rfl⟩

set_option maxHeartbeats 4000000 in
set_option maxRecDepth 100000 in
theorem c_X10_found (l : Launch) (G : gG) (v : Nat → Nat → Int32) (w : Nat → Nat → Int64) (sg : Nat → Nat) (p1 : Int32) {A1 : Int} (a1 : p1.toInt = A1) (mi : mI v) : Met l yX10_found wsX10_found ({ frames := 1, cells := 0, slots := 0, locals := 25 }) (gPre G v w sg [.ref (G.2.2 (106)), .int (p1)]) (gQi G (fun r v' w' sg' => (((0 ≤ A1 ∧ A1 ≤ 2) ∧ r = v 111 A1.toNat) ∨ (A1 = 3 ∧ r = v 106 5) ∨ (A1 = 4 ∧ r = v 106 6) ∨ ((A1 < 0 ∨ 4 < A1) ∧ r = 0)) ∧ v = v' ∧ w = w' ∧ sg = sg')) 0 0 (gA G) := by
  refine gM_ofi (cc := cX10_found) (maxL := 2) (by decide) rfl (Nat.le_of_ble_eq_true rfl) ?_
  intro p e R s m args below meth c Q ls C hR ret h hl
  have hx := C.1.1
  have hb := C.1.2.1
  have hown := C.1.2.2.2.1
  have hts := C.1.2.2.2.2
  have hl : lv_has ls 2 [(0, .ref (G.2.2 (106))), (1, .int (p1))] := hl
  have q1 := i_rng p1; rw [a1] at q1
  have z_0 : (0 : Int32).toInt = 0 := by decide
  have z_1 : (1 : Int32).toInt = 1 := by decide
  have z_3 : (3 : Int32).toInt = 3 := by decide
  have z_4 : (4 : Int32).toInt = 4 := by decide
  have k122 : (Cond.constantLong RX10 122 (2)).before args s = true := hts _ (by decide +kernel)
  have f23 : Cond.fieldLink RX10 23 "WindHallModel" "loads" "[I" ∈ wsX10_found := by decide +kernel
  have hi10 : ∀ x ∈ u_ws RX10 TX10 42, x ∈ wsX10_found := fun x q => List.mem_cons_of_mem _ (List.mem_append_right _ q)
  have f164 : Cond.fieldLink RX10 164 "WindHallModel" "away" "I" ∈ wsX10_found := by decide +kernel
  have f153 : Cond.fieldLink RX10 153 "WindHallModel" "still" "I" ∈ wsX10_found := by decide +kernel
  have o_1 := mi
  obtain ⟨I7, I10, I18, I22, I27, I29, I32, Is, I35, Ia, Iar, Isz, Ian⟩ := o_1
  refine lv_iload_n hx hb dX10_found_0 rfl (lv_at hl 1 rfl) ?_
  refine lv_i2l (v := (p1 : Int32).toInt64) hx hb dX10_found_1 rfl ?_
  refine lv_lconst (v := 0) hx hb dX10_found_2 (by decide) ?_
  refine lv_ldc2 hx hb hown k122 dX10_found_3 ?_
  refine g_calli C (va_runS (As := [.long ((p1 : Int32).toInt64), .long (0), .long (2)]) (rest := []) C.1 (c_X10_in l G v w sg ((p1 : Int32).toInt64) (A0 := A1) (il_of a1) (0) (A2 := 0) (by decide) (2) (A4 := 2) (by decide)) (va_cwS 3 hts gX10_found_X10_in rfl rfl rfl (by decide +kernel) ⟨by rw [hR]; exact Nat.le_of_ble_eq_true rfl, by rw [hR]; exact Nat.le_of_ble_eq_true rfl⟩) ⟨gPre_blind, gS_pre C h _⟩ rfl rfl hl.1 rfl (lv_room (Nat.le_of_ble_eq_true rfl)) dX10_found_6 ⟨Nat.zero_le _, Nat.zero_le _⟩) h (fun r_2 v_4 w_5 g_6 H locs p_3 h => ?_)
  obtain ⟨p_3, rfl, rfl, rfl⟩ := p_3
  rcases p_3 with ⟨rfl, t_7⟩ | ⟨rfl, t_7⟩
  · skip
    refine lv_if_eq (tgt := 21) hx hb dX10_found_9 (by decide) (fun c_8 => absurd c_8 (by decide)) (fun _ => ?_)
    refine lv_aload_n hx hb dX10_found_12 rfl (lv_at hl 0 rfl) ?_
    refine g_get (ci := 10) (x := .ref (G.2.2 (111))) C h 106 (by decide) rfl rfl hi10 4 (by decide) f23 rfl rfl dX10_found_13 ?_
    refine lv_iload_n hx hb dX10_found_16 rfl (lv_at hl 1 rfl) ?_
    refine g_iald C h 111 (by decide) (by decide) (n := 3) (by decide) (vp_of a1 (by omega) (by omega)) dX10_found_17 ?_
    refine lv_topi (fun x_9 e_10 => ?_)
    have hx17 : x_9 = v 111 A1.toNat := by rw [e_10, cl_nat a1]
    refine lv_goto (tgt := 46) hx hb dX10_found_18 (by decide) ?_
    exact ret x_9 v w sg _ _ _ _ dX10_found_46 h ⟨Or.inl ⟨by omega, hx17⟩, rfl, rfl, rfl⟩
  · skip
    refine lv_if_eq (tgt := 21) hx hb dX10_found_9 (by decide) (fun _ => ?_) (fun c_11 => absurd (by decide) c_11)
    refine lv_iload_n hx hb dX10_found_21 rfl (lv_at hl 1 rfl) ?_
    refine lv_iconst (v := 3) hx hb dX10_found_22 (by decide) ?_
    refine lv_icmp_ne (tgt := 33) hx hb dX10_found_23 (by decide) (fun c_12 => ?_) (fun c_12 => ?_)
    · have j_13 : ¬ (A1 = 3) := fun q => c_12 ((i_eq a1 (by decide)).mpr q)
      refine lv_iload_n hx hb dX10_found_33 rfl (lv_at hl 1 rfl) ?_
      refine lv_iconst (v := 4) hx hb dX10_found_34 (by decide) ?_
      refine lv_icmp_ne (tgt := 45) hx hb dX10_found_35 (by decide) (fun c_14 => ?_) (fun c_14 => ?_)
      · have j_15 : ¬ (A1 = 4) := fun q => c_14 ((i_eq a1 (by decide)).mpr q)
        refine lv_iconst (v := 0) hx hb dX10_found_45 (by decide) ?_
        exact ret 0 v w sg _ _ _ _ dX10_found_46 h ⟨Or.inr (Or.inr (Or.inr ⟨by omega, rfl⟩)), rfl, rfl, rfl⟩
      · have j_15 : A1 = 4 := (i_eq a1 (by decide)).mp c_14
        refine lv_aload_n hx hb dX10_found_38 rfl (lv_at hl 0 rfl) ?_
        refine g_geti (ci := 10) (x := v 106 6) C h 106 (by decide) rfl rfl hi10 6 (by decide) f164 rfl rfl rfl dX10_found_39 ?_
        refine lv_goto (tgt := 46) hx hb dX10_found_42 (by decide) ?_
        exact ret (v 106 6) v w sg _ _ _ _ dX10_found_46 h ⟨Or.inr (Or.inr (Or.inl ⟨by omega, rfl⟩)), rfl, rfl, rfl⟩
    · have j_13 : A1 = 3 := (i_eq a1 (by decide)).mp c_12
      refine lv_aload_n hx hb dX10_found_26 rfl (lv_at hl 0 rfl) ?_
      refine g_geti (ci := 10) (x := v 106 5) C h 106 (by decide) rfl rfl hi10 5 (by decide) f153 rfl rfl rfl dX10_found_27 ?_
      refine lv_goto (tgt := 46) hx hb dX10_found_30 (by decide) ?_
      exact ret (v 106 5) v w sg _ _ _ _ dX10_found_46 h ⟨Or.inr (Or.inl ⟨by omega, rfl⟩), rfl, rfl, rfl⟩
