set_option maxHeartbeats 4000000 in
set_option maxRecDepth 100000 in
theorem c_X10_behind (l : Launch) (G : gG) (v : Nat → Nat → Int32) (w : Nat → Nat → Int64) (sg : Nat → Nat) (p1 : Int32) {A1 : Int} (a1 : p1.toInt = A1) (p2 : Int32) {A2 : Int} (a2 : p2.toInt = A2) (b1 : 0 ≤ A1 ∧ A1 ≤ 511) (b2 : 0 ≤ A2 ∧ A2 ≤ 8) (mi : mI v) : Met l yX10_behind wsX10_behind ({ frames := 0, cells := 0, slots := 0, locals := 0 }) (gPre G v w sg [.ref (G.2.2 (106)), .int (p1), .int (p2)]) (gQi G (fun r v' w' sg' => (r.toInt = lsI v A1.toNat A2.toNat) ∧ v = v' ∧ w = w' ∧ sg = sg')) 0 0 (gA G) := by
  refine gM_ofi (cc := cX10_behind) (maxL := 3) (by decide) rfl (Nat.le_of_ble_eq_true rfl) ?_
  intro p e R s m args below meth c Q ls C hR ret h hl
  have hx := C.1.1
  have hb := C.1.2.1
  have hown := C.1.2.2.2.1
  have hts := C.1.2.2.2.2
  have hl : lv_has ls 3 [(0, .ref (G.2.2 (106))), (1, .int (p1)), (2, .int (p2))] := hl
  have q1 := i_rng p1; rw [a1] at q1
  have q2 := i_rng p2; rw [a2] at q2
  have z_0 : (0 : Int32).toInt = 0 := by decide
  have z_1 : (1 : Int32).toInt = 1 := by decide
  have z_9 : (9 : Int32).toInt = 9 := by decide
  have f69 : Cond.fieldLink RX10 69 "WindHallModel" "leasts" "[I" ∈ wsX10_behind := by decide +kernel
  have hi10 : ∀ x ∈ u_ws RX10 TX10 42, x ∈ wsX10_behind := fun x q => List.mem_cons_of_mem _ (List.mem_append_right _ q)
  have o_1 := mi
  obtain ⟨I7, I10, I18, I22, I27, I29, I32, Is, I35, Ia, Iar, Isz, Ian⟩ := o_1
  refine lv_iload_n hx hb dX10_behind_0 rfl (lv_at hl 1 rfl) ?_
  refine lv_if_ne (tgt := 8) hx hb dX10_behind_1 (by decide) (fun c_2 => ?_) (fun c_2 => ?_)
  · have j_3 : ¬ (A1 = 0) := fun q => c_2 ((i_eq a1 (by decide)).mpr q)
    refine lv_aload_n hx hb dX10_behind_8 rfl (lv_at hl 0 rfl) ?_
    refine g_get (ci := 10) (x := .ref (G.2.2 (126))) C h 106 (by decide) rfl rfl hi10 26 (by decide) f69 rfl rfl dX10_behind_9 ?_
    refine lv_bipush (v := 9) hx hb dX10_behind_12 (by decide) ?_
    refine lv_iload_n hx hb dX10_behind_14 rfl (lv_at hl 1 rfl) ?_
    refine lv_imul hx hb dX10_behind_15 ?_
    refine lv_topi (fun x_4 e_5 => ?_)
    have i_6 : x_4.toInt = 9 * A1 := ia_mul e_5 (by decide) a1 (by omega) (by omega)
    refine lv_iload_n hx hb dX10_behind_16 rfl (lv_at hl 2 rfl) ?_
    refine lv_iadd hx hb dX10_behind_17 ?_
    refine lv_topi (fun x_7 e_8 => ?_)
    have i_9 : x_7.toInt = (9 * A1) + A2 := ia_add e_8 i_6 a2 (by omega) (by omega)
    refine g_iald C h 126 (by decide) (by decide) (n := 4608) (by decide) (vp_of i_9 (by omega) (by omega)) dX10_behind_18 ?_
    refine lv_topi (fun x_10 e_11 => ?_)
    exact ret x_10 v w sg _ _ _ _ dX10_behind_19 h ⟨(by unfold lsI; rw [if_neg (by omega), e_11, cl_nat i_9]; congr 2; omega), rfl, rfl, rfl⟩
  · have j_3 : A1 = 0 := (i_eq a1 (by decide)).mp c_2
    refine lv_iconst (v := 0) hx hb dX10_behind_4 (by decide) ?_
    refine lv_goto (tgt := 19) hx hb dX10_behind_5 (by decide) ?_
    exact ret 0 v w sg _ _ _ _ dX10_behind_19 h ⟨(by unfold lsI; rw [if_pos (by omega)]; decide), rfl, rfl, rfl⟩

set_option maxHeartbeats 4000000 in
set_option maxRecDepth 100000 in
theorem c_X10_cost (l : Launch) (G : gG) (v : Nat → Nat → Int32) (w : Nat → Nat → Int64) (sg : Nat → Nat) (p1 : Int32) {A1 : Int} (a1 : p1.toInt = A1) (p2 : Int32) {A2 : Int} (a2 : p2.toInt = A2) (b1 : A1 = -4 ∨ (0 ≤ A1 ∧ A1 < (v 106 22).toInt)) (b2 : 0 ≤ A2 ∧ A2 < (v 106 22).toInt) (mi : mI v) : Met l yX10_cost wsX10_cost ({ frames := 1, cells := 0, slots := 0, locals := 25 }) (gPre G v w sg [.ref (G.2.2 (106)), .int (p1), .int (p2)]) (gQi G (fun r v' w' sg' => (r.toInt = csI v A1 A2.toNat ∧ 0 ≤ r.toInt ∧ r.toInt ≤ 99) ∧ v = v' ∧ w = w' ∧ sg = sg')) 0 0 (gA G) := by
  refine gM_ofi (cc := cX10_cost) (maxL := 3) (by decide) rfl (Nat.le_of_ble_eq_true rfl) ?_
  intro p e R s m args below meth c Q ls C hR ret h hl
  have hx := C.1.1
  have hb := C.1.2.1
  have hown := C.1.2.2.2.1
  have hts := C.1.2.2.2.2
  have hl : lv_has ls 3 [(0, .ref (G.2.2 (106))), (1, .int (p1)), (2, .int (p2))] := hl
  have q1 := i_rng p1; rw [a1] at q1
  have q2 := i_rng p2; rw [a2] at q2
  have z_m4 : ((-4) : Int32).toInt = (-4) := by decide
  have z_0 : (0 : Int32).toInt = 0 := by decide
  have z_1 : (1 : Int32).toInt = 1 := by decide
  have f60 : Cond.fieldLink RX10 60 "WindHallModel" "angles" "[I" ∈ wsX10_cost := by decide +kernel
  have hi10 : ∀ x ∈ u_ws RX10 TX10 42, x ∈ wsX10_cost := fun x q => List.mem_cons_of_mem _ (List.mem_append_right _ q)
  have f63 : Cond.fieldLink RX10 63 "WindHallModel" "speeds" "[I" ∈ wsX10_cost := by decide +kernel
  have o_1 := mi
  obtain ⟨I7, I10, I18, I22, I27, I29, I32, Is, I35, Ia, Iar, Isz, Ian⟩ := o_1
  refine lv_iload_n hx hb dX10_cost_0 rfl (lv_at hl 1 rfl) ?_
  refine lv_bipush (v := (-4)) hx hb dX10_cost_1 (by decide) ?_
  refine lv_icmp_ne (tgt := 16) hx hb dX10_cost_3 (by decide) (fun c_2 => ?_) (fun c_2 => ?_)
  · have j_3 : ¬ (A1 = (-4)) := fun q => c_2 ((i_eq a1 (by decide)).mpr q)
    refine lv_aload_n hx hb dX10_cost_16 rfl (lv_at hl 0 rfl) ?_
    refine lv_aload_n hx hb dX10_cost_17 rfl (lv_at hl 0 rfl) ?_
    refine g_get (ci := 10) (x := .ref (G.2.2 (123))) C h 106 (by decide) rfl rfl hi10 23 (by decide) f60 rfl rfl dX10_cost_18 ?_
    refine lv_iload_n hx hb dX10_cost_21 rfl (lv_at hl 1 rfl) ?_
    refine g_iald C h 123 (by decide) (by decide) (n := 9) (by decide) (vp_of a1 (by omega) (by omega)) dX10_cost_22 ?_
    refine lv_topi (fun x_4 e_5 => ?_)
    have ha_x_4 := (Ian (p1).toNatClampNeg (by have := cl_of (i := p1) a1 (by omega); omega)).1
    rw [← e_5] at ha_x_4
    have he_1 : (v 123 (p1).toNatClampNeg).toInt = (x_4).toInt := by rw [e_5]
    refine lv_aload_n hx hb dX10_cost_23 rfl (lv_at hl 0 rfl) ?_
    refine g_get (ci := 10) (x := .ref (G.2.2 (124))) C h 106 (by decide) rfl rfl hi10 24 (by decide) f63 rfl rfl dX10_cost_24 ?_
    refine lv_iload_n hx hb dX10_cost_27 rfl (lv_at hl 1 rfl) ?_
    refine g_iald C h 124 (by decide) (by decide) (n := 9) (by decide) (vp_of a1 (by omega) (by omega)) dX10_cost_28 ?_
    refine lv_topi (fun x_6 e_7 => ?_)
    have ha_x_6 := (Ian (p1).toNatClampNeg (by have := cl_of (i := p1) a1 (by omega); omega)).2
    rw [← e_7] at ha_x_6
    have he_2 : (v 124 (p1).toNatClampNeg).toInt = (x_6).toInt := by rw [e_7]
    refine lv_iload_n hx hb dX10_cost_29 rfl (lv_at hl 2 rfl) ?_
    refine g_calli C (va_runV (As := [.int (x_4), .int (x_6), .int (p2)]) (rest := []) C.1 (c_X10_move l G v w sg x_4 (A1 := (x_4).toInt) rfl x_6 (A2 := (x_6).toInt) rfl p2 (A3 := A2) a2 (by omega) (by omega) (by omega) mi) (cwV 3 hts gX10_cost_X10_move rfl rfl rfl (by decide +kernel) ⟨by rw [hR]; exact Nat.le_of_ble_eq_true rfl, by rw [hR]; exact Nat.le_of_ble_eq_true rfl⟩) ⟨gPre_blind, g_recv C h 106 (by decide) (ci := 10) rfl rfl, gS_pre C h _⟩ rfl rfl hl.1 rfl (lv_room (Nat.le_of_ble_eq_true rfl)) dX10_cost_30 ⟨Nat.zero_le _, Nat.zero_le _⟩) h (fun r_8 v_10 w_11 g_12 H locs p_9 h => ?_)
    obtain ⟨p_9, rfl, rfl, rfl⟩ := p_9
    exact ret r_8 v w sg _ _ _ _ dX10_cost_33 h ⟨⟨by unfold csI; rw [if_neg (by omega), p_9.1, cl_nat a2, ← he_1, ← he_2, cl_nat a1], p_9.2⟩, rfl, rfl, rfl⟩
  · have j_3 : A1 = (-4) := (i_eq a1 (by decide)).mp c_2
    refine lv_aload_n hx hb dX10_cost_6 rfl (lv_at hl 0 rfl) ?_
    refine lv_iconst (v := 0) hx hb dX10_cost_7 (by decide) ?_
    refine lv_iconst (v := 0) hx hb dX10_cost_8 (by decide) ?_
    refine lv_iload_n hx hb dX10_cost_9 rfl (lv_at hl 2 rfl) ?_
    refine g_calli C (va_runV (As := [.int (0), .int (0), .int (p2)]) (rest := []) C.1 (c_X10_move l G v w sg (0) (A1 := 0) (by decide) (0) (A2 := 0) (by decide) p2 (A3 := A2) a2 (by omega) (by omega) (by omega) mi) (cwV 3 hts gX10_cost_X10_move rfl rfl rfl (by decide +kernel) ⟨by rw [hR]; exact Nat.le_of_ble_eq_true rfl, by rw [hR]; exact Nat.le_of_ble_eq_true rfl⟩) ⟨gPre_blind, g_recv C h 106 (by decide) (ci := 10) rfl rfl, gS_pre C h _⟩ rfl rfl hl.1 rfl (lv_room (Nat.le_of_ble_eq_true rfl)) dX10_cost_10 ⟨Nat.zero_le _, Nat.zero_le _⟩) h (fun r_13 v_15 w_16 g_17 H locs p_14 h => ?_)
    obtain ⟨p_14, rfl, rfl, rfl⟩ := p_14
    refine lv_goto (tgt := 33) hx hb dX10_cost_13 (by decide) ?_
    exact ret r_13 v w sg _ _ _ _ dX10_cost_33 h ⟨⟨by unfold csI; rw [if_pos (by omega), p_14.1, cl_nat a2], p_14.2⟩, rfl, rfl, rfl⟩

set_option maxHeartbeats 4000000 in
set_option maxRecDepth 100000 in
theorem c_X10_best (l : Launch) (G : gG) (v : Nat → Nat → Int32) (w : Nat → Nat → Int64) (sg : Nat → Nat) (p1 : Int32) {A1 : Int} (a1 : p1.toInt = A1) (p2 : Int32) {A2 : Int} (a2 : p2.toInt = A2) (b1 : 0 ≤ A1 ∧ A1 ≤ 511) (b2 : A2 = -4 ∨ (0 ≤ A2 ∧ A2 < (v 106 22).toInt)) (hL : Lq v (v 106 22).toInt A1 0) (mi : mI v) : Met l yX10_best wsX10_best ({ frames := 2, cells := 0, slots := 0, locals := 47 }) (gPre G v w sg [.ref (G.2.2 (106)), .int (p1), .int (p2)]) (gQi G (fun r v' w' sg' => ((0 ≤ r.toInt ∧ r.toInt ≤ 99 * A1) ∧ ((noB A1.toNat (v 106 22).toInt ∧ r.toInt = 0) ∨ exB v A1.toNat A2 (v 106 22).toInt r.toInt)) ∧ v = v' ∧ w = w' ∧ sg = sg')) 0 0 (gA G) := by
  refine gM_ofi (cc := cX10_best) (maxL := 6) (by decide) rfl (Nat.le_of_ble_eq_true rfl) ?_
  intro p e R s m args below meth c Q ls C hR ret h hl
  have hx := C.1.1
  have hb := C.1.2.1
  have hown := C.1.2.2.2.1
  have hts := C.1.2.2.2.2
  have hl : lv_has ls 6 [(0, .ref (G.2.2 (106))), (1, .int (p1)), (2, .int (p2))] := hl
  have q1 := i_rng p1; rw [a1] at q1
  have q2 := i_rng p2; rw [a2] at q2
  have z_m4 : ((-4) : Int32).toInt = (-4) := by decide
  have z_0 : (0 : Int32).toInt = 0 := by decide
  have z_1 : (1 : Int32).toInt = 1 := by decide
  have f228 : Cond.fieldLink RX10 228 "WindHallModel" "places" "I" ∈ wsX10_best := by decide +kernel
  have hi10 : ∀ x ∈ u_ws RX10 TX10 42, x ∈ wsX10_best := fun x q => List.mem_cons_of_mem _ (List.mem_append_right _ q)
  have o_1 := mi
  obtain ⟨I7, I10, I18, I22, I27, I29, I32, Is, I35, Ia, Iar, Isz, Ian⟩ := o_1
  refine lv_bipush (v := (-4)) hx hb dX10_best_0 (by decide) ?_
  refine lv_istore_n (lv' := [(3, .int ((-4))), (0, .ref (G.2.2 (106))), (1, .int (p1)), (2, .int (p2))]) hx hb dX10_best_2 rfl hl (by decide) rfl (fun ls hl => ?_)
  refine lv_iconst (v := 0) hx hb dX10_best_3 (by decide) ?_
  have J6_3 : ∀ (n : Nat) (y_2 : Int32) (y_3 : Int32) (H : Heap) (locs : List Loc) (ls : Array Slot), (((v 106 22) : Int32).toInt - (y_3).toInt).toNat < n → (0 ≤ (y_3).toInt ∧ (y_3).toInt ≤ ((v 106 22) : Int32).toInt) → (bsI v A1.toNat A2 (y_3).toInt (y_2).toInt) → gS (gA G) G s v w sg H locs → lv_has ls 6 [(0, .ref (G.2.2 (106))), (1, .int (p1)), (2, .int (p2)), (3, .int (y_2)), (4, .int (y_3))] → W p l e R s m args below meth c H locs 0 0 Q (F0 m 6 ls []) := by
    intro n
    induction n with
    | zero => intro y_2 y_3 H locs ls hm; exact absurd hm (Nat.not_lt_zero _)
    | succ n ih6 =>
      intro y_2 y_3 H locs ls hm f_4 f_5 h hl
      refine lv_iload hx hb dX10_best_6 (lv_at hl 4 rfl) ?_
      refine lv_aload_n hx hb dX10_best_8 rfl (lv_at hl 0 rfl) ?_
      refine g_geti (ci := 10) (x := v 106 22) C h 106 (by decide) rfl rfl hi10 22 (by decide) f228 rfl rfl rfl dX10_best_9 ?_
      refine lv_icmp_ge (tgt := 72) hx hb dX10_best_12 (by decide) (fun c_6 => ?_) (fun c_6 => ?_)
      · have j_7 : (v 106 22).toInt ≤ (y_3).toInt := (i_le rfl rfl).mp c_6
        refine lv_iload_n hx hb dX10_best_72 rfl (lv_at hl 3 rfl) ?_
        refine lv_bipush (v := (-4)) hx hb dX10_best_73 (by decide) ?_
        refine lv_icmp_ne (tgt := 82) hx hb dX10_best_75 (by decide) (fun c_8 => ?_) (fun c_8 => ?_)
        · have j_9 : ¬ ((y_2).toInt = (-4)) := fun q => c_8 ((i_eq rfl (by decide)).mpr q)
          refine lv_iload_n hx hb dX10_best_82 rfl (lv_at hl 3 rfl) ?_
          exact ret y_2 v w sg _ _ _ _ dX10_best_83 h ⟨(bsI_end1 f_5 (by omega) (by omega) (by omega)), rfl, rfl, rfl⟩
        · have j_9 : (y_2).toInt = (-4) := (i_eq rfl (by decide)).mp c_8
          refine lv_iconst (v := 0) hx hb dX10_best_78 (by decide) ?_
          refine lv_goto (tgt := 83) hx hb dX10_best_79 (by decide) ?_
          exact ret 0 v w sg _ _ _ _ dX10_best_83 h ⟨(bsI_end0 f_5 (by omega) (by omega) (by decide) (by omega)), rfl, rfl, rfl⟩
      · have j_7 : ¬ ((v 106 22).toInt ≤ (y_3).toInt) := fun q => c_6 ((i_le rfl rfl).mpr q)
        refine lv_iload_n hx hb dX10_best_15 rfl (lv_at hl 1 rfl) ?_
        refine lv_iload hx hb dX10_best_16 (lv_at hl 4 rfl) ?_
        refine lv_ishr hx hb dX10_best_18 ?_
        refine lv_topi (fun x_10 e_11 => ?_)
        refine lv_iconst (v := 1) hx hb dX10_best_19 (by decide) ?_
        refine lv_iand hx hb dX10_best_20 ?_
        refine lv_topi (fun x_12 e_13 => ?_)
        have hbit := bit_of e_11 e_13 a1 rfl (by omega) (by omega)
        refine lv_iconst (v := 1) hx hb dX10_best_21 (by decide) ?_
        have J66_14 : ∀ (y_14 : Int32) (H : Heap) (locs : List Loc) (ls : Array Slot), (bsI v A1.toNat A2 ((y_3 : Int32).toInt + 1) (y_14).toInt) → gS (gA G) G s v w sg H locs → lv_has ls 6 [(0, .ref (G.2.2 (106))), (1, .int (p1)), (2, .int (p2)), (3, .int (y_14)), (4, .int (y_3))] → W p l e R s m args below meth c H locs 0 0 Q (F0 m 66 ls []) := by
          intro y_14 H locs ls f_15 h hl
          obtain ⟨x_16, e_17⟩ : ∃ y : Int32, y = y_3 + 1 := ⟨_, rfl⟩
          have i_18 : x_16.toInt = (y_3).toInt + 1 := ia_add e_17 rfl (by decide) (by omega) (by omega)
          refine lv_iinc (v := x_16) (lv' := [(4, .int (x_16)), (0, .ref (G.2.2 (106))), (1, .int (p1)), (2, .int (p2)), (3, .int (y_14))]) hx hb dX10_best_66 hl (k := 4) rfl (by rw [e_17]; rfl) (by decide) rfl (fun ls hl => ?_)
          refine lv_goto (tgt := 6) hx hb dX10_best_69 (by decide) ?_
          exact ih6 y_14 x_16 _ _ _ (by omega) (by omega) (f_15.cast (by omega)) h (lv_sub hl [1, 2, 3, 4, 0] rfl)
        refine lv_icmp_ne (tgt := 66) hx hb dX10_best_22 (by decide) (fun c_19 => ?_) (fun c_19 => ?_)
        · have j_20 : ¬ ((x_12).toInt = 1) := fun q => c_19 ((i_eq rfl (by decide)).mpr q)
          exact J66_14 y_2 _ _ _ (by first | exact {F65_0} | exact f_5.skip (by omega) (bit_f hbit (by omega))) h (lv_sub hl [0, 1, 2, 3, 4] rfl)
        · have j_20 : (x_12).toInt = 1 := (i_eq rfl (by decide)).mp c_19
          have hbt := bit_t hbit (by omega)
          have hle := bit_le (by omega) hbt
          have hpb := pw2_b8 (n := (y_3).toInt) (by omega)
          refine lv_aload_n hx hb dX10_best_25 rfl (lv_at hl 0 rfl) ?_
          refine lv_iload_n hx hb dX10_best_26 rfl (lv_at hl 2 rfl) ?_
          refine lv_iload hx hb dX10_best_27 (lv_at hl 4 rfl) ?_
          refine g_calli C (va_runV (As := [.int (p2), .int (y_3)]) (rest := []) C.1 (c_X10_cost l G v w sg p2 (A1 := A2) a2 y_3 (A2 := (y_3).toInt) rfl (by omega) (by omega) mi) (cwV 2 hts gX10_best_X10_cost rfl rfl rfl (by decide +kernel) ⟨by rw [hR]; exact Nat.le_of_ble_eq_true rfl, by rw [hR]; exact Nat.le_of_ble_eq_true rfl⟩) ⟨gPre_blind, g_recv C h 106 (by decide) (ci := 10) rfl rfl, gS_pre C h _⟩ rfl rfl hl.1 rfl (lv_room (Nat.le_of_ble_eq_true rfl)) dX10_best_29 ⟨Nat.zero_le _, Nat.zero_le _⟩) h (fun r_21 v_23 w_24 g_25 H locs p_22 h => ?_)
          obtain ⟨p_22, rfl, rfl, rfl⟩ := p_22
          have hcs := p_22.1
          have hcb := p_22.2
          refine lv_aload_n hx hb dX10_best_32 rfl (lv_at hl 0 rfl) ?_
          refine lv_iload_n hx hb dX10_best_33 rfl (lv_at hl 1 rfl) ?_
          refine lv_iconst (v := 1) hx hb dX10_best_34 (by decide) ?_
          refine lv_iload hx hb dX10_best_35 (lv_at hl 4 rfl) ?_
          refine lv_ishl hx hb dX10_best_37 ?_
          refine lv_topi (fun x_26 e_27 => ?_)
          have hsh := pow_of e_27 rfl (by omega)
          refine lv_isub hx hb dX10_best_38 ?_
          refine lv_topi (fun x_28 e_29 => ?_)
          have i_30 : x_28.toInt = A1 - (x_26).toInt := ia_sub e_29 a1 rfl (by omega) (by omega)
          refine lv_iload hx hb dX10_best_39 (lv_at hl 4 rfl) ?_
          refine g_calli C (va_runV (As := [.int (x_28), .int (y_3)]) (rest := [.int (r_21)]) C.1 (c_X10_behind l G v w sg x_28 (A1 := (A1 - (x_26).toInt)) i_30 y_3 (A2 := (y_3).toInt) rfl (by omega) (by omega) mi) (cwV 2 hts gX10_best_X10_behind rfl rfl rfl (by decide +kernel) ⟨by rw [hR]; exact Nat.le_of_ble_eq_true rfl, by rw [hR]; exact Nat.le_of_ble_eq_true rfl⟩) ⟨gPre_blind, g_recv C h 106 (by decide) (ci := 10) rfl rfl, gS_pre C h _⟩ rfl rfl hl.1 rfl (lv_room (Nat.le_of_ble_eq_true rfl)) dX10_best_41 ⟨Nat.zero_le _, Nat.zero_le _⟩) h (fun r_31 v_33 w_34 g_35 H locs p_32 h => ?_)
          obtain ⟨p_32, rfl, rfl, rfl⟩ := p_32
          have hls : (r_31).toInt = lsI v (A1.toNat - 2 ^ (y_3 : Int32).toInt.toNat) (y_3 : Int32).toInt.toNat := p_32.trans (ls_cast hsh hle (by omega))
          have hlb := lsI_b hL (s := (A1 - pw2 (y_3 : Int32).toInt).toNat) (l := (y_3 : Int32).toInt.toNat) (by omega) (by omega)
          rw [ls_cast rfl hle (by omega), ← hls] at hlb
          refine lv_iadd hx hb dX10_best_44 ?_
          refine lv_topi (fun x_36 e_37 => ?_)
          have i_38 : x_36.toInt = (r_21).toInt + (r_31).toInt := ia_add e_37 rfl rfl (by omega) (by omega)
          have hF45 : (x_36 : Int32).toInt = FMo v A1.toNat A2 (y_3 : Int32).toInt.toNat := by rw [i_38, hcs, hls]; rfl
          have hB45 : 0 ≤ (x_36 : Int32).toInt ∧ (x_36 : Int32).toInt ≤ 99 * ((A1.toNat : Nat) : Int) := by rw [i_38]; omega
          refine lv_istore (lv' := [(5, .int (x_36)), (0, .ref (G.2.2 (106))), (1, .int (p1)), (2, .int (p2)), (3, .int (y_2)), (4, .int (y_3))]) hx hb dX10_best_45 hl (by decide) rfl (fun ls hl => ?_)
          refine lv_iload_n hx hb dX10_best_47 rfl (lv_at hl 4 rfl) ?_
          refine lv_bipush (v := (-4)) hx hb dX10_best_48 (by decide) ?_
          have J65_39 : ∀ (y_39 : Int32) (H : Heap) (locs : List Loc) (ls : Array Slot), (bsI v A1.toNat A2 ((y_3 : Int32).toInt + 1) (y_39).toInt) → gS (gA G) G s v w sg H locs → lv_has ls 6 [(0, .ref (G.2.2 (106))), (1, .int (p1)), (2, .int (p2)), (3, .int (y_2)), (4, .int (y_3)), (5, .int (x_36))] → W p l e R s m args below meth c H locs 0 0 Q (F0 m 65 ls [.int (y_39)]) := by
            intro y_39 H locs ls f_40 h hl
            refine lv_istore_n (lv' := [(3, .int (y_39)), (0, .ref (G.2.2 (106))), (1, .int (p1)), (2, .int (p2)), (4, .int (y_3)), (5, .int (x_36))]) hx hb dX10_best_65 rfl hl (by decide) rfl (fun ls hl => ?_)
            exact J66_14 y_39 _ _ _ (by first | exact f_40 | exact f_5.skip (by omega) (bit_f hbit (by omega))) h (lv_sub hl [1, 2, 3, 0, 4] rfl)
          have J59_40 : ∀ (H : Heap) (locs : List Loc) (ls : Array Slot), ((y_2).toInt = -4 ∨ ((r_21).toInt + (r_31).toInt) < (y_2).toInt) → gS (gA G) G s v w sg H locs → lv_has ls 6 [(0, .ref (G.2.2 (106))), (1, .int (p1)), (2, .int (p2)), (3, .int (y_2)), (4, .int (y_3)), (5, .int (x_36))] → W p l e R s m args below meth c H locs 0 0 Q (F0 m 59 ls []) := by
            intro  H locs ls f_41 h hl
            refine lv_iload hx hb dX10_best_59 (lv_at hl 5 rfl) ?_
            refine lv_goto (tgt := 65) hx hb dX10_best_61 (by decide) ?_
            exact J65_39 x_36 _ _ _ (by first | exact bsI_new f_5 (by omega) (by omega) hbt hB45 hF45 | exact f_5.keep (by omega) (by omega) (by omega)) h (lv_sub hl [0, 1, 2, 3, 4, 5] rfl)
          refine lv_icmp_eq (tgt := 59) hx hb dX10_best_50 (by decide) (fun c_42 => ?_) (fun c_42 => ?_)
          · have j_43 : (y_2).toInt = (-4) := (i_eq rfl (by decide)).mp c_42
            exact J59_40  _ _ _ (by omega) h (lv_sub hl [1, 2, 3, 4, 5, 0] rfl)
          · have j_43 : ¬ ((y_2).toInt = (-4)) := fun q => c_42 ((i_eq rfl (by decide)).mpr q)
            refine lv_iload hx hb dX10_best_53 (lv_at hl 0 rfl) ?_
            refine lv_iload_n hx hb dX10_best_55 rfl (lv_at hl 4 rfl) ?_
            refine lv_icmp_ge (tgt := 64) hx hb dX10_best_56 (by decide) (fun c_44 => ?_) (fun c_44 => ?_)
            · have j_45 : (y_2).toInt ≤ ((r_21).toInt + (r_31).toInt) := (i_le rfl i_38).mp c_44
              refine lv_iload_n hx hb dX10_best_64 rfl (lv_at hl 4 rfl) ?_
              exact J65_39 y_2 _ _ _ (by first | exact bsI_new f_5 (by omega) (by omega) hbt hB45 hF45 | exact f_5.keep (by omega) (by omega) (by omega)) h (lv_sub hl [1, 2, 3, 4, 5, 0] rfl)
            · have j_45 : ¬ ((y_2).toInt ≤ ((r_21).toInt + (r_31).toInt)) := fun q => c_44 ((i_le rfl i_38).mpr q)
              exact J59_40  _ _ _ (by omega) h (lv_sub hl [1, 2, 3, 4, 5, 0] rfl)
  refine lv_istore (lv' := [(4, .int (0)), (3, .int ((-4))), (0, .ref (G.2.2 (106))), (1, .int (p1)), (2, .int (p2))]) hx hb dX10_best_4 hl (by decide) rfl (fun ls hl => ?_)
  exact J6_3 _ (-4) 0 _ _ _ (Nat.lt_succ_self _) (by omega) (bsI_0 (by decide) (by decide)) h (lv_sub hl [2, 3, 4, 1, 0] rfl)

set_option maxHeartbeats 4000000 in
set_option maxRecDepth 100000 in
theorem c_X10_findAll (l : Launch) (G : gG) (v : Nat → Nat → Int32) (w : Nat → Nat → Int64) (sg : Nat → Nat) (mi : mI v) : Met l yX10_findAll wsX10_findAll ({ frames := 3, cells := 0, slots := 0, locals := 72 }) (gPre G v w sg [.ref (G.2.2 (106))]) (gQi G (fun r v' w' sg' => (mI v' ∧ fM 126 127 0 0 v w v' w ∧ (0 ≤ r.toInt ∧ r.toInt < pw2 (v' 106 22).toInt) ∧ Lq v' (v' 106 22).toInt (pw2 (v' 106 22).toInt) 0 ∧ v' 106 22 = v 106 22 ∧ r.toInt = ((opN (v 125) (v 106 22).toInt.toNat) : Int) ∧ TM v' (v 106 22).toInt (pw2 (v 106 22).toInt) 0) ∧ w = w' ∧ sg = sg')) 0 0 (gA G) := by
  refine gM_ofi (cc := cX10_findAll) (maxL := 4) (by decide) rfl (Nat.le_of_ble_eq_true rfl) ?_
  intro p e R s m args below meth c Q ls C hR ret h hl
  have hx := C.1.1
  have hb := C.1.2.1
  have hown := C.1.2.2.2.1
  have hts := C.1.2.2.2.2
  have hl : lv_has ls 4 [(0, .ref (G.2.2 (106)))] := hl
  have z_0 : (0 : Int32).toInt = 0 := by decide
  have z_1 : (1 : Int32).toInt = 1 := by decide
  have z_9 : (9 : Int32).toInt = 9 := by decide
  have f228 : Cond.fieldLink RX10 228 "WindHallModel" "places" "I" ∈ wsX10_findAll := by decide +kernel
  have hi10 : ∀ x ∈ u_ws RX10 TX10 42, x ∈ wsX10_findAll := fun x q => List.mem_cons_of_mem _ (List.mem_append_right _ q)
  have f69 : Cond.fieldLink RX10 69 "WindHallModel" "leasts" "[I" ∈ wsX10_findAll := by decide +kernel
  have f66 : Cond.fieldLink RX10 66 "WindHallModel" "isDone" "[Z" ∈ wsX10_findAll := by decide +kernel
  have o_1 := mi
  obtain ⟨I7, I10, I18, I22, I27, I29, I32, Is, I35, Ia, Iar, Isz, Ian⟩ := o_1
  refine lv_iconst (v := 0) hx hb dX10_findAll_0 (by decide) ?_
  refine lv_istore_n (lv' := [(1, .int (0)), (0, .ref (G.2.2 (106)))]) hx hb dX10_findAll_1 rfl hl (by decide) rfl (fun ls hl => ?_)
  refine lv_iconst (v := 0) hx hb dX10_findAll_2 (by decide) ?_
  have J4_3 : ∀ (n : Nat) (y_2 : Int32) (y_3 : Int32) (H : Heap) (locs : List Loc) (ls : Array Slot), ((v 106 22).toInt - (y_3).toInt).toNat < n → (0 ≤ (y_3).toInt ∧ (y_3).toInt ≤ (v 106 22).toInt) → (0 ≤ (y_2).toInt ∧ (y_2).toInt < pw2 (y_3).toInt) → ((y_2).toInt = (opN (v 125) ((y_3).toInt).toNat : Int)) → gS (gA G) G s v w sg H locs → lv_has ls 4 [(0, .ref (G.2.2 (106))), (1, .int (y_2)), (2, .int (y_3))] → W p l e R s m args below meth c H locs 0 0 Q (F0 m 4 ls []) := by
    intro n
    induction n with
    | zero => intro y_2 y_3 H locs ls hm; exact absurd hm (Nat.not_lt_zero _)
    | succ n ih4 =>
      intro y_2 y_3 H locs ls hm f_4 f_5 f_6 h hl
      have hpb := pw2_b (n := (y_3).toInt) (by omega)
      refine lv_iload_n hx hb dX10_findAll_4 rfl (lv_at hl 2 rfl) ?_
      refine lv_aload_n hx hb dX10_findAll_5 rfl (lv_at hl 0 rfl) ?_
      refine g_geti (ci := 10) (x := v 106 22) C h 106 (by decide) rfl rfl hi10 22 (by decide) f228 rfl rfl rfl dX10_findAll_6 ?_
      refine lv_icmp_ge (tgt := 37) hx hb dX10_findAll_9 (by decide) (fun c_7 => ?_) (fun c_7 => ?_)
      · have j_8 : (v 106 22).toInt ≤ (y_3).toInt := (i_le rfl rfl).mp c_7
        have hall : (y_2).toInt < pw2 (v 106 22).toInt := by have e : (y_3).toInt = (v 106 22).toInt := (by omega); rw [← e]; omega
        have hop37 : (y_2).toInt = ((opN (v 125) (v 106 22).toInt.toNat) : Int) := by rw [f_6, show (y_3).toInt = (v 106 22).toInt by omega]
        refine lv_iconst (v := 1) hx hb dX10_findAll_37 (by decide) ?_
        have J39_10 : ∀ (n : Nat) (y_9 : Int32) (v_10 : Nat → Nat → Int32) (H : Heap) (locs : List Loc) (ls : Array Slot), (pw2 (v 106 22).toInt - (y_9).toInt).toNat < n → (mI v_10) → (fM 126 127 0 0 v w v_10 w) → (1 ≤ (y_9).toInt ∧ (y_9).toInt ≤ pw2 (v 106 22).toInt) → (Lq v_10 (v 106 22).toInt (y_9).toInt 0) → (v_10 106 22 = v 106 22) → (TM v_10 (v 106 22).toInt (y_9).toInt 0) → gS (gA G) G s v_10 w sg H locs → lv_has ls 4 [(0, .ref (G.2.2 (106))), (1, .int (y_2)), (2, .int (y_9))] → W p l e R s m args below meth c H locs 0 0 Q (F0 m 39 ls []) := by
          intro n
          induction n with
          | zero => intro y_9 v_10 H locs ls hm; exact absurd hm (Nat.not_lt_zero _)
          | succ n ih39 =>
            intro y_9 v_10 H locs ls hm u_11 u_12 f_13 f_14 f_15 f_16 h hl
            have o_17 := u_11
            obtain ⟨I7, I10, I18, I22, I27, I29, I32, Is, I35, Ia, Iar, Isz, Ian⟩ := o_17
            have e22 : ((v_10) 106 22).toInt = (v 106 22).toInt := by rw [f_15]
            have hpp := pw2_b (n := (v 106 22).toInt) (by omega)
            refine lv_iload_n hx hb dX10_findAll_39 rfl (lv_at hl 2 rfl) ?_
            refine lv_iconst (v := 1) hx hb dX10_findAll_40 (by decide) ?_
            refine lv_aload_n hx hb dX10_findAll_41 rfl (lv_at hl 0 rfl) ?_
            refine g_geti (ci := 10) (x := v_10 106 22) C h 106 (by decide) rfl rfl hi10 22 (by decide) f228 rfl rfl rfl dX10_findAll_42 ?_
            refine lv_ishl hx hb dX10_findAll_45 ?_
            refine lv_topi (fun x_18 e_19 => ?_)
            have hsh := (pow_of e_19 rfl (by omega) : (x_18 : Int32).toInt = _)
            rw [e22] at hsh
            refine lv_icmp_ge (tgt := 88) hx hb dX10_findAll_46 (by decide) (fun c_20 => ?_) (fun c_20 => ?_)
            · have j_21 : (x_18).toInt ≤ (y_9).toInt := (i_le rfl rfl).mp c_20
              refine lv_iload_n hx hb dX10_findAll_88 rfl (lv_at hl 1 rfl) ?_
              exact ret y_2 v_10 w sg _ _ _ _ dX10_findAll_89 h ⟨⟨u_11, u_12, ⟨by rw [e22]; omega, by rw [e22]; exact f_14.le (by omega) (by omega), f_15, hop37, f_16.le (by omega) (by omega)⟩⟩, rfl, rfl⟩
            · have j_21 : ¬ ((x_18).toInt ≤ (y_9).toInt) := fun q => c_20 ((i_le rfl rfl).mpr q)
              refine lv_iconst (v := 0) hx hb dX10_findAll_49 (by decide) ?_
              have J51_23 : ∀ (n : Nat) (y_22 : Int32) (v_23 : Nat → Nat → Int32) (H : Heap) (locs : List Loc) (ls : Array Slot), ((v 106 22).toInt - (y_22).toInt).toNat < n → (mI v_23) → (fM 126 127 0 0 v w v_23 w) → (0 ≤ (y_22).toInt ∧ (y_22).toInt ≤ (v 106 22).toInt) → (1 ≤ (y_9).toInt ∧ (y_9).toInt < pw2 (v 106 22).toInt) → (Lq v_23 (v 106 22).toInt (y_9).toInt (y_22).toInt) → (v_23 106 22 = v 106 22) → (TM v_23 (v 106 22).toInt (y_9).toInt (y_22).toInt) → gS (gA G) G s v_23 w sg H locs → lv_has ls 4 [(0, .ref (G.2.2 (106))), (1, .int (y_2)), (2, .int (y_9)), (3, .int (y_22))] → W p l e R s m args below meth c H locs 0 0 Q (F0 m 51 ls []) := by
                intro n
                induction n with
                | zero => intro y_22 v_23 H locs ls hm; exact absurd hm (Nat.not_lt_zero _)
                | succ n ih51 =>
                  intro y_22 v_23 H locs ls hm u_24 u_25 f_26 f_27 f_28 f_29 f_30 h hl
                  have o_31 := u_24
                  obtain ⟨I7, I10, I18, I22, I27, I29, I32, Is, I35, Ia, Iar, Isz, Ian⟩ := o_31
                  have e22 : ((v_23) 106 22).toInt = (v 106 22).toInt := by rw [f_29]
                  refine lv_iload_n hx hb dX10_findAll_51 rfl (lv_at hl 3 rfl) ?_
                  refine lv_aload_n hx hb dX10_findAll_52 rfl (lv_at hl 0 rfl) ?_
                  refine g_geti (ci := 10) (x := v_23 106 22) C h 106 (by decide) rfl rfl hi10 22 (by decide) f228 rfl rfl rfl dX10_findAll_53 ?_
                  refine lv_icmp_ge (tgt := 82) hx hb dX10_findAll_56 (by decide) (fun c_32 => ?_) (fun c_32 => ?_)
                  · have j_33 : (v_23 106 22).toInt ≤ (y_22).toInt := (i_le rfl rfl).mp c_32
                    obtain ⟨x_34, e_35⟩ : ∃ y : Int32, y = y_9 + 1 := ⟨_, rfl⟩
                    have i_36 : x_34.toInt = (y_9).toInt + 1 := ia_add e_35 rfl (by decide) (by omega) (by omega)
                    refine lv_iinc (v := x_34) (lv' := [(2, .int (x_34)), (0, .ref (G.2.2 (106))), (1, .int (y_2)), (3, .int (y_22))]) hx hb dX10_findAll_82 hl (k := 2) rfl (by rw [e_35]; rfl) (by decide) rfl (fun ls hl => ?_)
                    refine lv_goto (tgt := 39) hx hb dX10_findAll_85 (by decide) ?_
                    exact ih39 x_34 v_23 _ _ _ (by omega) u_24 u_25 (by omega) (f_28.next (by omega) (by omega) rfl) f_29 (f_30.next (by omega) (by omega) rfl) h (lv_sub hl [1, 2, 0] rfl)
                  · have j_33 : ¬ ((v_23 106 22).toInt ≤ (y_22).toInt) := fun q => c_32 ((i_le rfl rfl).mpr q)
                    refine lv_aload_n hx hb dX10_findAll_59 rfl (lv_at hl 0 rfl) ?_
                    refine g_get (ci := 10) (x := .ref (G.2.2 (126))) C h 106 (by decide) rfl rfl hi10 26 (by decide) f69 rfl rfl dX10_findAll_60 ?_
                    refine lv_bipush (v := 9) hx hb dX10_findAll_63 (by decide) ?_
                    refine lv_iload_n hx hb dX10_findAll_65 rfl (lv_at hl 2 rfl) ?_
                    refine lv_imul hx hb dX10_findAll_66 ?_
                    refine lv_topi (fun x_37 e_38 => ?_)
                    have i_39 : x_37.toInt = 9 * (y_9).toInt := ia_mul e_38 (by decide) rfl (by omega) (by omega)
                    refine lv_iload_n hx hb dX10_findAll_67 rfl (lv_at hl 3 rfl) ?_
                    refine lv_iadd hx hb dX10_findAll_68 ?_
                    refine lv_topi (fun x_40 e_41 => ?_)
                    have i_42 : x_40.toInt = (9 * (y_9).toInt) + (y_22).toInt := ia_add e_41 i_39 rfl (by omega) (by omega)
                    refine lv_aload_n hx hb dX10_findAll_69 rfl (lv_at hl 0 rfl) ?_
                    refine lv_iload_n hx hb dX10_findAll_70 rfl (lv_at hl 2 rfl) ?_
                    refine lv_iload_n hx hb dX10_findAll_71 rfl (lv_at hl 3 rfl) ?_
                    refine g_calli C (va_runV (As := [.int (y_9), .int (y_22)]) (rest := [.int (x_40), .ref (G.2.2 (126))]) C.1 (c_X10_best l G v_23 w sg y_9 (A1 := (y_9).toInt) rfl y_22 (A2 := (y_22).toInt) rfl (by omega) (Or.inr (by omega)) (by rw [e22]; exact f_28.drop (by omega)) u_24) (cwV 2 hts gX10_findAll_X10_best rfl rfl rfl (by decide +kernel) ⟨by rw [hR]; exact Nat.le_of_ble_eq_true rfl, by rw [hR]; exact Nat.le_of_ble_eq_true rfl⟩) ⟨gPre_blind, g_recv C h 106 (by decide) (ci := 10) rfl rfl, gS_pre C h _⟩ rfl rfl hl.1 rfl (lv_room (Nat.le_of_ble_eq_true rfl)) dX10_findAll_72 ⟨Nat.zero_le _, Nat.zero_le _⟩) h (fun r_43 v_45 w_46 g_47 H locs p_44 h => ?_)
                    obtain ⟨p_44, rfl, rfl, rfl⟩ := p_44
                    have hbp := p_44.1
                    have hidx := i_42
                    have hbx0 := p_44.2
                    rw [e22] at hbx0
                    have hbx := exB_of (by omega) (by omega) hbx0
                    refine g_iast C h 126 (by decide) (by decide) (n := 4608) (by decide) (vp_of i_42 (by omega) (by omega)) dX10_findAll_75 (fun H locs h => ?_)
                    obtain ⟨v_48, hv_48⟩ : ∃ z, z = gu v_23 126 ((x_40 : Int32).toNatClampNeg) r_43 := ⟨_, rfl⟩
                    have h : gS (gA G) G s v_48 w sg H locs := by rw [hv_48]; exact h
                    have u_49 : mI v_48 := by rw [hv_48]; exact u_24
                    have u_50 : fM 126 127 0 0 v w v_48 w := by rw [hv_48]; exact (fM_v u_25 (by decide))
                    obtain ⟨x_51, e_52⟩ : ∃ y : Int32, y = y_22 + 1 := ⟨_, rfl⟩
                    have i_53 : x_51.toInt = (y_22).toInt + 1 := ia_add e_52 rfl (by decide) (by omega) (by omega)
                    refine lv_iinc (v := x_51) (lv' := [(3, .int (x_51)), (0, .ref (G.2.2 (106))), (1, .int (y_2)), (2, .int (y_9))]) hx hb dX10_findAll_76 hl (k := 3) rfl (by rw [e_52]; rfl) (by decide) rfl (fun ls hl => ?_)
                    refine lv_goto (tgt := 51) hx hb dX10_findAll_79 (by decide) ?_
                    exact ih51 x_51 v_48 _ _ _ (by omega) u_49 u_50 (by omega) (by omega) (by rw [hv_48]; exact f_28.st hidx (by omega) (by omega) (by omega) (by omega) (by omega)) (by rw [hv_48]; exact f_29) (by rw [hv_48]; exact f_30.st hidx (by omega) (by omega) (by omega) hbx (by omega)) h (lv_sub hl [1, 2, 3, 0] rfl)
              refine lv_istore_n (lv' := [(3, .int (0)), (0, .ref (G.2.2 (106))), (1, .int (y_2)), (2, .int (y_9))]) hx hb dX10_findAll_50 rfl hl (by decide) rfl (fun ls hl => ?_)
              exact J51_23 _ 0 v_10 _ _ _ (Nat.lt_succ_self _) u_11 u_12 (by omega) (by omega) (f_14.le (by omega) (by decide)) f_15 (f_16.le (by omega) (by decide)) h (lv_sub hl [1, 2, 3, 0] rfl)
        refine lv_istore_n (lv' := [(2, .int (1)), (0, .ref (G.2.2 (106))), (1, .int (y_2))]) hx hb dX10_findAll_38 rfl hl (by decide) rfl (fun ls hl => ?_)
        exact J39_10 _ 1 v _ _ _ (Nat.lt_succ_self _) mi fM_rf ⟨by decide, by have := pw2_b (n := (v 106 22).toInt) (by omega); omega⟩ (fun s l h1 h2 h3 => by omega) rfl (fun s l h1 h2 h3 => by omega) h (lv_sub hl [1, 2, 0] rfl)
      · have j_8 : ¬ ((v 106 22).toInt ≤ (y_3).toInt) := fun q => c_7 ((i_le rfl rfl).mpr q)
        refine lv_iload_n hx hb dX10_findAll_12 rfl (lv_at hl 1 rfl) ?_
        refine lv_aload_n hx hb dX10_findAll_13 rfl (lv_at hl 0 rfl) ?_
        refine g_get (ci := 10) (x := .ref (G.2.2 (125))) C h 106 (by decide) rfl rfl hi10 25 (by decide) f66 rfl rfl dX10_findAll_14 ?_
        refine lv_iload_n hx hb dX10_findAll_17 rfl (lv_at hl 2 rfl) ?_
        refine g_zald C h 125 (by decide) (by decide) (n := 9) (by decide) (vp_of rfl (by omega) (by omega)) dX10_findAll_18 ?_
        refine lv_topi (fun x_54 e_55 => ?_)
        have hx18 : (x_54).toInt = (v 125 (y_3 : Int32).toNatClampNeg).toInt := by rw [e_55]
        have J29_56 : ∀ (y_56 : Int32) (H : Heap) (locs : List Loc) (ls : Array Slot), ((y_56).toInt = 0 ∨ (y_56).toInt = pw2 (y_3).toInt) → (((v 125 (y_3 : Int32).toNatClampNeg).toInt ≠ 0 ∧ (y_56).toInt = 0) ∨ ((v 125 (y_3 : Int32).toNatClampNeg).toInt = 0 ∧ (y_56).toInt = pw2 (y_3).toInt)) → gS (gA G) G s v w sg H locs → lv_has ls 4 [(0, .ref (G.2.2 (106))), (1, .int (y_2)), (2, .int (y_3))] → W p l e R s m args below meth c H locs 0 0 Q (F0 m 29 ls [.int (y_56), .int (y_2)]) := by
          intro y_56 H locs ls f_57 f_58 h hl
          refine lv_iadd hx hb dX10_findAll_29 ?_
          refine lv_topi (fun x_59 e_60 => ?_)
          have i_61 : x_59.toInt = (y_2).toInt + (y_56).toInt := ia_add e_60 rfl rfl (by omega) (by omega)
          have hpb8 := pw2_b8 (n := (y_3).toInt) (by omega)
          refine lv_istore_n (lv' := [(1, .int (x_59)), (0, .ref (G.2.2 (106))), (2, .int (y_3))]) hx hb dX10_findAll_30 rfl hl (by decide) rfl (fun ls hl => ?_)
          obtain ⟨x_62, e_63⟩ : ∃ y : Int32, y = y_3 + 1 := ⟨_, rfl⟩
          have i_64 : x_62.toInt = (y_3).toInt + 1 := ia_add e_63 rfl (by decide) (by omega) (by omega)
          refine lv_iinc (v := x_62) (lv' := [(2, .int (x_62)), (1, .int (x_59)), (0, .ref (G.2.2 (106)))]) hx hb dX10_findAll_31 hl (k := 2) rfl (by rw [e_63]; rfl) (by decide) rfl (fun ls hl => ?_)
          refine lv_goto (tgt := 4) hx hb dX10_findAll_34 (by decide) ?_
          exact ih4 x_59 x_62 _ _ _ (by omega) (by omega) ⟨by omega, by rw [i_64, pw2_s (by omega)]; omega⟩ (by have hop := op_st (f := v 125) (k := (y_3 : Int32).toInt.toNat) (x := v 125 (y_3 : Int32).toNatClampNeg) rfl (i := y_3) rfl (by omega) rfl f_58; rw [show (x_62 : Int32).toInt.toNat = (y_3 : Int32).toInt.toNat + 1 by omega, ← hop, ← f_6]; exact i_61) h (lv_sub hl [2, 1, 0] rfl)
        refine lv_if_eq (tgt := 26) hx hb dX10_findAll_19 (by decide) (fun c_65 => ?_) (fun c_65 => ?_)
        · have j_66 : (x_54).toInt = 0 := (i_eq rfl (by decide)).mp c_65
          refine lv_iconst (v := 1) hx hb dX10_findAll_26 (by decide) ?_
          refine lv_iload_n hx hb dX10_findAll_27 rfl (lv_at hl 2 rfl) ?_
          refine lv_ishl hx hb dX10_findAll_28 ?_
          refine lv_topi (fun x_67 e_68 => ?_)
          exact J29_56 x_67 _ _ _ (by first | exact Or.inl (by decide) | exact Or.inr (pow_of e_68 rfl (by omega))) (by first | exact Or.inl ⟨by omega, by decide⟩ | exact Or.inr ⟨by omega, pow_of e_68 rfl (by omega)⟩) h (lv_sub hl [0, 1, 2] rfl)
        · have j_66 : ¬ ((x_54).toInt = 0) := fun q => c_65 ((i_eq rfl (by decide)).mpr q)
          refine lv_iconst (v := 0) hx hb dX10_findAll_22 (by decide) ?_
          refine lv_goto (tgt := 29) hx hb dX10_findAll_23 (by decide) ?_
          exact J29_56 0 _ _ _ (by first | exact Or.inl (by decide) | exact Or.inr (pow_of rfl rfl (by omega))) (by first | exact Or.inl ⟨by omega, by decide⟩ | exact Or.inr ⟨by omega, pow_of rfl rfl (by omega)⟩) h (lv_sub hl [0, 1, 2] rfl)
  refine lv_istore_n (lv' := [(2, .int (0)), (1, .int (0)), (0, .ref (G.2.2 (106)))]) hx hb dX10_findAll_3 rfl hl (by decide) rfl (fun ls hl => ?_)
  exact J4_3 _ 0 0 _ _ _ (Nat.lt_succ_self _) (by omega) ⟨by decide, by decide⟩ (by rw [z_0] <;> rfl) h (lv_sub hl [2, 1, 0] rfl)

set_option maxHeartbeats 4000000 in
set_option maxRecDepth 100000 in
theorem c_X10_least (l : Launch) (G : gG) (v : Nat → Nat → Int32) (w : Nat → Nat → Int64) (sg : Nat → Nat) (mi : mI v) : Met l yX10_least wsX10_least ({ frames := 4, cells := 0, slots := 0, locals := 95 }) (gPre G v w sg [.ref (G.2.2 (106))]) (gQi G (fun r v' w' sg' => (mI v' ∧ fM 126 127 0 0 v w v' w ∧ gTb (cM v') (v 106 22).toInt.toNat (opN (v 125) (v 106 22).toInt.toNat) (lsI v') ∧ ltT (cM v') (v 106 22).toInt.toNat (opN (v 125) (v 106 22).toInt.toNat) (lsI v') r.toInt) ∧ w = w' ∧ sg = sg')) 0 0 (gA G) := by
  refine gM_ofi (cc := cX10_least) (maxL := 2) (by decide) rfl (Nat.le_of_ble_eq_true rfl) ?_
  intro p e R s m args below meth c Q ls C hR ret h hl
  have hx := C.1.1
  have hb := C.1.2.1
  have hown := C.1.2.2.2.1
  have hts := C.1.2.2.2.2
  have hl : lv_has ls 2 [(0, .ref (G.2.2 (106)))] := hl
  have z_m4 : ((-4) : Int32).toInt = (-4) := by decide
  have z_0 : (0 : Int32).toInt = 0 := by decide
  have z_1 : (1 : Int32).toInt = 1 := by decide
  have o_1 := mi
  obtain ⟨I7, I10, I18, I22, I27, I29, I32, Is, I35, Ia, Iar, Isz, Ian⟩ := o_1
  refine lv_aload_n hx hb dX10_least_0 rfl (lv_at hl 0 rfl) ?_
  refine g_calli C (va_runV (As := []) (rest := []) C.1 (c_X10_findAll l G v w sg  mi) (cwV 0 hts gX10_least_X10_findAll rfl rfl rfl (by decide +kernel) ⟨by rw [hR]; exact Nat.le_of_ble_eq_true rfl, by rw [hR]; exact Nat.le_of_ble_eq_true rfl⟩) ⟨gPre_blind, g_recv C h 106 (by decide) (ci := 10) rfl rfl, gS_pre C h _⟩ rfl rfl hl.1 rfl (lv_room (Nat.le_of_ble_eq_true rfl)) dX10_least_1 ⟨Nat.zero_le _, Nat.zero_le _⟩) h (fun r_2 v_4 w_5 g_6 H locs p_3 h => ?_)
  obtain ⟨p_3, rfl, rfl⟩ := p_3
  have u_7 : mI v_4 := p_3.1
  have u_8 : fM 126 127 0 0 v w v_4 w := fM_tr fM_rf (fM_le p_3.2.1 (by decide))
  have o_9 := u_7
  obtain ⟨I7, I10, I18, I22, I27, I29, I32, Is, I35, Ia, Iar, Isz, Ian⟩ := o_9
  have hfa := p_3.2.2
  refine lv_istore_n (lv' := [(1, .int (r_2)), (0, .ref (G.2.2 (106)))]) hx hb dX10_least_4 rfl hl (by decide) rfl (fun ls hl => ?_)
  refine lv_aload_n hx hb dX10_least_5 rfl (lv_at hl 1 rfl) ?_
  refine lv_iload_n hx hb dX10_least_6 rfl (lv_at hl 0 rfl) ?_
  refine lv_bipush (v := (-4)) hx hb dX10_least_7 (by decide) ?_
  refine g_calli C (va_runV (As := [.int (r_2), .int ((-4))]) (rest := []) C.1 (c_X10_best l G v_4 w sg r_2 (A1 := (r_2).toInt) rfl ((-4)) (A2 := (-4)) (by decide) (by have := pw2_b (n := (v_4 106 22).toInt) (by omega); omega) (Or.inl (by decide)) (hfa.2.1.le (by omega) (by decide)) u_7) (cwV 2 hts gX10_least_X10_best rfl rfl rfl (by decide +kernel) ⟨by rw [hR]; exact Nat.le_of_ble_eq_true rfl, by rw [hR]; exact Nat.le_of_ble_eq_true rfl⟩) ⟨gPre_blind, g_recv C h 106 (by decide) (ci := 10) rfl rfl, gS_pre C h _⟩ rfl rfl hl.1 rfl (lv_room (Nat.le_of_ble_eq_true rfl)) dX10_least_9 ⟨Nat.zero_le _, Nat.zero_le _⟩) h (fun r_10 v_12 w_13 g_14 H locs p_11 h => ?_)
  obtain ⟨p_11, rfl, rfl, rfl⟩ := p_11
  have hbs := p_11.2
  have e22 : (v_4 106 22).toInt = (v 106 22).toInt := by rw [hfa.2.2.1]
  rw [e22] at hbs
  have hb0 := hfa.1
  rw [e22] at hb0
  have ea : (r_2 : Int32).toInt.toNat = (opN (v 125) (v 106 22).toInt.toNat) := by have := hfa.2.2.2.1; omega
  exact ret r_10 v_4 w sg _ _ _ _ dX10_least_12 h ⟨⟨u_7, u_8, ⟨by rw [← ea]; exact gT_m hfa.2.2.2.2 (by omega) (by omega), by rw [← ea]; exact lt_m hb0 hbs⟩⟩, rfl, rfl⟩
