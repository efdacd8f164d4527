set_option maxHeartbeats 4000000 in
set_option maxRecDepth 100000 in
theorem lc_9 {p : Program} {l : Launch} {e : Env} {R : Room} {s : State} {m : MethodId} {args : Array Value} {below : List Frame} {meth : Method} {c : Code} {H : Heap} {locs : List Loc} {cells slots : Nat} {Q : State → Prop} {ls : Array Slot} {A : Nat → Prop} {G : gG} {v : Nat → Nat → Int32} {w : Nat → Nat → Int64} {sg : Nat → Nat} {b L : Nat} {xs : Nat → Int32} {x3 : Int32}
    (C : gC p s m c code 4 args wsL_law RL A G) (hR : R = room_1) (hcs : cells ≤ R.cells ∧ slots ≤ R.slots) (hX : va_X b L xs s s.heap) (hbl : b < s.heap.size) (hbA : ¬ A b) (hi3 : 0 ≤ x3.toInt ∧ x3.toInt + 7 ≤ (L : Int)) (hL : L ≤ 3584) (ci : cI v) (cg : cG sg) (mi : mI v) (rl : Rl v) (h : gS A G s v w sg H locs) (hl : lv_has ls 4 [(0, .ref b), (1, .ref (G.2.2 (0))), (2, .ref (G.2.2 (106))), (3, .int (x3))])
    (K : ∀ (v : Nat → Nat → Int32) (w : Nat → Nat → Int64) (sg : Nat → Nat) (H : Heap) (locs : List Loc) (ls : Array Slot), cI v → cG sg → mI v → Rl v → gS A G s v w sg H locs → lv_has ls 4 [(0, .ref b), (1, .ref (G.2.2 (0))), (2, .ref (G.2.2 (106))), (3, .int (x3))] → W p l e R s m args below meth c H locs cells slots Q (F0 m 1423 ls [])) : W p l e R s m args below meth c H locs cells slots Q (F0 m 557 ls []) := by
  have hx := C.1.1
  have hb := C.1.2.1
  have hown := C.1.2.2.2.1
  have hts := C.1.2.2.2.2
  have z_0 : (0 : Int32).toInt = 0 := by decide
  have z_1 : (1 : Int32).toInt = 1 := by decide
  have z_2 : (2 : Int32).toInt = 2 := by decide
  have z_3 : (3 : Int32).toInt = 3 := by decide
  have z_4 : (4 : Int32).toInt = 4 := by decide
  refine lv_aload_n hx hb dL_law_557 rfl (lv_at hl 1 rfl) ?_
  refine lv_aload_n hx hb dL_law_558 rfl (lv_at hl 0 rfl) ?_
  refine lv_iload_n hx hb dL_law_559 rfl (lv_at hl 3 rfl) ?_
  refine lv_iconst (v := 1) hx hb dL_law_560 (by decide) ?_
  refine lv_iadd hx hb dL_law_561 ?_
  refine lv_topi (fun x_1 e_2 => ?_)
  have i_3 : x_1.toInt = (x3).toInt + 1 := ia_add e_2 rfl (by decide) (by omega) (by omega)
  refine va_sld hx hb hX hbl hbA h.2 (vp_of i_3 (by omega) (by omega)) dL_law_562 ?_
  refine lv_topi (fun x_4 e_5 => ?_)
  refine lv_aload_n hx hb dL_law_563 rfl (lv_at hl 0 rfl) ?_
  refine lv_iload_n hx hb dL_law_564 rfl (lv_at hl 3 rfl) ?_
  refine lv_iconst (v := 2) hx hb dL_law_565 (by decide) ?_
  refine lv_iadd hx hb dL_law_566 ?_
  refine lv_topi (fun x_6 e_7 => ?_)
  have i_8 : x_6.toInt = (x3).toInt + 2 := ia_add e_7 rfl (by decide) (by omega) (by omega)
  refine va_sld hx hb hX hbl hbA h.2 (vp_of i_8 (by omega) (by omega)) dL_law_567 ?_
  refine lv_topi (fun x_9 e_10 => ?_)
  refine lv_aload_n hx hb dL_law_568 rfl (lv_at hl 0 rfl) ?_
  refine lv_iload_n hx hb dL_law_569 rfl (lv_at hl 3 rfl) ?_
  refine lv_iconst (v := 3) hx hb dL_law_570 (by decide) ?_
  refine lv_iadd hx hb dL_law_571 ?_
  refine lv_topi (fun x_11 e_12 => ?_)
  have i_13 : x_11.toInt = (x3).toInt + 3 := ia_add e_12 rfl (by decide) (by omega) (by omega)
  refine va_sld hx hb hX hbl hbA h.2 (vp_of i_13 (by omega) (by omega)) dL_law_572 ?_
  refine lv_topi (fun x_14 e_15 => ?_)
  refine lv_aload_n hx hb dL_law_573 rfl (lv_at hl 0 rfl) ?_
  refine lv_iload_n hx hb dL_law_574 rfl (lv_at hl 3 rfl) ?_
  refine lv_iconst (v := 4) hx hb dL_law_575 (by decide) ?_
  refine lv_iadd hx hb dL_law_576 ?_
  refine lv_topi (fun x_16 e_17 => ?_)
  have i_18 : x_16.toInt = (x3).toInt + 4 := ia_add e_17 rfl (by decide) (by omega) (by omega)
  refine va_sld hx hb hX hbl hbA h.2 (vp_of i_18 (by omega) (by omega)) dL_law_577 ?_
  refine lv_topi (fun x_19 e_20 => ?_)
  refine g_calli C (va_runV (As := [.int (x_4), .int (x_9), .int (x_14), .int (x_19)]) (rest := []) C.1 (c_X9_correct l G v w sg x_4 (A1 := (x_4).toInt) rfl x_9 (A2 := (x_9).toInt) rfl x_14 (A3 := (x_14).toInt) rfl x_19 (A4 := (x_19).toInt) rfl ci cg) (cwV 4 hts gL_law_X9_correct rfl rfl rfl (by decide +kernel) ⟨by rw [hR]; exact Nat.le_of_ble_eq_true rfl, by rw [hR]; exact Nat.le_of_ble_eq_true rfl⟩) ⟨gPre_blind, g_recv C h 0 (by decide) (ci := 9) rfl rfl, gS_pre C h _⟩ rfl rfl hl.1 rfl (lv_room (Nat.le_of_ble_eq_true rfl)) dL_law_578 hcs) h (fun r_21 v_23 w_24 g_25 H locs p_22 h => ?_)
  obtain ⟨p_22, rfl, rfl⟩ := p_22
  have u_26 := p_22.1
  have u_27 := cg
  have u_28 := mI_fC mi p_22.2 (by decide)
  refine lv_pop hx hb dL_law_581 rfl ?_
  refine lv_aload_n hx hb dL_law_582 rfl (lv_at hl 2 rfl) ?_
  refine lv_aload_n hx hb dL_law_583 rfl (lv_at hl 0 rfl) ?_
  refine lv_iload_n hx hb dL_law_584 rfl (lv_at hl 3 rfl) ?_
  refine lv_iconst (v := 1) hx hb dL_law_585 (by decide) ?_
  refine lv_iadd hx hb dL_law_586 ?_
  refine lv_topi (fun x_29 e_30 => ?_)
  have i_31 : x_29.toInt = (x3).toInt + 1 := ia_add e_30 rfl (by decide) (by omega) (by omega)
  refine va_sld hx hb hX hbl hbA h.2 (vp_of i_31 (by omega) (by omega)) dL_law_587 ?_
  refine lv_topi (fun x_32 e_33 => ?_)
  have s_34 : x_4 = x_32 := by rw [e_5, e_33, show x_1 = x_29 from (fa_eq _ _).mpr ((i_3).trans (i_31).symm)]
  subst s_34
  refine lv_aload_n hx hb dL_law_588 rfl (lv_at hl 0 rfl) ?_
  refine lv_iload_n hx hb dL_law_589 rfl (lv_at hl 3 rfl) ?_
  refine lv_iconst (v := 2) hx hb dL_law_590 (by decide) ?_
  refine lv_iadd hx hb dL_law_591 ?_
  refine lv_topi (fun x_35 e_36 => ?_)
  have i_37 : x_35.toInt = (x3).toInt + 2 := ia_add e_36 rfl (by decide) (by omega) (by omega)
  refine va_sld hx hb hX hbl hbA h.2 (vp_of i_37 (by omega) (by omega)) dL_law_592 ?_
  refine lv_topi (fun x_38 e_39 => ?_)
  have s_40 : x_9 = x_38 := by rw [e_10, e_39, show x_6 = x_35 from (fa_eq _ _).mpr ((i_8).trans (i_37).symm)]
  subst s_40
  refine lv_aload_n hx hb dL_law_593 rfl (lv_at hl 0 rfl) ?_
  refine lv_iload_n hx hb dL_law_594 rfl (lv_at hl 3 rfl) ?_
  refine lv_iconst (v := 3) hx hb dL_law_595 (by decide) ?_
  refine lv_iadd hx hb dL_law_596 ?_
  refine lv_topi (fun x_41 e_42 => ?_)
  have i_43 : x_41.toInt = (x3).toInt + 3 := ia_add e_42 rfl (by decide) (by omega) (by omega)
  refine va_sld hx hb hX hbl hbA h.2 (vp_of i_43 (by omega) (by omega)) dL_law_597 ?_
  refine lv_topi (fun x_44 e_45 => ?_)
  have s_46 : x_14 = x_44 := by rw [e_15, e_45, show x_11 = x_41 from (fa_eq _ _).mpr ((i_13).trans (i_43).symm)]
  subst s_46
  refine lv_aload_n hx hb dL_law_598 rfl (lv_at hl 0 rfl) ?_
  refine lv_iload_n hx hb dL_law_599 rfl (lv_at hl 3 rfl) ?_
  refine lv_iconst (v := 4) hx hb dL_law_600 (by decide) ?_
  refine lv_iadd hx hb dL_law_601 ?_
  refine lv_topi (fun x_47 e_48 => ?_)
  have i_49 : x_47.toInt = (x3).toInt + 4 := ia_add e_48 rfl (by decide) (by omega) (by omega)
  refine va_sld hx hb hX hbl hbA h.2 (vp_of i_49 (by omega) (by omega)) dL_law_602 ?_
  refine lv_topi (fun x_50 e_51 => ?_)
  have s_52 : x_19 = x_50 := by rw [e_20, e_51, show x_16 = x_47 from (fa_eq _ _).mpr ((i_18).trans (i_49).symm)]
  subst s_52
  refine g_calli C (va_runV (As := [.int (x_4), .int (x_9), .int (x_14), .int (x_19)]) (rest := []) C.1 (c_X10_correct l G v_23 w sg x_4 (A1 := (x_4).toInt) rfl x_9 (A2 := (x_9).toInt) rfl x_14 (A3 := (x_14).toInt) rfl x_19 (A4 := (x_19).toInt) rfl u_28) (cwV 4 hts gL_law_X10_correct rfl rfl rfl (by decide +kernel) ⟨by rw [hR]; exact Nat.le_of_ble_eq_true rfl, by rw [hR]; exact Nat.le_of_ble_eq_true rfl⟩) ⟨gPre_blind, g_recv C h 106 (by decide) (ci := 10) rfl rfl, gS_pre C h _⟩ rfl rfl hl.1 rfl (lv_room (Nat.le_of_ble_eq_true rfl)) dL_law_603 hcs) h (fun r_53 v_55 w_56 g_57 H locs p_54 h => ?_)
  obtain ⟨p_54, rfl, rfl⟩ := p_54
  have u_58 := cI_fM u_26 p_54.2 (by decide)
  have u_59 := u_27
  have u_60 := p_54.1
  have hrl_61 := pr_correct  rl ci mi p_22 p_54
  refine lv_pop hx hb dL_law_606 rfl ?_
  refine lv_goto (tgt := 1423) hx hb dL_law_607 (by decide) ?_
  exact K v_55 w sg _ _ _ u_58 u_59 u_60 hrl_61 h (lv_sub hl [0, 1, 2, 3] rfl)

set_option maxHeartbeats 4000000 in
set_option maxRecDepth 100000 in
theorem lc_10 {p : Program} {l : Launch} {e : Env} {R : Room} {s : State} {m : MethodId} {args : Array Value} {below : List Frame} {meth : Method} {c : Code} {H : Heap} {locs : List Loc} {cells slots : Nat} {Q : State → Prop} {ls : Array Slot} {A : Nat → Prop} {G : gG} {v : Nat → Nat → Int32} {w : Nat → Nat → Int64} {sg : Nat → Nat} {b L : Nat} {xs : Nat → Int32} {x3 : Int32}
    (C : gC p s m c code 4 args wsL_law RL A G) (hR : R = room_1) (hcs : cells ≤ R.cells ∧ slots ≤ R.slots) (hX : va_X b L xs s s.heap) (hbl : b < s.heap.size) (hbA : ¬ A b) (hi3 : 0 ≤ x3.toInt ∧ x3.toInt + 7 ≤ (L : Int)) (hL : L ≤ 3584) (ci : cI v) (cg : cG sg) (mi : mI v) (rl : Rl v) (h : gS A G s v w sg H locs) (hl : lv_has ls 4 [(0, .ref b), (1, .ref (G.2.2 (0))), (2, .ref (G.2.2 (106))), (3, .int (x3))])
    (K : ∀ (v : Nat → Nat → Int32) (w : Nat → Nat → Int64) (sg : Nat → Nat) (H : Heap) (locs : List Loc) (ls : Array Slot), cI v → cG sg → mI v → Rl v → gS A G s v w sg H locs → lv_has ls 4 [(0, .ref b), (1, .ref (G.2.2 (0))), (2, .ref (G.2.2 (106))), (3, .int (x3))] → W p l e R s m args below meth c H locs cells slots Q (F0 m 1423 ls [])) : W p l e R s m args below meth c H locs cells slots Q (F0 m 610 ls []) := by
  have hx := C.1.1
  have hb := C.1.2.1
  have hown := C.1.2.2.2.1
  have hts := C.1.2.2.2.2
  have z_0 : (0 : Int32).toInt = 0 := by decide
  have z_1 : (1 : Int32).toInt = 1 := by decide
  have z_2 : (2 : Int32).toInt = 2 := by decide
  refine lv_aload_n hx hb dL_law_610 rfl (lv_at hl 1 rfl) ?_
  refine lv_aload_n hx hb dL_law_611 rfl (lv_at hl 0 rfl) ?_
  refine lv_iload_n hx hb dL_law_612 rfl (lv_at hl 3 rfl) ?_
  refine lv_iconst (v := 1) hx hb dL_law_613 (by decide) ?_
  refine lv_iadd hx hb dL_law_614 ?_
  refine lv_topi (fun x_1 e_2 => ?_)
  have i_3 : x_1.toInt = (x3).toInt + 1 := ia_add e_2 rfl (by decide) (by omega) (by omega)
  refine va_sld hx hb hX hbl hbA h.2 (vp_of i_3 (by omega) (by omega)) dL_law_615 ?_
  refine lv_topi (fun x_4 e_5 => ?_)
  refine lv_aload_n hx hb dL_law_616 rfl (lv_at hl 0 rfl) ?_
  refine lv_iload_n hx hb dL_law_617 rfl (lv_at hl 3 rfl) ?_
  refine lv_iconst (v := 2) hx hb dL_law_618 (by decide) ?_
  refine lv_iadd hx hb dL_law_619 ?_
  refine lv_topi (fun x_6 e_7 => ?_)
  have i_8 : x_6.toInt = (x3).toInt + 2 := ia_add e_7 rfl (by decide) (by omega) (by omega)
  refine va_sld hx hb hX hbl hbA h.2 (vp_of i_8 (by omega) (by omega)) dL_law_620 ?_
  refine lv_topi (fun x_9 e_10 => ?_)
  refine lv_if_eq (tgt := 628) hx hb dL_law_621 (by decide) (fun c_11 => ?_) (fun c_11 => ?_)
  · have j_12 : (x_9).toInt = 0 := (i_eq rfl (by decide)).mp c_11
    refine lv_iconst (v := 0) hx hb dL_law_628 (by decide) ?_
    refine g_calli C (va_runV (As := [.int (x_4), .int (0)]) (rest := []) C.1 (c_X9_turn l G v w sg x_4 (A1 := (x_4).toInt) rfl (0) (A2 := 0) (by decide) (by omega) ci cg) (cwV 2 hts gL_law_X9_turn rfl rfl rfl (by decide +kernel) ⟨by rw [hR]; exact Nat.le_of_ble_eq_true rfl, by rw [hR]; exact Nat.le_of_ble_eq_true rfl⟩) ⟨gPre_blind, g_recv C h 0 (by decide) (ci := 9) rfl rfl, gS_pre C h _⟩ rfl rfl hl.1 rfl (lv_room (Nat.le_of_ble_eq_true rfl)) dL_law_629 hcs) h (fun r_13 v_15 w_16 g_17 H locs p_14 h => ?_)
    obtain ⟨p_14, rfl, rfl⟩ := p_14
    have u_18 := p_14.1
    have u_19 := cg
    have u_20 := mI_fC mi p_14.2 (by decide)
    refine lv_pop hx hb dL_law_632 rfl ?_
    refine lv_aload_n hx hb dL_law_633 rfl (lv_at hl 2 rfl) ?_
    refine lv_aload_n hx hb dL_law_634 rfl (lv_at hl 0 rfl) ?_
    refine lv_iload_n hx hb dL_law_635 rfl (lv_at hl 3 rfl) ?_
    refine lv_iconst (v := 1) hx hb dL_law_636 (by decide) ?_
    refine lv_iadd hx hb dL_law_637 ?_
    refine lv_topi (fun x_21 e_22 => ?_)
    have i_23 : x_21.toInt = (x3).toInt + 1 := ia_add e_22 rfl (by decide) (by omega) (by omega)
    refine va_sld hx hb hX hbl hbA h.2 (vp_of i_23 (by omega) (by omega)) dL_law_638 ?_
    refine lv_topi (fun x_24 e_25 => ?_)
    have s_26 : x_4 = x_24 := by rw [e_5, e_25, show x_1 = x_21 from (fa_eq _ _).mpr ((i_3).trans (i_23).symm)]
    subst s_26
    refine lv_aload_n hx hb dL_law_639 rfl (lv_at hl 0 rfl) ?_
    refine lv_iload_n hx hb dL_law_640 rfl (lv_at hl 3 rfl) ?_
    refine lv_iconst (v := 2) hx hb dL_law_641 (by decide) ?_
    refine lv_iadd hx hb dL_law_642 ?_
    refine lv_topi (fun x_27 e_28 => ?_)
    have i_29 : x_27.toInt = (x3).toInt + 2 := ia_add e_28 rfl (by decide) (by omega) (by omega)
    refine va_sld hx hb hX hbl hbA h.2 (vp_of i_29 (by omega) (by omega)) dL_law_643 ?_
    refine lv_topi (fun x_30 e_31 => ?_)
    have s_32 : x_9 = x_30 := by rw [e_10, e_31, show x_6 = x_27 from (fa_eq _ _).mpr ((i_8).trans (i_29).symm)]
    subst s_32
    refine lv_if_eq (tgt := 651) hx hb dL_law_644 (by decide) (fun c_33 => ?_) (fun c_33 => ?_)
    · have j_34 : (x_9).toInt = 0 := (i_eq rfl (by decide)).mp c_33
      refine lv_iconst (v := 0) hx hb dL_law_651 (by decide) ?_
      refine g_calli C (va_runV (As := [.int (x_4), .int (0)]) (rest := []) C.1 (c_X10_turn l G v_15 w sg x_4 (A1 := (x_4).toInt) rfl (0) (A2 := 0) (by decide) u_20) (cwV 2 hts gL_law_X10_turn rfl rfl rfl (by decide +kernel) ⟨by rw [hR]; exact Nat.le_of_ble_eq_true rfl, by rw [hR]; exact Nat.le_of_ble_eq_true rfl⟩) ⟨gPre_blind, g_recv C h 106 (by decide) (ci := 10) rfl rfl, gS_pre C h _⟩ rfl rfl hl.1 rfl (lv_room (Nat.le_of_ble_eq_true rfl)) dL_law_652 hcs) h (fun r_35 v_37 w_38 g_39 H locs p_36 h => ?_)
      obtain ⟨p_36, rfl, rfl⟩ := p_36
      have u_40 := cI_fM u_18 p_36.2 (by decide)
      have u_41 := u_19
      have u_42 := p_36.1
      have hrl_43 := pr_turn  rl ci mi p_14 p_36
      refine lv_pop hx hb dL_law_655 rfl ?_
      refine lv_goto (tgt := 1423) hx hb dL_law_656 (by decide) ?_
      exact K v_37 w sg _ _ _ u_40 u_41 u_42 hrl_43 h (lv_sub hl [0, 1, 2, 3] rfl)
    · have j_34 : ¬ ((x_9).toInt = 0) := fun q => c_33 ((i_eq rfl (by decide)).mpr q)
      refine lv_iconst (v := 1) hx hb dL_law_647 (by decide) ?_
      refine lv_goto (tgt := 652) hx hb dL_law_648 (by decide) ?_
      exfalso; omega
  · have j_12 : ¬ ((x_9).toInt = 0) := fun q => c_11 ((i_eq rfl (by decide)).mpr q)
    refine lv_iconst (v := 1) hx hb dL_law_624 (by decide) ?_
    refine lv_goto (tgt := 629) hx hb dL_law_625 (by decide) ?_
    refine g_calli C (va_runV (As := [.int (x_4), .int (1)]) (rest := []) C.1 (c_X9_turn l G v w sg x_4 (A1 := (x_4).toInt) rfl (1) (A2 := 1) (by decide) (by omega) ci cg) (cwV 2 hts gL_law_X9_turn rfl rfl rfl (by decide +kernel) ⟨by rw [hR]; exact Nat.le_of_ble_eq_true rfl, by rw [hR]; exact Nat.le_of_ble_eq_true rfl⟩) ⟨gPre_blind, g_recv C h 0 (by decide) (ci := 9) rfl rfl, gS_pre C h _⟩ rfl rfl hl.1 rfl (lv_room (Nat.le_of_ble_eq_true rfl)) dL_law_629 hcs) h (fun r_44 v_46 w_47 g_48 H locs p_45 h => ?_)
    obtain ⟨p_45, rfl, rfl⟩ := p_45
    have u_49 := p_45.1
    have u_50 := cg
    have u_51 := mI_fC mi p_45.2 (by decide)
    refine lv_pop hx hb dL_law_632 rfl ?_
    refine lv_aload_n hx hb dL_law_633 rfl (lv_at hl 2 rfl) ?_
    refine lv_aload_n hx hb dL_law_634 rfl (lv_at hl 0 rfl) ?_
    refine lv_iload_n hx hb dL_law_635 rfl (lv_at hl 3 rfl) ?_
    refine lv_iconst (v := 1) hx hb dL_law_636 (by decide) ?_
    refine lv_iadd hx hb dL_law_637 ?_
    refine lv_topi (fun x_52 e_53 => ?_)
    have i_54 : x_52.toInt = (x3).toInt + 1 := ia_add e_53 rfl (by decide) (by omega) (by omega)
    refine va_sld hx hb hX hbl hbA h.2 (vp_of i_54 (by omega) (by omega)) dL_law_638 ?_
    refine lv_topi (fun x_55 e_56 => ?_)
    have s_57 : x_4 = x_55 := by rw [e_5, e_56, show x_1 = x_52 from (fa_eq _ _).mpr ((i_3).trans (i_54).symm)]
    subst s_57
    refine lv_aload_n hx hb dL_law_639 rfl (lv_at hl 0 rfl) ?_
    refine lv_iload_n hx hb dL_law_640 rfl (lv_at hl 3 rfl) ?_
    refine lv_iconst (v := 2) hx hb dL_law_641 (by decide) ?_
    refine lv_iadd hx hb dL_law_642 ?_
    refine lv_topi (fun x_58 e_59 => ?_)
    have i_60 : x_58.toInt = (x3).toInt + 2 := ia_add e_59 rfl (by decide) (by omega) (by omega)
    refine va_sld hx hb hX hbl hbA h.2 (vp_of i_60 (by omega) (by omega)) dL_law_643 ?_
    refine lv_topi (fun x_61 e_62 => ?_)
    have s_63 : x_9 = x_61 := by rw [e_10, e_62, show x_6 = x_58 from (fa_eq _ _).mpr ((i_8).trans (i_60).symm)]
    subst s_63
    refine lv_if_eq (tgt := 651) hx hb dL_law_644 (by decide) (fun c_64 => ?_) (fun c_64 => ?_)
    · have j_65 : (x_9).toInt = 0 := (i_eq rfl (by decide)).mp c_64
      refine lv_iconst (v := 0) hx hb dL_law_651 (by decide) ?_
      exfalso; omega
    · have j_65 : ¬ ((x_9).toInt = 0) := fun q => c_64 ((i_eq rfl (by decide)).mpr q)
      refine lv_iconst (v := 1) hx hb dL_law_647 (by decide) ?_
      refine lv_goto (tgt := 652) hx hb dL_law_648 (by decide) ?_
      refine g_calli C (va_runV (As := [.int (x_4), .int (1)]) (rest := []) C.1 (c_X10_turn l G v_46 w sg x_4 (A1 := (x_4).toInt) rfl (1) (A2 := 1) (by decide) u_51) (cwV 2 hts gL_law_X10_turn rfl rfl rfl (by decide +kernel) ⟨by rw [hR]; exact Nat.le_of_ble_eq_true rfl, by rw [hR]; exact Nat.le_of_ble_eq_true rfl⟩) ⟨gPre_blind, g_recv C h 106 (by decide) (ci := 10) rfl rfl, gS_pre C h _⟩ rfl rfl hl.1 rfl (lv_room (Nat.le_of_ble_eq_true rfl)) dL_law_652 hcs) h (fun r_66 v_68 w_69 g_70 H locs p_67 h => ?_)
      obtain ⟨p_67, rfl, rfl⟩ := p_67
      have u_71 := cI_fM u_49 p_67.2 (by decide)
      have u_72 := u_50
      have u_73 := p_67.1
      have hrl_74 := pr_turn  rl ci mi p_45 p_67
      refine lv_pop hx hb dL_law_655 rfl ?_
      refine lv_goto (tgt := 1423) hx hb dL_law_656 (by decide) ?_
      exact K v_68 w sg _ _ _ u_71 u_72 u_73 hrl_74 h (lv_sub hl [0, 1, 2, 3] rfl)

set_option maxHeartbeats 4000000 in
set_option maxRecDepth 100000 in
theorem lc_11 {p : Program} {l : Launch} {e : Env} {R : Room} {s : State} {m : MethodId} {args : Array Value} {below : List Frame} {meth : Method} {c : Code} {H : Heap} {locs : List Loc} {cells slots : Nat} {Q : State → Prop} {ls : Array Slot} {A : Nat → Prop} {G : gG} {v : Nat → Nat → Int32} {w : Nat → Nat → Int64} {sg : Nat → Nat} {b L : Nat} {xs : Nat → Int32} {x3 : Int32}
    (C : gC p s m c code 4 args wsL_law RL A G) (hR : R = room_1) (hcs : cells ≤ R.cells ∧ slots ≤ R.slots) (hX : va_X b L xs s s.heap) (hbl : b < s.heap.size) (hbA : ¬ A b) (hi3 : 0 ≤ x3.toInt ∧ x3.toInt + 7 ≤ (L : Int)) (hL : L ≤ 3584) (ci : cI v) (cg : cG sg) (mi : mI v) (rl : Rl v) (h : gS A G s v w sg H locs) (hl : lv_has ls 4 [(0, .ref b), (1, .ref (G.2.2 (0))), (2, .ref (G.2.2 (106))), (3, .int (x3))])
    (K : ∀ (v : Nat → Nat → Int32) (w : Nat → Nat → Int64) (sg : Nat → Nat) (H : Heap) (locs : List Loc) (ls : Array Slot), cI v → cG sg → mI v → Rl v → gS A G s v w sg H locs → lv_has ls 4 [(0, .ref b), (1, .ref (G.2.2 (0))), (2, .ref (G.2.2 (106))), (3, .int (x3))] → W p l e R s m args below meth c H locs cells slots Q (F0 m 1423 ls [])) : W p l e R s m args below meth c H locs cells slots Q (F0 m 659 ls []) := by
  have hx := C.1.1
  have hb := C.1.2.1
  have hown := C.1.2.2.2.1
  have hts := C.1.2.2.2.2
  have z_0 : (0 : Int32).toInt = 0 := by decide
  have z_1 : (1 : Int32).toInt = 1 := by decide
  refine lv_aload_n hx hb dL_law_659 rfl (lv_at hl 1 rfl) ?_
  refine lv_aload_n hx hb dL_law_660 rfl (lv_at hl 0 rfl) ?_
  refine lv_iload_n hx hb dL_law_661 rfl (lv_at hl 3 rfl) ?_
  refine lv_iconst (v := 1) hx hb dL_law_662 (by decide) ?_
  refine lv_iadd hx hb dL_law_663 ?_
  refine lv_topi (fun x_1 e_2 => ?_)
  have i_3 : x_1.toInt = (x3).toInt + 1 := ia_add e_2 rfl (by decide) (by omega) (by omega)
  refine va_sld hx hb hX hbl hbA h.2 (vp_of i_3 (by omega) (by omega)) dL_law_664 ?_
  refine lv_topi (fun x_4 e_5 => ?_)
  refine g_calli C (va_runV (As := [.int (x_4)]) (rest := []) C.1 (c_X9_swap l G v w sg x_4 (A1 := (x_4).toInt) rfl ci cg) (cwV 1 hts gL_law_X9_swap rfl rfl rfl (by decide +kernel) ⟨by rw [hR]; exact Nat.le_of_ble_eq_true rfl, by rw [hR]; exact Nat.le_of_ble_eq_true rfl⟩) ⟨gPre_blind, g_recv C h 0 (by decide) (ci := 9) rfl rfl, gS_pre C h _⟩ rfl rfl hl.1 rfl (lv_room (Nat.le_of_ble_eq_true rfl)) dL_law_665 hcs) h (fun r_6 v_8 w_9 g_10 H locs p_7 h => ?_)
  obtain ⟨p_7, rfl, rfl⟩ := p_7
  have u_11 := p_7.1
  have u_12 := p_7.2.2
  have u_13 := mI_fC mi p_7.2.1 (by decide)
  refine lv_pop hx hb dL_law_668 rfl ?_
  refine lv_aload_n hx hb dL_law_669 rfl (lv_at hl 2 rfl) ?_
  refine lv_aload_n hx hb dL_law_670 rfl (lv_at hl 0 rfl) ?_
  refine lv_iload_n hx hb dL_law_671 rfl (lv_at hl 3 rfl) ?_
  refine lv_iconst (v := 1) hx hb dL_law_672 (by decide) ?_
  refine lv_iadd hx hb dL_law_673 ?_
  refine lv_topi (fun x_14 e_15 => ?_)
  have i_16 : x_14.toInt = (x3).toInt + 1 := ia_add e_15 rfl (by decide) (by omega) (by omega)
  refine va_sld hx hb hX hbl hbA h.2 (vp_of i_16 (by omega) (by omega)) dL_law_674 ?_
  refine lv_topi (fun x_17 e_18 => ?_)
  have s_19 : x_4 = x_17 := by rw [e_5, e_18, show x_1 = x_14 from (fa_eq _ _).mpr ((i_3).trans (i_16).symm)]
  subst s_19
  refine g_calli C (va_runV (As := [.int (x_4)]) (rest := []) C.1 (c_X10_swap l G v w g_10 x_4 (A1 := (x_4).toInt) rfl u_13) (cwV 1 hts gL_law_X10_swap rfl rfl rfl (by decide +kernel) ⟨by rw [hR]; exact Nat.le_of_ble_eq_true rfl, by rw [hR]; exact Nat.le_of_ble_eq_true rfl⟩) ⟨gPre_blind, g_recv C h 106 (by decide) (ci := 10) rfl rfl, gS_pre C h _⟩ rfl rfl hl.1 rfl (lv_room (Nat.le_of_ble_eq_true rfl)) dL_law_675 hcs) h (fun r_20 v_22 w_23 g_24 H locs p_21 h => ?_)
  obtain ⟨p_21, rfl, rfl⟩ := p_21
  have u_25 := cI_fM u_11 p_21.2 (by decide)
  have u_26 := u_12
  have u_27 := p_21.1
  have hrl_28 := pr_swap  rl ci mi p_7 p_21
  refine lv_pop hx hb dL_law_678 rfl ?_
  refine lv_goto (tgt := 1423) hx hb dL_law_679 (by decide) ?_
  exact K v_22 w g_10 _ _ _ u_25 u_26 u_27 hrl_28 h (lv_sub hl [0, 1, 2, 3] rfl)

set_option maxHeartbeats 4000000 in
set_option maxRecDepth 100000 in
theorem lc_12 {p : Program} {l : Launch} {e : Env} {R : Room} {s : State} {m : MethodId} {args : Array Value} {below : List Frame} {meth : Method} {c : Code} {H : Heap} {locs : List Loc} {cells slots : Nat} {Q : State → Prop} {ls : Array Slot} {A : Nat → Prop} {G : gG} {v : Nat → Nat → Int32} {w : Nat → Nat → Int64} {sg : Nat → Nat} {b L : Nat} {xs : Nat → Int32} {x3 : Int32}
    (C : gC p s m c code 4 args wsL_law RL A G) (hR : R = room_1) (hcs : cells ≤ R.cells ∧ slots ≤ R.slots) (hX : va_X b L xs s s.heap) (hbl : b < s.heap.size) (hbA : ¬ A b) (hi3 : 0 ≤ x3.toInt ∧ x3.toInt + 7 ≤ (L : Int)) (hL : L ≤ 3584) (ci : cI v) (cg : cG sg) (mi : mI v) (rl : Rl v) (h : gS A G s v w sg H locs) (hl : lv_has ls 4 [(0, .ref b), (1, .ref (G.2.2 (0))), (2, .ref (G.2.2 (106))), (3, .int (x3))])
    (K : ∀ (v : Nat → Nat → Int32) (w : Nat → Nat → Int64) (sg : Nat → Nat) (H : Heap) (locs : List Loc) (ls : Array Slot), cI v → cG sg → mI v → Rl v → gS A G s v w sg H locs → lv_has ls 4 [(0, .ref b), (1, .ref (G.2.2 (0))), (2, .ref (G.2.2 (106))), (3, .int (x3))] → W p l e R s m args below meth c H locs cells slots Q (F0 m 1423 ls [])) : W p l e R s m args below meth c H locs cells slots Q (F0 m 682 ls []) := by
  have hx := C.1.1
  have hb := C.1.2.1
  have hown := C.1.2.2.2.1
  have hts := C.1.2.2.2.2
  have z_0 : (0 : Int32).toInt = 0 := by decide
  have z_1 : (1 : Int32).toInt = 1 := by decide
  refine lv_aload_n hx hb dL_law_682 rfl (lv_at hl 1 rfl) ?_
  refine g_calli C (va_runV (As := []) (rest := []) C.1 (c_X9_drop l G v w sg  ci) (cwV 0 hts gL_law_X9_drop rfl rfl rfl (by decide +kernel) ⟨by rw [hR]; exact Nat.le_of_ble_eq_true rfl, by rw [hR]; exact Nat.le_of_ble_eq_true rfl⟩) ⟨gPre_blind, g_recv C h 0 (by decide) (ci := 9) rfl rfl, gS_pre C h _⟩ rfl rfl hl.1 rfl (lv_room (Nat.le_of_ble_eq_true rfl)) dL_law_683 hcs) h (fun r_1 v_3 w_4 g_5 H locs p_2 h => ?_)
  obtain ⟨p_2, rfl, rfl⟩ := p_2
  have u_6 := p_2.1
  have u_7 := cg
  have u_8 := mI_fC mi p_2.2 (by decide)
  refine lv_pop hx hb dL_law_686 rfl ?_
  refine lv_aload_n hx hb dL_law_687 rfl (lv_at hl 2 rfl) ?_
  refine g_calli C (va_runV (As := []) (rest := []) C.1 (c_X10_drop l G v_3 w sg  u_8) (cwV 0 hts gL_law_X10_drop rfl rfl rfl (by decide +kernel) ⟨by rw [hR]; exact Nat.le_of_ble_eq_true rfl, by rw [hR]; exact Nat.le_of_ble_eq_true rfl⟩) ⟨gPre_blind, g_recv C h 106 (by decide) (ci := 10) rfl rfl, gS_pre C h _⟩ rfl rfl hl.1 rfl (lv_room (Nat.le_of_ble_eq_true rfl)) dL_law_688 hcs) h (fun r_9 v_11 w_12 g_13 H locs p_10 h => ?_)
  obtain ⟨p_10, rfl, rfl⟩ := p_10
  have u_14 := cI_fM u_6 p_10.2 (by decide)
  have u_15 := u_7
  have u_16 := p_10.1
  have hrl_17 := pr_drop  rl ci mi p_2 p_10
  refine lv_pop hx hb dL_law_691 rfl ?_
  refine lv_goto (tgt := 1423) hx hb dL_law_692 (by decide) ?_
  exact K v_11 w sg _ _ _ u_14 u_15 u_16 hrl_17 h (lv_sub hl [0, 1, 2, 3] rfl)

set_option maxHeartbeats 4000000 in
set_option maxRecDepth 100000 in
theorem lc_13 {p : Program} {l : Launch} {e : Env} {R : Room} {s : State} {m : MethodId} {args : Array Value} {below : List Frame} {meth : Method} {c : Code} {H : Heap} {locs : List Loc} {cells slots : Nat} {Q : State → Prop} {ls : Array Slot} {A : Nat → Prop} {G : gG} {v : Nat → Nat → Int32} {w : Nat → Nat → Int64} {sg : Nat → Nat} {b L : Nat} {xs : Nat → Int32} {x3 : Int32}
    (C : gC p s m c code 4 args wsL_law RL A G) (hR : R = room_1) (hcs : cells ≤ R.cells ∧ slots ≤ R.slots) (hX : va_X b L xs s s.heap) (hbl : b < s.heap.size) (hbA : ¬ A b) (hi3 : 0 ≤ x3.toInt ∧ x3.toInt + 7 ≤ (L : Int)) (hL : L ≤ 3584) (ci : cI v) (cg : cG sg) (mi : mI v) (rl : Rl v) (h : gS A G s v w sg H locs) (hl : lv_has ls 4 [(0, .ref b), (1, .ref (G.2.2 (0))), (2, .ref (G.2.2 (106))), (3, .int (x3))])
    (K : ∀ (v : Nat → Nat → Int32) (w : Nat → Nat → Int64) (sg : Nat → Nat) (H : Heap) (locs : List Loc) (ls : Array Slot), cI v → cG sg → mI v → Rl v → gS A G s v w sg H locs → lv_has ls 4 [(0, .ref b), (1, .ref (G.2.2 (0))), (2, .ref (G.2.2 (106))), (3, .int (x3))] → W p l e R s m args below meth c H locs cells slots Q (F0 m 1423 ls [])) : W p l e R s m args below meth c H locs cells slots Q (F0 m 695 ls []) := by
  have hx := C.1.1
  have hb := C.1.2.1
  have hown := C.1.2.2.2.1
  have hts := C.1.2.2.2.2
  have z_0 : (0 : Int32).toInt = 0 := by decide
  have z_1 : (1 : Int32).toInt = 1 := by decide
  have z_2 : (2 : Int32).toInt = 2 := by decide
  have z_3 : (3 : Int32).toInt = 3 := by decide
  have z_4 : (4 : Int32).toInt = 4 := by decide
  have z_5 : (5 : Int32).toInt = 5 := by decide
  refine lv_aload_n hx hb dL_law_695 rfl (lv_at hl 1 rfl) ?_
  refine lv_aload_n hx hb dL_law_696 rfl (lv_at hl 0 rfl) ?_
  refine lv_iload_n hx hb dL_law_697 rfl (lv_at hl 3 rfl) ?_
  refine lv_iconst (v := 1) hx hb dL_law_698 (by decide) ?_
  refine lv_iadd hx hb dL_law_699 ?_
  refine lv_topi (fun x_1 e_2 => ?_)
  have i_3 : x_1.toInt = (x3).toInt + 1 := ia_add e_2 rfl (by decide) (by omega) (by omega)
  refine va_sld hx hb hX hbl hbA h.2 (vp_of i_3 (by omega) (by omega)) dL_law_700 ?_
  refine lv_topi (fun x_4 e_5 => ?_)
  refine lv_aload_n hx hb dL_law_701 rfl (lv_at hl 0 rfl) ?_
  refine lv_iload_n hx hb dL_law_702 rfl (lv_at hl 3 rfl) ?_
  refine lv_iconst (v := 2) hx hb dL_law_703 (by decide) ?_
  refine lv_iadd hx hb dL_law_704 ?_
  refine lv_topi (fun x_6 e_7 => ?_)
  have i_8 : x_6.toInt = (x3).toInt + 2 := ia_add e_7 rfl (by decide) (by omega) (by omega)
  refine va_sld hx hb hX hbl hbA h.2 (vp_of i_8 (by omega) (by omega)) dL_law_705 ?_
  refine lv_topi (fun x_9 e_10 => ?_)
  refine lv_aload_n hx hb dL_law_706 rfl (lv_at hl 0 rfl) ?_
  refine lv_iload_n hx hb dL_law_707 rfl (lv_at hl 3 rfl) ?_
  refine lv_iconst (v := 3) hx hb dL_law_708 (by decide) ?_
  refine lv_iadd hx hb dL_law_709 ?_
  refine lv_topi (fun x_11 e_12 => ?_)
  have i_13 : x_11.toInt = (x3).toInt + 3 := ia_add e_12 rfl (by decide) (by omega) (by omega)
  refine va_sld hx hb hX hbl hbA h.2 (vp_of i_13 (by omega) (by omega)) dL_law_710 ?_
  refine lv_topi (fun x_14 e_15 => ?_)
  refine lv_aload_n hx hb dL_law_711 rfl (lv_at hl 0 rfl) ?_
  refine lv_iload_n hx hb dL_law_712 rfl (lv_at hl 3 rfl) ?_
  refine lv_iconst (v := 4) hx hb dL_law_713 (by decide) ?_
  refine lv_iadd hx hb dL_law_714 ?_
  refine lv_topi (fun x_16 e_17 => ?_)
  have i_18 : x_16.toInt = (x3).toInt + 4 := ia_add e_17 rfl (by decide) (by omega) (by omega)
  refine va_sld hx hb hX hbl hbA h.2 (vp_of i_18 (by omega) (by omega)) dL_law_715 ?_
  refine lv_topi (fun x_19 e_20 => ?_)
  refine lv_aload_n hx hb dL_law_716 rfl (lv_at hl 0 rfl) ?_
  refine lv_iload_n hx hb dL_law_717 rfl (lv_at hl 3 rfl) ?_
  refine lv_iconst (v := 5) hx hb dL_law_718 (by decide) ?_
  refine lv_iadd hx hb dL_law_719 ?_
  refine lv_topi (fun x_21 e_22 => ?_)
  have i_23 : x_21.toInt = (x3).toInt + 5 := ia_add e_22 rfl (by decide) (by omega) (by omega)
  refine va_sld hx hb hX hbl hbA h.2 (vp_of i_23 (by omega) (by omega)) dL_law_720 ?_
  refine lv_topi (fun x_24 e_25 => ?_)
  refine g_calli C (va_runV (As := [.int (x_4), .int (x_9), .int (x_14), .int (x_19), .int (x_24)]) (rest := []) C.1 (c_X9_raw l G v w sg x_4 (A1 := (x_4).toInt) rfl x_9 (A2 := (x_9).toInt) rfl x_14 (A3 := (x_14).toInt) rfl x_19 (A4 := (x_19).toInt) rfl x_24 (A5 := (x_24).toInt) rfl ci) (cwV 5 hts gL_law_X9_raw rfl rfl rfl (by decide +kernel) ⟨by rw [hR]; exact Nat.le_of_ble_eq_true rfl, by rw [hR]; exact Nat.le_of_ble_eq_true rfl⟩) ⟨gPre_blind, g_recv C h 0 (by decide) (ci := 9) rfl rfl, gS_pre C h _⟩ rfl rfl hl.1 rfl (lv_room (Nat.le_of_ble_eq_true rfl)) dL_law_721 hcs) h (fun r_26 v_28 w_29 g_30 H locs p_27 h => ?_)
  obtain ⟨p_27, rfl, rfl⟩ := p_27
  have u_31 := p_27.1
  have u_32 := cg
  have u_33 := mI_fC mi p_27.2.1 (by decide)
  refine lv_pop hx hb dL_law_724 rfl ?_
  refine lv_aload_n hx hb dL_law_725 rfl (lv_at hl 2 rfl) ?_
  refine lv_aload_n hx hb dL_law_726 rfl (lv_at hl 0 rfl) ?_
  refine lv_iload_n hx hb dL_law_727 rfl (lv_at hl 3 rfl) ?_
  refine lv_iconst (v := 1) hx hb dL_law_728 (by decide) ?_
  refine lv_iadd hx hb dL_law_729 ?_
  refine lv_topi (fun x_34 e_35 => ?_)
  have i_36 : x_34.toInt = (x3).toInt + 1 := ia_add e_35 rfl (by decide) (by omega) (by omega)
  refine va_sld hx hb hX hbl hbA h.2 (vp_of i_36 (by omega) (by omega)) dL_law_730 ?_
  refine lv_topi (fun x_37 e_38 => ?_)
  have s_39 : x_4 = x_37 := by rw [e_5, e_38, show x_1 = x_34 from (fa_eq _ _).mpr ((i_3).trans (i_36).symm)]
  subst s_39
  refine lv_aload_n hx hb dL_law_731 rfl (lv_at hl 0 rfl) ?_
  refine lv_iload_n hx hb dL_law_732 rfl (lv_at hl 3 rfl) ?_
  refine lv_iconst (v := 2) hx hb dL_law_733 (by decide) ?_
  refine lv_iadd hx hb dL_law_734 ?_
  refine lv_topi (fun x_40 e_41 => ?_)
  have i_42 : x_40.toInt = (x3).toInt + 2 := ia_add e_41 rfl (by decide) (by omega) (by omega)
  refine va_sld hx hb hX hbl hbA h.2 (vp_of i_42 (by omega) (by omega)) dL_law_735 ?_
  refine lv_topi (fun x_43 e_44 => ?_)
  have s_45 : x_9 = x_43 := by rw [e_10, e_44, show x_6 = x_40 from (fa_eq _ _).mpr ((i_8).trans (i_42).symm)]
  subst s_45
  refine lv_aload_n hx hb dL_law_736 rfl (lv_at hl 0 rfl) ?_
  refine lv_iload_n hx hb dL_law_737 rfl (lv_at hl 3 rfl) ?_
  refine lv_iconst (v := 3) hx hb dL_law_738 (by decide) ?_
  refine lv_iadd hx hb dL_law_739 ?_
  refine lv_topi (fun x_46 e_47 => ?_)
  have i_48 : x_46.toInt = (x3).toInt + 3 := ia_add e_47 rfl (by decide) (by omega) (by omega)
  refine va_sld hx hb hX hbl hbA h.2 (vp_of i_48 (by omega) (by omega)) dL_law_740 ?_
  refine lv_topi (fun x_49 e_50 => ?_)
  have s_51 : x_14 = x_49 := by rw [e_15, e_50, show x_11 = x_46 from (fa_eq _ _).mpr ((i_13).trans (i_48).symm)]
  subst s_51
  refine lv_aload_n hx hb dL_law_741 rfl (lv_at hl 0 rfl) ?_
  refine lv_iload_n hx hb dL_law_742 rfl (lv_at hl 3 rfl) ?_
  refine lv_iconst (v := 4) hx hb dL_law_743 (by decide) ?_
  refine lv_iadd hx hb dL_law_744 ?_
  refine lv_topi (fun x_52 e_53 => ?_)
  have i_54 : x_52.toInt = (x3).toInt + 4 := ia_add e_53 rfl (by decide) (by omega) (by omega)
  refine va_sld hx hb hX hbl hbA h.2 (vp_of i_54 (by omega) (by omega)) dL_law_745 ?_
  refine lv_topi (fun x_55 e_56 => ?_)
  have s_57 : x_19 = x_55 := by rw [e_20, e_56, show x_16 = x_52 from (fa_eq _ _).mpr ((i_18).trans (i_54).symm)]
  subst s_57
  refine lv_aload_n hx hb dL_law_746 rfl (lv_at hl 0 rfl) ?_
  refine lv_iload_n hx hb dL_law_747 rfl (lv_at hl 3 rfl) ?_
  refine lv_iconst (v := 5) hx hb dL_law_748 (by decide) ?_
  refine lv_iadd hx hb dL_law_749 ?_
  refine lv_topi (fun x_58 e_59 => ?_)
  have i_60 : x_58.toInt = (x3).toInt + 5 := ia_add e_59 rfl (by decide) (by omega) (by omega)
  refine va_sld hx hb hX hbl hbA h.2 (vp_of i_60 (by omega) (by omega)) dL_law_750 ?_
  refine lv_topi (fun x_61 e_62 => ?_)
  have s_63 : x_24 = x_61 := by rw [e_25, e_62, show x_21 = x_58 from (fa_eq _ _).mpr ((i_23).trans (i_60).symm)]
  subst s_63
  refine g_calli C (va_runV (As := [.int (x_4), .int (x_9), .int (x_14), .int (x_19), .int (x_24)]) (rest := []) C.1 (c_X10_raw l G v_28 w sg x_4 (A1 := (x_4).toInt) rfl x_9 (A2 := (x_9).toInt) rfl x_14 (A3 := (x_14).toInt) rfl x_19 (A4 := (x_19).toInt) rfl x_24 (A5 := (x_24).toInt) rfl u_33) (cwV 5 hts gL_law_X10_raw rfl rfl rfl (by decide +kernel) ⟨by rw [hR]; exact Nat.le_of_ble_eq_true rfl, by rw [hR]; exact Nat.le_of_ble_eq_true rfl⟩) ⟨gPre_blind, g_recv C h 106 (by decide) (ci := 10) rfl rfl, gS_pre C h _⟩ rfl rfl hl.1 rfl (lv_room (Nat.le_of_ble_eq_true rfl)) dL_law_751 hcs) h (fun r_64 v_66 w_67 g_68 H locs p_65 h => ?_)
  obtain ⟨p_65, rfl, rfl⟩ := p_65
  have u_69 := cI_fM u_31 p_65.2.1 (by decide)
  have u_70 := u_32
  have u_71 := p_65.1
  have hrl_72 := pr_raw rfl rfl rfl rfl rfl rl ci mi p_27 p_65
  refine lv_pop hx hb dL_law_754 rfl ?_
  refine lv_goto (tgt := 1423) hx hb dL_law_755 (by decide) ?_
  exact K v_66 w sg _ _ _ u_69 u_70 u_71 hrl_72.2 h (lv_sub hl [0, 1, 2, 3] rfl)

set_option maxHeartbeats 4000000 in
set_option maxRecDepth 100000 in
theorem lc_14 {p : Program} {l : Launch} {e : Env} {R : Room} {s : State} {m : MethodId} {args : Array Value} {below : List Frame} {meth : Method} {c : Code} {H : Heap} {locs : List Loc} {cells slots : Nat} {Q : State → Prop} {ls : Array Slot} {A : Nat → Prop} {G : gG} {v : Nat → Nat → Int32} {w : Nat → Nat → Int64} {sg : Nat → Nat} {b L : Nat} {xs : Nat → Int32} {x3 : Int32}
    (C : gC p s m c code 4 args wsL_law RL A G) (hR : R = room_1) (hcs : cells ≤ R.cells ∧ slots ≤ R.slots) (hX : va_X b L xs s s.heap) (hbl : b < s.heap.size) (hbA : ¬ A b) (hi3 : 0 ≤ x3.toInt ∧ x3.toInt + 7 ≤ (L : Int)) (hL : L ≤ 3584) (ci : cI v) (cg : cG sg) (mi : mI v) (rl : Rl v) (h : gS A G s v w sg H locs) (hl : lv_has ls 4 [(0, .ref b), (1, .ref (G.2.2 (0))), (2, .ref (G.2.2 (106))), (3, .int (x3))])
    (K : ∀ (v : Nat → Nat → Int32) (w : Nat → Nat → Int64) (sg : Nat → Nat) (H : Heap) (locs : List Loc) (ls : Array Slot), cI v → cG sg → mI v → Rl v → gS A G s v w sg H locs → lv_has ls 4 [(0, .ref b), (1, .ref (G.2.2 (0))), (2, .ref (G.2.2 (106))), (3, .int (x3))] → W p l e R s m args below meth c H locs cells slots Q (F0 m 1423 ls [])) : W p l e R s m args below meth c H locs cells slots Q (F0 m 758 ls []) := by
  have hx := C.1.1
  have hb := C.1.2.1
  have hown := C.1.2.2.2.1
  have hts := C.1.2.2.2.2
  have z_0 : (0 : Int32).toInt = 0 := by decide
  have z_1 : (1 : Int32).toInt = 1 := by decide
  have z_2 : (2 : Int32).toInt = 2 := by decide
  refine lv_aload_n hx hb dL_law_758 rfl (lv_at hl 1 rfl) ?_
  refine lv_aload_n hx hb dL_law_759 rfl (lv_at hl 0 rfl) ?_
  refine lv_iload_n hx hb dL_law_760 rfl (lv_at hl 3 rfl) ?_
  refine lv_iconst (v := 1) hx hb dL_law_761 (by decide) ?_
  refine lv_iadd hx hb dL_law_762 ?_
  refine lv_topi (fun x_1 e_2 => ?_)
  have i_3 : x_1.toInt = (x3).toInt + 1 := ia_add e_2 rfl (by decide) (by omega) (by omega)
  refine va_sld hx hb hX hbl hbA h.2 (vp_of i_3 (by omega) (by omega)) dL_law_763 ?_
  refine lv_topi (fun x_4 e_5 => ?_)
  refine lv_aload_n hx hb dL_law_764 rfl (lv_at hl 0 rfl) ?_
  refine lv_iload_n hx hb dL_law_765 rfl (lv_at hl 3 rfl) ?_
  refine lv_iconst (v := 2) hx hb dL_law_766 (by decide) ?_
  refine lv_iadd hx hb dL_law_767 ?_
  refine lv_topi (fun x_6 e_7 => ?_)
  have i_8 : x_6.toInt = (x3).toInt + 2 := ia_add e_7 rfl (by decide) (by omega) (by omega)
  refine va_sld hx hb hX hbl hbA h.2 (vp_of i_8 (by omega) (by omega)) dL_law_768 ?_
  refine lv_topi (fun x_9 e_10 => ?_)
  refine g_calll C (va_runV (As := [.int (x_4), .int (x_9)]) (rest := []) C.1 (c_X9_corrected l G v w sg x_4 (A1 := (x_4).toInt) rfl x_9 (A2 := (x_9).toInt) rfl ci cg) (cwV 2 hts gL_law_X9_corrected rfl rfl rfl (by decide +kernel) ⟨by rw [hR]; exact Nat.le_of_ble_eq_true rfl, by rw [hR]; exact Nat.le_of_ble_eq_true rfl⟩) ⟨gPre_blind, g_recv C h 0 (by decide) (ci := 9) rfl rfl, gS_pre C h _⟩ rfl rfl hl.1 rfl (lv_room (Nat.le_of_ble_eq_true rfl)) dL_law_769 hcs) h (fun r_11 v_13 w_14 g_15 H locs p_12 h => ?_)
  obtain ⟨p_12, rfl, rfl⟩ := p_12
  have u_16 := p_12.1
  have u_17 := cg
  have u_18 := mI_fC mi p_12.2 (by decide)
  refine lv_pop2_2 hx hb dL_law_772 rfl ?_
  refine lv_aload_n hx hb dL_law_773 rfl (lv_at hl 2 rfl) ?_
  refine lv_aload_n hx hb dL_law_774 rfl (lv_at hl 0 rfl) ?_
  refine lv_iload_n hx hb dL_law_775 rfl (lv_at hl 3 rfl) ?_
  refine lv_iconst (v := 1) hx hb dL_law_776 (by decide) ?_
  refine lv_iadd hx hb dL_law_777 ?_
  refine lv_topi (fun x_19 e_20 => ?_)
  have i_21 : x_19.toInt = (x3).toInt + 1 := ia_add e_20 rfl (by decide) (by omega) (by omega)
  refine va_sld hx hb hX hbl hbA h.2 (vp_of i_21 (by omega) (by omega)) dL_law_778 ?_
  refine lv_topi (fun x_22 e_23 => ?_)
  have s_24 : x_4 = x_22 := by rw [e_5, e_23, show x_1 = x_19 from (fa_eq _ _).mpr ((i_3).trans (i_21).symm)]
  subst s_24
  refine lv_aload_n hx hb dL_law_779 rfl (lv_at hl 0 rfl) ?_
  refine lv_iload_n hx hb dL_law_780 rfl (lv_at hl 3 rfl) ?_
  refine lv_iconst (v := 2) hx hb dL_law_781 (by decide) ?_
  refine lv_iadd hx hb dL_law_782 ?_
  refine lv_topi (fun x_25 e_26 => ?_)
  have i_27 : x_25.toInt = (x3).toInt + 2 := ia_add e_26 rfl (by decide) (by omega) (by omega)
  refine va_sld hx hb hX hbl hbA h.2 (vp_of i_27 (by omega) (by omega)) dL_law_783 ?_
  refine lv_topi (fun x_28 e_29 => ?_)
  have s_30 : x_9 = x_28 := by rw [e_10, e_29, show x_6 = x_25 from (fa_eq _ _).mpr ((i_8).trans (i_27).symm)]
  subst s_30
  refine g_calll C (va_runV (As := [.int (x_4), .int (x_9)]) (rest := []) C.1 (c_X10_corrected l G v w_14 sg x_4 (A1 := (x_4).toInt) rfl x_9 (A2 := (x_9).toInt) rfl u_18) (cwV 2 hts gL_law_X10_corrected rfl rfl rfl (by decide +kernel) ⟨by rw [hR]; exact Nat.le_of_ble_eq_true rfl, by rw [hR]; exact Nat.le_of_ble_eq_true rfl⟩) ⟨gPre_blind, g_recv C h 106 (by decide) (ci := 10) rfl rfl, gS_pre C h _⟩ rfl rfl hl.1 rfl (lv_room (Nat.le_of_ble_eq_true rfl)) dL_law_784 hcs) h (fun r_31 v_33 w_34 g_35 H locs p_32 h => ?_)
  obtain ⟨p_32, rfl, rfl⟩ := p_32
  have u_36 := cI_fM u_16 p_32.2 (by decide)
  have u_37 := u_17
  have u_38 := p_32.1
  have hrl_39 := pr_corrected  rl ci mi p_12 p_32
  refine lv_pop2_2 hx hb dL_law_787 rfl ?_
  refine lv_goto (tgt := 1423) hx hb dL_law_788 (by decide) ?_
  exact K v w_34 sg _ _ _ u_36 u_37 u_38 hrl_39 h (lv_sub hl [0, 1, 2, 3] rfl)

set_option maxHeartbeats 4000000 in
set_option maxRecDepth 100000 in
theorem lc_15 {p : Program} {l : Launch} {e : Env} {R : Room} {s : State} {m : MethodId} {args : Array Value} {below : List Frame} {meth : Method} {c : Code} {H : Heap} {locs : List Loc} {cells slots : Nat} {Q : State → Prop} {ls : Array Slot} {A : Nat → Prop} {G : gG} {v : Nat → Nat → Int32} {w : Nat → Nat → Int64} {sg : Nat → Nat} {b L : Nat} {xs : Nat → Int32} {x3 : Int32}
    (C : gC p s m c code 4 args wsL_law RL A G) (hR : R = room_1) (hcs : cells ≤ R.cells ∧ slots ≤ R.slots) (hX : va_X b L xs s s.heap) (hbl : b < s.heap.size) (hbA : ¬ A b) (hi3 : 0 ≤ x3.toInt ∧ x3.toInt + 7 ≤ (L : Int)) (hL : L ≤ 3584) (ci : cI v) (cg : cG sg) (mi : mI v) (rl : Rl v) (h : gS A G s v w sg H locs) (hl : lv_has ls 4 [(0, .ref b), (1, .ref (G.2.2 (0))), (2, .ref (G.2.2 (106))), (3, .int (x3))])
    (K : ∀ (v : Nat → Nat → Int32) (w : Nat → Nat → Int64) (sg : Nat → Nat) (H : Heap) (locs : List Loc) (ls : Array Slot), cI v → cG sg → mI v → Rl v → gS A G s v w sg H locs → lv_has ls 4 [(0, .ref b), (1, .ref (G.2.2 (0))), (2, .ref (G.2.2 (106))), (3, .int (x3))] → W p l e R s m args below meth c H locs cells slots Q (F0 m 1423 ls [])) : W p l e R s m args below meth c H locs cells slots Q (F0 m 791 ls []) := by
  have hx := C.1.1
  have hb := C.1.2.1
  have hown := C.1.2.2.2.1
  have hts := C.1.2.2.2.2
  have z_0 : (0 : Int32).toInt = 0 := by decide
  have z_1 : (1 : Int32).toInt = 1 := by decide
  refine lv_aload_n hx hb dL_law_791 rfl (lv_at hl 1 rfl) ?_
  refine lv_aload_n hx hb dL_law_792 rfl (lv_at hl 0 rfl) ?_
  refine lv_iload_n hx hb dL_law_793 rfl (lv_at hl 3 rfl) ?_
  refine lv_iconst (v := 1) hx hb dL_law_794 (by decide) ?_
  refine lv_iadd hx hb dL_law_795 ?_
  refine lv_topi (fun x_1 e_2 => ?_)
  have i_3 : x_1.toInt = (x3).toInt + 1 := ia_add e_2 rfl (by decide) (by omega) (by omega)
  refine va_sld hx hb hX hbl hbA h.2 (vp_of i_3 (by omega) (by omega)) dL_law_796 ?_
  refine lv_topi (fun x_4 e_5 => ?_)
  refine g_calli C (va_runV (As := [.int (x_4)]) (rest := []) C.1 (c_X9_touches l G v w sg x_4 (A1 := (x_4).toInt) rfl ci cg) (cwV 1 hts gL_law_X9_touches rfl rfl rfl (by decide +kernel) ⟨by rw [hR]; exact Nat.le_of_ble_eq_true rfl, by rw [hR]; exact Nat.le_of_ble_eq_true rfl⟩) ⟨gPre_blind, g_recv C h 0 (by decide) (ci := 9) rfl rfl, gS_pre C h _⟩ rfl rfl hl.1 rfl (lv_room (Nat.le_of_ble_eq_true rfl)) dL_law_797 hcs) h (fun r_6 v_8 w_9 g_10 H locs p_7 h => ?_)
  obtain ⟨p_7, rfl, rfl⟩ := p_7
  have u_11 := p_7.1
  have u_12 := cg
  have u_13 := mI_fC mi p_7.2 (by decide)
  refine lv_pop hx hb dL_law_800 rfl ?_
  refine lv_aload_n hx hb dL_law_801 rfl (lv_at hl 2 rfl) ?_
  refine lv_aload_n hx hb dL_law_802 rfl (lv_at hl 0 rfl) ?_
  refine lv_iload_n hx hb dL_law_803 rfl (lv_at hl 3 rfl) ?_
  refine lv_iconst (v := 1) hx hb dL_law_804 (by decide) ?_
  refine lv_iadd hx hb dL_law_805 ?_
  refine lv_topi (fun x_14 e_15 => ?_)
  have i_16 : x_14.toInt = (x3).toInt + 1 := ia_add e_15 rfl (by decide) (by omega) (by omega)
  refine va_sld hx hb hX hbl hbA h.2 (vp_of i_16 (by omega) (by omega)) dL_law_806 ?_
  refine lv_topi (fun x_17 e_18 => ?_)
  have s_19 : x_4 = x_17 := by rw [e_5, e_18, show x_1 = x_14 from (fa_eq _ _).mpr ((i_3).trans (i_16).symm)]
  subst s_19
  refine g_calli C (va_runV (As := [.int (x_4)]) (rest := []) C.1 (c_X10_touches l G v w_9 sg x_4 (A1 := (x_4).toInt) rfl u_13) (cwV 1 hts gL_law_X10_touches rfl rfl rfl (by decide +kernel) ⟨by rw [hR]; exact Nat.le_of_ble_eq_true rfl, by rw [hR]; exact Nat.le_of_ble_eq_true rfl⟩) ⟨gPre_blind, g_recv C h 106 (by decide) (ci := 10) rfl rfl, gS_pre C h _⟩ rfl rfl hl.1 rfl (lv_room (Nat.le_of_ble_eq_true rfl)) dL_law_807 hcs) h (fun r_20 v_22 w_23 g_24 H locs p_21 h => ?_)
  obtain ⟨p_21, rfl⟩ := p_21
  have u_25 := cI_fM u_11 p_21.2 (by decide)
  have u_26 := u_12
  have u_27 := p_21.1
  have hrl_28 := pr_touches  rl ci mi p_7 p_21
  refine lv_pop hx hb dL_law_810 rfl ?_
  refine lv_goto (tgt := 1423) hx hb dL_law_811 (by decide) ?_
  exact K v_22 w_23 sg _ _ _ u_25 u_26 u_27 hrl_28 h (lv_sub hl [0, 1, 2, 3] rfl)

set_option maxHeartbeats 4000000 in
set_option maxRecDepth 100000 in
theorem lc_16 {p : Program} {l : Launch} {e : Env} {R : Room} {s : State} {m : MethodId} {args : Array Value} {below : List Frame} {meth : Method} {c : Code} {H : Heap} {locs : List Loc} {cells slots : Nat} {Q : State → Prop} {ls : Array Slot} {A : Nat → Prop} {G : gG} {v : Nat → Nat → Int32} {w : Nat → Nat → Int64} {sg : Nat → Nat} {b L : Nat} {xs : Nat → Int32} {x3 : Int32}
    (C : gC p s m c code 4 args wsL_law RL A G) (hR : R = room_1) (hcs : cells ≤ R.cells ∧ slots ≤ R.slots) (hX : va_X b L xs s s.heap) (hbl : b < s.heap.size) (hbA : ¬ A b) (hi3 : 0 ≤ x3.toInt ∧ x3.toInt + 7 ≤ (L : Int)) (hL : L ≤ 3584) (ci : cI v) (cg : cG sg) (mi : mI v) (rl : Rl v) (h : gS A G s v w sg H locs) (hl : lv_has ls 4 [(0, .ref b), (1, .ref (G.2.2 (0))), (2, .ref (G.2.2 (106))), (3, .int (x3))])
    (K : ∀ (v : Nat → Nat → Int32) (w : Nat → Nat → Int64) (sg : Nat → Nat) (H : Heap) (locs : List Loc) (ls : Array Slot), cI v → cG sg → mI v → Rl v → gS A G s v w sg H locs → lv_has ls 4 [(0, .ref b), (1, .ref (G.2.2 (0))), (2, .ref (G.2.2 (106))), (3, .int (x3))] → W p l e R s m args below meth c H locs cells slots Q (F0 m 1423 ls [])) : W p l e R s m args below meth c H locs cells slots Q (F0 m 814 ls []) := by
  have hx := C.1.1
  have hb := C.1.2.1
  have hown := C.1.2.2.2.1
  have hts := C.1.2.2.2.2
  have z_0 : (0 : Int32).toInt = 0 := by decide
  have z_1 : (1 : Int32).toInt = 1 := by decide
  refine lv_aload_n hx hb dL_law_814 rfl (lv_at hl 1 rfl) ?_
  refine lv_aload_n hx hb dL_law_815 rfl (lv_at hl 0 rfl) ?_
  refine lv_iload_n hx hb dL_law_816 rfl (lv_at hl 3 rfl) ?_
  refine lv_iconst (v := 1) hx hb dL_law_817 (by decide) ?_
  refine lv_iadd hx hb dL_law_818 ?_
  refine lv_topi (fun x_1 e_2 => ?_)
  have i_3 : x_1.toInt = (x3).toInt + 1 := ia_add e_2 rfl (by decide) (by omega) (by omega)
  refine va_sld hx hb hX hbl hbA h.2 (vp_of i_3 (by omega) (by omega)) dL_law_819 ?_
  refine lv_topi (fun x_4 e_5 => ?_)
  refine g_calli C (va_runV (As := [.int (x_4)]) (rest := []) C.1 (c_X9_minds l G v w sg x_4 (A1 := (x_4).toInt) rfl ci cg) (cwV 1 hts gL_law_X9_minds rfl rfl rfl (by decide +kernel) ⟨by rw [hR]; exact Nat.le_of_ble_eq_true rfl, by rw [hR]; exact Nat.le_of_ble_eq_true rfl⟩) ⟨gPre_blind, g_recv C h 0 (by decide) (ci := 9) rfl rfl, gS_pre C h _⟩ rfl rfl hl.1 rfl (lv_room (Nat.le_of_ble_eq_true rfl)) dL_law_820 hcs) h (fun r_6 v_8 w_9 g_10 H locs p_7 h => ?_)
  obtain ⟨p_7, rfl, rfl⟩ := p_7
  have u_11 := p_7.1
  have u_12 := cg
  have u_13 := mI_fC mi p_7.2 (by decide)
  refine lv_pop hx hb dL_law_823 rfl ?_
  refine lv_aload_n hx hb dL_law_824 rfl (lv_at hl 2 rfl) ?_
  refine lv_aload_n hx hb dL_law_825 rfl (lv_at hl 0 rfl) ?_
  refine lv_iload_n hx hb dL_law_826 rfl (lv_at hl 3 rfl) ?_
  refine lv_iconst (v := 1) hx hb dL_law_827 (by decide) ?_
  refine lv_iadd hx hb dL_law_828 ?_
  refine lv_topi (fun x_14 e_15 => ?_)
  have i_16 : x_14.toInt = (x3).toInt + 1 := ia_add e_15 rfl (by decide) (by omega) (by omega)
  refine va_sld hx hb hX hbl hbA h.2 (vp_of i_16 (by omega) (by omega)) dL_law_829 ?_
  refine lv_topi (fun x_17 e_18 => ?_)
  have s_19 : x_4 = x_17 := by rw [e_5, e_18, show x_1 = x_14 from (fa_eq _ _).mpr ((i_3).trans (i_16).symm)]
  subst s_19
  refine g_calli C (va_runV (As := [.int (x_4)]) (rest := []) C.1 (c_X10_minds l G v w_9 sg x_4 (A1 := (x_4).toInt) rfl u_13) (cwV 1 hts gL_law_X10_minds rfl rfl rfl (by decide +kernel) ⟨by rw [hR]; exact Nat.le_of_ble_eq_true rfl, by rw [hR]; exact Nat.le_of_ble_eq_true rfl⟩) ⟨gPre_blind, g_recv C h 106 (by decide) (ci := 10) rfl rfl, gS_pre C h _⟩ rfl rfl hl.1 rfl (lv_room (Nat.le_of_ble_eq_true rfl)) dL_law_830 hcs) h (fun r_20 v_22 w_23 g_24 H locs p_21 h => ?_)
  obtain ⟨p_21, rfl⟩ := p_21
  have u_25 := cI_fM u_11 p_21.2 (by decide)
  have u_26 := u_12
  have u_27 := p_21.1
  have hrl_28 := pr_minds  rl ci mi p_7 p_21
  refine lv_pop hx hb dL_law_833 rfl ?_
  refine lv_goto (tgt := 1423) hx hb dL_law_834 (by decide) ?_
  exact K v_22 w_23 sg _ _ _ u_25 u_26 u_27 hrl_28 h (lv_sub hl [0, 1, 2, 3] rfl)

set_option maxHeartbeats 4000000 in
set_option maxRecDepth 100000 in
theorem lc_17 {p : Program} {l : Launch} {e : Env} {R : Room} {s : State} {m : MethodId} {args : Array Value} {below : List Frame} {meth : Method} {c : Code} {H : Heap} {locs : List Loc} {cells slots : Nat} {Q : State → Prop} {ls : Array Slot} {A : Nat → Prop} {G : gG} {v : Nat → Nat → Int32} {w : Nat → Nat → Int64} {sg : Nat → Nat} {b L : Nat} {xs : Nat → Int32} {x3 : Int32}
    (C : gC p s m c code 4 args wsL_law RL A G) (hR : R = room_1) (hcs : cells ≤ R.cells ∧ slots ≤ R.slots) (hX : va_X b L xs s s.heap) (hbl : b < s.heap.size) (hbA : ¬ A b) (hi3 : 0 ≤ x3.toInt ∧ x3.toInt + 7 ≤ (L : Int)) (hL : L ≤ 3584) (ci : cI v) (cg : cG sg) (mi : mI v) (rl : Rl v) (h : gS A G s v w sg H locs) (hl : lv_has ls 4 [(0, .ref b), (1, .ref (G.2.2 (0))), (2, .ref (G.2.2 (106))), (3, .int (x3))])
    (K : ∀ (v : Nat → Nat → Int32) (w : Nat → Nat → Int64) (sg : Nat → Nat) (H : Heap) (locs : List Loc) (ls : Array Slot), cI v → cG sg → mI v → Rl v → gS A G s v w sg H locs → lv_has ls 4 [(0, .ref b), (1, .ref (G.2.2 (0))), (2, .ref (G.2.2 (106))), (3, .int (x3))] → W p l e R s m args below meth c H locs cells slots Q (F0 m 1423 ls [])) : W p l e R s m args below meth c H locs cells slots Q (F0 m 837 ls []) := by
  have hx := C.1.1
  have hb := C.1.2.1
  have hown := C.1.2.2.2.1
  have hts := C.1.2.2.2.2
  have z_0 : (0 : Int32).toInt = 0 := by decide
  have z_1 : (1 : Int32).toInt = 1 := by decide
  have z_2 : (2 : Int32).toInt = 2 := by decide
  refine lv_aload_n hx hb dL_law_837 rfl (lv_at hl 1 rfl) ?_
  refine lv_aload_n hx hb dL_law_838 rfl (lv_at hl 0 rfl) ?_
  refine lv_iload_n hx hb dL_law_839 rfl (lv_at hl 3 rfl) ?_
  refine lv_iconst (v := 1) hx hb dL_law_840 (by decide) ?_
  refine lv_iadd hx hb dL_law_841 ?_
  refine lv_topi (fun x_1 e_2 => ?_)
  have i_3 : x_1.toInt = (x3).toInt + 1 := ia_add e_2 rfl (by decide) (by omega) (by omega)
  refine va_sld hx hb hX hbl hbA h.2 (vp_of i_3 (by omega) (by omega)) dL_law_842 ?_
  refine lv_topi (fun x_4 e_5 => ?_)
  refine lv_aload_n hx hb dL_law_843 rfl (lv_at hl 0 rfl) ?_
  refine lv_iload_n hx hb dL_law_844 rfl (lv_at hl 3 rfl) ?_
  refine lv_iconst (v := 2) hx hb dL_law_845 (by decide) ?_
  refine lv_iadd hx hb dL_law_846 ?_
  refine lv_topi (fun x_6 e_7 => ?_)
  have i_8 : x_6.toInt = (x3).toInt + 2 := ia_add e_7 rfl (by decide) (by omega) (by omega)
  refine va_sld hx hb hX hbl hbA h.2 (vp_of i_8 (by omega) (by omega)) dL_law_847 ?_
  refine lv_topi (fun x_9 e_10 => ?_)
  refine g_calli C (va_runV (As := [.int (x_4), .int (x_9)]) (rest := []) C.1 (c_X9_place l G v w sg x_4 (A1 := (x_4).toInt) rfl x_9 (A2 := (x_9).toInt) rfl ci) (cwV 2 hts gL_law_X9_place rfl rfl rfl (by decide +kernel) ⟨by rw [hR]; exact Nat.le_of_ble_eq_true rfl, by rw [hR]; exact Nat.le_of_ble_eq_true rfl⟩) ⟨gPre_blind, g_recv C h 0 (by decide) (ci := 9) rfl rfl, gS_pre C h _⟩ rfl rfl hl.1 rfl (lv_room (Nat.le_of_ble_eq_true rfl)) dL_law_848 hcs) h (fun r_11 v_13 w_14 g_15 H locs p_12 h => ?_)
  obtain ⟨p_12, rfl, rfl⟩ := p_12
  have u_16 := p_12.1
  have u_17 := cg
  have u_18 := mI_fC mi p_12.2.1 (by decide)
  refine lv_pop hx hb dL_law_851 rfl ?_
  refine lv_aload_n hx hb dL_law_852 rfl (lv_at hl 2 rfl) ?_
  refine lv_aload_n hx hb dL_law_853 rfl (lv_at hl 0 rfl) ?_
  refine lv_iload_n hx hb dL_law_854 rfl (lv_at hl 3 rfl) ?_
  refine lv_iconst (v := 1) hx hb dL_law_855 (by decide) ?_
  refine lv_iadd hx hb dL_law_856 ?_
  refine lv_topi (fun x_19 e_20 => ?_)
  have i_21 : x_19.toInt = (x3).toInt + 1 := ia_add e_20 rfl (by decide) (by omega) (by omega)
  refine va_sld hx hb hX hbl hbA h.2 (vp_of i_21 (by omega) (by omega)) dL_law_857 ?_
  refine lv_topi (fun x_22 e_23 => ?_)
  have s_24 : x_4 = x_22 := by rw [e_5, e_23, show x_1 = x_19 from (fa_eq _ _).mpr ((i_3).trans (i_21).symm)]
  subst s_24
  refine lv_aload_n hx hb dL_law_858 rfl (lv_at hl 0 rfl) ?_
  refine lv_iload_n hx hb dL_law_859 rfl (lv_at hl 3 rfl) ?_
  refine lv_iconst (v := 2) hx hb dL_law_860 (by decide) ?_
  refine lv_iadd hx hb dL_law_861 ?_
  refine lv_topi (fun x_25 e_26 => ?_)
  have i_27 : x_25.toInt = (x3).toInt + 2 := ia_add e_26 rfl (by decide) (by omega) (by omega)
  refine va_sld hx hb hX hbl hbA h.2 (vp_of i_27 (by omega) (by omega)) dL_law_862 ?_
  refine lv_topi (fun x_28 e_29 => ?_)
  have s_30 : x_9 = x_28 := by rw [e_10, e_29, show x_6 = x_25 from (fa_eq _ _).mpr ((i_8).trans (i_27).symm)]
  subst s_30
  refine g_calli C (va_runV (As := [.int (x_4), .int (x_9)]) (rest := []) C.1 (c_X10_place l G v_13 w sg x_4 (A1 := (x_4).toInt) rfl x_9 (A2 := (x_9).toInt) rfl u_18) (cwV 2 hts gL_law_X10_place rfl rfl rfl (by decide +kernel) ⟨by rw [hR]; exact Nat.le_of_ble_eq_true rfl, by rw [hR]; exact Nat.le_of_ble_eq_true rfl⟩) ⟨gPre_blind, g_recv C h 106 (by decide) (ci := 10) rfl rfl, gS_pre C h _⟩ rfl rfl hl.1 rfl (lv_room (Nat.le_of_ble_eq_true rfl)) dL_law_863 hcs) h (fun r_31 v_33 w_34 g_35 H locs p_32 h => ?_)
  obtain ⟨p_32, rfl, rfl⟩ := p_32
  have u_36 := cI_fM u_16 p_32.2.1 (by decide)
  have u_37 := u_17
  have u_38 := p_32.1
  have hrl_39 := pr_place rfl rfl rl ci mi p_12 p_32
  refine lv_pop hx hb dL_law_866 rfl ?_
  refine lv_goto (tgt := 1423) hx hb dL_law_867 (by decide) ?_
  exact K v_33 w sg _ _ _ u_36 u_37 u_38 hrl_39.2 h (lv_sub hl [0, 1, 2, 3] rfl)
