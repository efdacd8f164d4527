set_option maxHeartbeats 4000000 in
set_option maxRecDepth 100000 in
theorem c_X1_commonDivisor (l : Launch) (G : gG) (v : Nat → Nat → Int32) (w : Nat → Nat → Int64) (sg : Nat → Nat) (p0 : Int64) {A0 : Int} (a0 : p0.toInt = A0) (p2 : Int64) {A2 : Int} (a2 : p2.toInt = A2) : Met l yX1_commonDivisor wsX1_commonDivisor ({ frames := 0, cells := 0, slots := 0, locals := 0 }) (gPre G v w sg [.long (p0), .long (p2)]) (gQl G (fun r v' w' sg' => (gcP A0 A2 r.toInt) ∧ v = v' ∧ w = w' ∧ sg = sg')) 0 0 (gA G) := by
  refine gM_ofl (cc := cX1_commonDivisor) (maxL := 7) (by decide) rfl (Nat.le_of_ble_eq_true rfl) ?_
  intro p e R s m args below meth c Q ls C hR ret h hl
  have hx := C.1.1
  have hb := C.1.2.1
  have hown := C.1.2.2.2.1
  have hts := C.1.2.2.2.2
  have hl : lv_has ls 7 [(0, .long (p0)), (2, .long (p2))] := hl
  have q0 := l_rng p0; rw [a0] at q0
  have q2 := l_rng p2; rw [a2] at q2
  have z_0 : (0 : Int32).toInt = 0 := by decide
  have z_1 : (1 : Int32).toInt = 1 := by decide
  have z_200 : (200 : Int32).toInt = 200 := by decide
  refine lv_iconst (v := 0) hx hb dX1_commonDivisor_0 (by decide) ?_
  have J3_3 : ∀ (n : Nat) (y_1 : Int64) (y_2 : Int64) (y_3 : Int32) (H : Heap) (locs : List Loc) (ls : Array Slot), (200 - (y_3).toInt).toNat < n → (0 ≤ (y_3).toInt ∧ (y_3).toInt ≤ 200) → (gcI A0 A2 (y_1).toInt (y_2).toInt (y_3).toInt) → gS (gA G) G s v w sg H locs → lv_has ls 7 [(0, .long (y_1)), (2, .long (y_2)), (4, .int (y_3))] → W p l e R s m args below meth c H locs 0 0 Q (F0 m 3 ls []) := by
    intro n
    induction n with
    | zero => intro y_1 y_2 y_3 H locs ls hm; exact absurd hm (Nat.not_lt_zero _)
    | succ n ih3 =>
      intro y_1 y_2 y_3 H locs ls hm f_4 f_5 h hl
      refine lv_iload hx hb dX1_commonDivisor_3 (lv_at hl 2 rfl) ?_
      refine lv_sipush (v := 200) hx hb dX1_commonDivisor_5 (by decide) ?_
      refine lv_icmp_ge (tgt := 33) hx hb dX1_commonDivisor_8 (by decide) (fun c_6 => ?_) (fun c_6 => ?_)
      · have j_7 : 200 ≤ (y_3).toInt := (i_le (by decide) rfl).mp c_6
        refine lv_lload_n hx hb dX1_commonDivisor_33 rfl (lv_at hl 0 rfl) ?_
        exact ret y_1 v w sg _ _ _ _ dX1_commonDivisor_34 h ⟨(gc_end f_5 (by omega)), rfl, rfl, rfl⟩
      · have j_7 : ¬ (200 ≤ (y_3).toInt) := fun q => c_6 ((i_le (by decide) rfl).mpr q)
        refine lv_lload_n hx hb dX1_commonDivisor_11 rfl (lv_at hl 1 rfl) ?_
        refine lv_lconst (v := 0) hx hb dX1_commonDivisor_12 (by decide) ?_
        refine W.lcmp hx hb dX1_commonDivisor_13 ?_
        refine lv_if_eq (tgt := 33) hx hb dX1_commonDivisor_14 (by decide) (fun c_8 => ?_) (fun c_8 => ?_)
        · have j_9 : (y_2).toInt = 0 := (l_eq0 rfl (by decide)).mp c_8
          refine lv_lload_n hx hb dX1_commonDivisor_33 rfl (lv_at hl 0 rfl) ?_
          exact ret y_1 v w sg _ _ _ _ dX1_commonDivisor_34 h ⟨(gc_end f_5 (by omega)), rfl, rfl, rfl⟩
        · have j_9 : ¬ ((y_2).toInt = 0) := fun q => c_8 ((l_eq0 rfl (by decide)).mpr q)
          refine lv_lload_n hx hb dX1_commonDivisor_17 rfl (lv_at hl 0 rfl) ?_
          refine lv_lload_n hx hb dX1_commonDivisor_18 rfl (lv_at hl 1 rfl) ?_
          refine lv_lrem hx hb dX1_commonDivisor_19 (l_ne0 rfl (by omega)) ?_
          refine lv_topl (fun x_10 e_11 => ?_)
          refine lv_lstore (lv' := [(5, .long (x_10)), (0, .long (y_1)), (2, .long (y_2)), (4, .int (y_3))]) hx hb dX1_commonDivisor_20 hl (by decide) rfl (fun ls hl => ?_)
          refine lv_lload_n hx hb dX1_commonDivisor_22 rfl (lv_at hl 2 rfl) ?_
          refine lv_lstore_n (lv' := [(0, .long (y_2)), (5, .long (x_10)), (2, .long (y_2)), (4, .int (y_3))]) hx hb dX1_commonDivisor_23 rfl hl (by decide) rfl (fun ls hl => ?_)
          refine lv_lload hx hb dX1_commonDivisor_24 (lv_at hl 1 rfl) ?_
          refine lv_lstore_n (lv' := [(2, .long (x_10)), (0, .long (y_2)), (5, .long (x_10)), (4, .int (y_3))]) hx hb dX1_commonDivisor_26 rfl hl (by decide) rfl (fun ls hl => ?_)
          obtain ⟨x_12, e_13⟩ : ∃ y : Int32, y = y_3 + 1 := ⟨_, rfl⟩
          have i_14 : x_12.toInt = (y_3).toInt + 1 := ia_add e_13 rfl (by decide) (by omega) (by omega)
          refine lv_iinc (v := x_12) (lv' := [(4, .int (x_12)), (2, .long (x_10)), (0, .long (y_2)), (5, .long (x_10))]) hx hb dX1_commonDivisor_27 hl (k := 3) rfl (by rw [e_13]; rfl) (by decide) rfl (fun ls hl => ?_)
          refine lv_goto (tgt := 3) hx hb dX1_commonDivisor_30 (by decide) ?_
          exact ih3 y_2 x_10 x_12 _ _ _ (by omega) (by omega) (gcI_st f_5 e_11 (by omega) (by omega) (by omega)) h (lv_sub hl [2, 1, 0] rfl)
  refine lv_istore (lv' := [(4, .int (0)), (0, .long (p0)), (2, .long (p2))]) hx hb dX1_commonDivisor_1 hl (by decide) rfl (fun ls hl => ?_)
  exact J3_3 _ p0 p2 0 _ _ _ (Nat.lt_succ_self _) (by omega) (gcI_0 a0 a2 (by decide)) h (lv_sub hl [1, 2, 0] rfl)

set_option maxHeartbeats 4000000 in
set_option maxRecDepth 100000 in
theorem c_X1_sumOfProducts (l : Launch) (G : gG) (v : Nat → Nat → Int32) (w : Nat → Nat → Int64) (sg : Nat → Nat) (p1 : Int32) {A1 : Int} (a1 : p1.toInt = A1) (p2 : Int32) {A2 : Int} (a2 : p2.toInt = A2) (b1 : 0 ≤ A1 ∧ A1 ≤ 2) (b2 : 0 ≤ A2 ∧ A2 ≤ 2) (ci : cI v) : Met l yX1_sumOfProducts wsX1_sumOfProducts ({ frames := 0, cells := 0, slots := 0, locals := 0 }) (gPre G v w sg [.ref (G.2.2 (18)), .int (p1), .int (p2)]) (gQl G (fun r v' w' sg' => (r = cfL v A1.toNat A2.toNat) ∧ v = v' ∧ w = w' ∧ sg = sg')) 0 0 (gA G) := by
  refine gM_ofl (cc := cX1_sumOfProducts) (maxL := 6) (by decide) rfl (Nat.le_of_ble_eq_true rfl) ?_
  intro p e R s m args below meth c Q ls C hR ret h hl
  have hx := C.1.1
  have hb := C.1.2.1
  have hown := C.1.2.2.2.1
  have hts := C.1.2.2.2.2
  have hl : lv_has ls 6 [(0, .ref (G.2.2 (18))), (1, .int (p1)), (2, .int (p2))] := hl
  have q1 := i_rng p1; rw [a1] at q1
  have q2 := i_rng p2; rw [a2] at q2
  have z_0 : (0 : Int32).toInt = 0 := by decide
  have z_1 : (1 : Int32).toInt = 1 := by decide
  have f19 : Cond.fieldLink RX1 19 "WindHall$Calibration" "count" "I" ∈ wsX1_sumOfProducts := by decide +kernel
  have hi1 : ∀ x ∈ u_ws RX1 TX1 4, x ∈ wsX1_sumOfProducts := fun x q => List.mem_cons_of_mem _ (List.mem_append_right _ q)
  have f13 : Cond.fieldLink RX1 13 "WindHall$Calibration" "loads" "[[I" ∈ wsX1_sumOfProducts := by decide +kernel
  have o_1 := ci
  obtain ⟨K1, K2, K3, K4, K5, K6, K7, Ks, K9, Ka, Kr, Kz⟩ := o_1
  refine lv_lconst (v := 0) hx hb dX1_sumOfProducts_0 (by decide) ?_
  refine lv_lstore_n (lv' := [(3, .long (0)), (0, .ref (G.2.2 (18))), (1, .int (p1)), (2, .int (p2))]) hx hb dX1_sumOfProducts_1 rfl hl (by decide) rfl (fun ls hl => ?_)
  refine lv_iconst (v := 0) hx hb dX1_sumOfProducts_2 (by decide) ?_
  have J5_3 : ∀ (n : Nat) (y_2 : Int64) (y_3 : Int32) (H : Heap) (locs : List Loc) (ls : Array Slot), ((v 18 2).toInt - (y_3).toInt).toNat < n → (0 ≤ (y_3).toInt ∧ (y_3).toInt ≤ (v 18 2).toInt) → (y_2 = SL (fun k => v (20 + k) A1.toNat) (fun k => v (20 + k) A2.toNat) ((y_3).toInt).toNat) → gS (gA G) G s v w sg H locs → lv_has ls 6 [(0, .ref (G.2.2 (18))), (1, .int (p1)), (2, .int (p2)), (3, .long (y_2)), (5, .int (y_3))] → W p l e R s m args below meth c H locs 0 0 Q (F0 m 5 ls []) := by
    intro n
    induction n with
    | zero => intro y_2 y_3 H locs ls hm; exact absurd hm (Nat.not_lt_zero _)
    | succ n ih5 =>
      intro y_2 y_3 H locs ls hm f_4 f_5 h hl
      refine lv_iload hx hb dX1_sumOfProducts_5 (lv_at hl 4 rfl) ?_
      refine lv_aload_n hx hb dX1_sumOfProducts_7 rfl (lv_at hl 0 rfl) ?_
      refine g_geti (ci := 1) (x := v 18 2) C h 18 (by decide) rfl rfl hi1 2 (by decide) f19 rfl rfl rfl dX1_sumOfProducts_8 ?_
      refine lv_icmp_ge (tgt := 43) hx hb dX1_sumOfProducts_11 (by decide) (fun c_6 => ?_) (fun c_6 => ?_)
      · have j_7 : (v 18 2).toInt ≤ (y_3).toInt := (i_le rfl rfl).mp c_6
        refine lv_lload_n hx hb dX1_sumOfProducts_43 rfl (lv_at hl 3 rfl) ?_
        exact ret y_2 v w sg _ _ _ _ dX1_sumOfProducts_44 h ⟨(by rw [f_5]; unfold cfL; rw [show (y_3).toInt = (v 18 2).toInt by omega]), rfl, rfl, rfl⟩
      · have j_7 : ¬ ((v 18 2).toInt ≤ (y_3).toInt) := fun q => c_6 ((i_le rfl rfl).mpr q)
        refine lv_lload_n hx hb dX1_sumOfProducts_14 rfl (lv_at hl 3 rfl) ?_
        refine lv_aload_n hx hb dX1_sumOfProducts_15 rfl (lv_at hl 0 rfl) ?_
        refine g_get (ci := 1) (x := .ref (G.2.2 (19))) C h 18 (by decide) rfl rfl hi1 0 (by decide) f13 rfl rfl dX1_sumOfProducts_16 ?_
        refine lv_iload hx hb dX1_sumOfProducts_19 (lv_at hl 4 rfl) ?_
        refine g_aald (ty := .array .int) C h 19 (by decide) 0 (by decide) (n := 12) (by decide) rfl rfl (vp_of rfl (by omega) (by omega)) dX1_sumOfProducts_21 ?_
        obtain ⟨q_8, q_8_e, q_8_i, q_8_l⟩ := g_row sg (b := 19) (n := 12) (i := y_3) (by decide) (by decide) rfl (by omega) (by omega)
        rw [q_8_e]
        refine lv_iload_n hx hb dX1_sumOfProducts_22 rfl (lv_at hl 1 rfl) ?_
        refine g_iald C h q_8 (by omega) (g_kd 20 12 1 rfl q_8_l) (n := 3) (g_ln 20 12 3 rfl q_8_l) (vp_of a1 (by omega) (by omega)) dX1_sumOfProducts_23 ?_
        refine lv_topi (fun x_9 e_10 => ?_)
        have hx23 : x_9 = v (20 + (y_3 : Int32).toInt.toNat) A1.toNat := by rw [e_10, cl_nat a1, show q_8 = 20 + (y_3 : Int32).toInt.toNat by omega]
        refine lv_aload_n hx hb dX1_sumOfProducts_24 rfl (lv_at hl 0 rfl) ?_
        refine g_get (ci := 1) (x := .ref (G.2.2 (19))) C h 18 (by decide) rfl rfl hi1 0 (by decide) f13 rfl rfl dX1_sumOfProducts_25 ?_
        refine lv_iload hx hb dX1_sumOfProducts_28 (lv_at hl 4 rfl) ?_
        refine g_aald (ty := .array .int) C h 19 (by decide) 0 (by decide) (n := 12) (by decide) rfl rfl (vp_of rfl (by omega) (by omega)) dX1_sumOfProducts_30 ?_
        obtain ⟨q_11, q_11_e, q_11_i, q_11_l⟩ := g_row sg (b := 19) (n := 12) (i := y_3) (by decide) (by decide) rfl (by omega) (by omega)
        rw [q_11_e]
        refine lv_iload_n hx hb dX1_sumOfProducts_31 rfl (lv_at hl 2 rfl) ?_
        refine g_iald C h q_11 (by omega) (g_kd 20 12 1 rfl q_11_l) (n := 3) (g_ln 20 12 3 rfl q_11_l) (vp_of a2 (by omega) (by omega)) dX1_sumOfProducts_32 ?_
        refine lv_topi (fun x_12 e_13 => ?_)
        have hx32 : x_12 = v (20 + (y_3 : Int32).toInt.toNat) A2.toNat := by rw [e_13, cl_nat a2, show q_11 = 20 + (y_3 : Int32).toInt.toNat by omega]
        refine lv_imul hx hb dX1_sumOfProducts_33 ?_
        refine lv_topi (fun x_14 e_15 => ?_)
        have hp33 := e_15
        have q_16 := i_rng x_14
        refine lv_i2l (v := (x_14 : Int32).toInt64) hx hb dX1_sumOfProducts_34 rfl ?_
        refine lv_ladd hx hb dX1_sumOfProducts_35 ?_
        refine lv_topl (fun x_17 e_18 => ?_)
        refine lv_lstore_n (lv' := [(3, .long (x_17)), (0, .ref (G.2.2 (18))), (1, .int (p1)), (2, .int (p2)), (5, .int (y_3))]) hx hb dX1_sumOfProducts_36 rfl hl (by decide) rfl (fun ls hl => ?_)
        obtain ⟨x_19, e_20⟩ : ∃ y : Int32, y = y_3 + 1 := ⟨_, rfl⟩
        have i_21 : x_19.toInt = (y_3).toInt + 1 := ia_add e_20 rfl (by decide) (by omega) (by omega)
        refine lv_iinc (v := x_19) (lv' := [(5, .int (x_19)), (3, .long (x_17)), (0, .ref (G.2.2 (18))), (1, .int (p1)), (2, .int (p2))]) hx hb dX1_sumOfProducts_37 hl (k := 4) rfl (by rw [e_20]; rfl) (by decide) rfl (fun ls hl => ?_)
        refine lv_goto (tgt := 5) hx hb dX1_sumOfProducts_40 (by decide) ?_
        exact ih5 x_17 x_19 _ _ _ (by omega) (by omega) (sl_st f_5 e_18 hp33 hx23 hx32 (by omega) (by omega)) h (lv_sub hl [2, 3, 4, 1, 0] rfl)
  refine lv_istore (lv' := [(5, .int (0)), (3, .long (0)), (0, .ref (G.2.2 (18))), (1, .int (p1)), (2, .int (p2))]) hx hb dX1_sumOfProducts_3 hl (by decide) rfl (fun ls hl => ?_)
  exact J5_3 _ 0 0 _ _ _ (Nat.lt_succ_self _) (by omega) rfl h (lv_sub hl [2, 3, 4, 1, 0] rfl)

set_option maxHeartbeats 4000000 in
set_option maxRecDepth 100000 in
theorem c_X1_setEquations (l : Launch) (G : gG) (v : Nat → Nat → Int32) (w : Nat → Nat → Int64) (sg : Nat → Nat) (p1 : Int32) {A1 : Int} (a1 : p1.toInt = A1) (b1 : 0 ≤ A1 ∧ A1 ≤ 2) (ci : cI v) : Met l yX1_setEquations wsX1_setEquations ({ frames := 1, cells := 0, slots := 0, locals := 25 }) (gPre G v w sg [.ref (G.2.2 (18)), .int (p1)]) (gQv G (fun v' w' sg' => (cI v ∧ fC 18 51 v w v w' ∧ eqP v A1.toNat w' 3) ∧ v = v' ∧ sg = sg')) 0 0 (gA G) := by
  refine gM_ofv (cc := cX1_setEquations) (maxL := 6) (by decide) rfl (Nat.le_of_ble_eq_true rfl) ?_
  intro p e R s m args below meth c Q ls C hR ret h hl
  have hx := C.1.1
  have hb := C.1.2.1
  have hown := C.1.2.2.2.1
  have hts := C.1.2.2.2.2
  have hl : lv_has ls 6 [(0, .ref (G.2.2 (18))), (1, .int (p1))] := hl
  have q1 := i_rng p1; rw [a1] at q1
  have z_0 : (0 : Int32).toInt = 0 := by decide
  have z_1 : (1 : Int32).toInt = 1 := by decide
  have z_3 : (3 : Int32).toInt = 3 := by decide
  have f19 : Cond.fieldLink RX1 19 "WindHall$Calibration" "count" "I" ∈ wsX1_setEquations := by decide +kernel
  have hi1 : ∀ x ∈ u_ws RX1 TX1 4, x ∈ wsX1_setEquations := fun x q => List.mem_cons_of_mem _ (List.mem_append_left _ (List.mem_append_right _ q))
  have f26 : Cond.fieldLink RX1 26 "WindHall$Calibration" "equations" "LWindHall$Equations;" ∈ wsX1_setEquations := by decide +kernel
  have f50 : Cond.fieldLink RX1 50 "WindHall$Equations" "right" "[J" ∈ wsX1_setEquations := by decide +kernel
  have hi4 : ∀ x ∈ u_ws RX4 TX4 2, x ∈ wsX1_setEquations := fun x q => List.mem_cons_of_mem _ (List.mem_append_right _ q)
  have f54 : Cond.fieldLink RX1 54 "WindHall$Equations" "left" "[[J" ∈ wsX1_setEquations := by decide +kernel
  have f13 : Cond.fieldLink RX1 13 "WindHall$Calibration" "loads" "[[I" ∈ wsX1_setEquations := by decide +kernel
  have f16 : Cond.fieldLink RX1 16 "WindHall$Calibration" "readings" "[[I" ∈ wsX1_setEquations := by decide +kernel
  have o_1 := ci
  obtain ⟨K1, K2, K3, K4, K5, K6, K7, Ks, K9, Ka, Kr, Kz⟩ := o_1
  refine lv_iconst (v := 0) hx hb dX1_setEquations_0 (by decide) ?_
  have J2_3 : ∀ (n : Nat) (y_2 : Int32) (w_3 : Nat → Nat → Int64) (H : Heap) (locs : List Loc) (ls : Array Slot), (3 - (y_2).toInt).toNat < n → (cI v) → (fC 18 51 v w v w_3) → (0 ≤ (y_2).toInt ∧ (y_2).toInt ≤ 3) → (eqP v A1.toNat w_3 (y_2).toInt) → gS (gA G) G s v w_3 sg H locs → lv_has ls 6 [(0, .ref (G.2.2 (18))), (1, .int (p1)), (2, .int (y_2))] → W p l e R s m args below meth c H locs 0 0 Q (F0 m 2 ls []) := by
    intro n
    induction n with
    | zero => intro y_2 w_3 H locs ls hm; exact absurd hm (Nat.not_lt_zero _)
    | succ n ih2 =>
      intro y_2 w_3 H locs ls hm u_4 u_5 f_6 f_7 h hl
      have o_8 := u_4
      obtain ⟨K1, K2, K3, K4, K5, K6, K7, Ks, K9, Ka, Kr, Kz⟩ := o_8
      refine lv_iload_n hx hb dX1_setEquations_2 rfl (lv_at hl 2 rfl) ?_
      refine lv_iconst (v := 3) hx hb dX1_setEquations_3 (by decide) ?_
      refine lv_icmp_ge (tgt := 101) hx hb dX1_setEquations_4 (by decide) (fun c_9 => ?_) (fun c_9 => ?_)
      · have j_10 : 3 ≤ (y_2).toInt := (i_le (by decide) rfl).mp c_9
        exact ret v w_3 sg _ _ _ _ dX1_setEquations_101 h ⟨⟨u_4, u_5, ((show (y_2).toInt = 3 by omega) ▸ f_7)⟩, rfl, rfl⟩
      · have j_10 : ¬ (3 ≤ (y_2).toInt) := fun q => c_9 ((i_le (by decide) rfl).mpr q)
        refine lv_lconst (v := 0) hx hb dX1_setEquations_7 (by decide) ?_
        refine lv_lstore_n (lv' := [(3, .long (0)), (0, .ref (G.2.2 (18))), (1, .int (p1)), (2, .int (y_2))]) hx hb dX1_setEquations_8 rfl hl (by decide) rfl (fun ls hl => ?_)
        refine lv_iconst (v := 0) hx hb dX1_setEquations_9 (by decide) ?_
        have J12_12 : ∀ (n : Nat) (y_11 : Int64) (y_12 : Int32) (H : Heap) (locs : List Loc) (ls : Array Slot), ((v 18 2).toInt - (y_12).toInt).toNat < n → (0 ≤ (y_12).toInt ∧ (y_12).toInt ≤ (v 18 2).toInt) → (y_11 = SR (fun k => v (20 + k) (y_2 : Int32).toInt.toNat) (fun k => v (33 + k) A1.toNat) ((y_12).toInt).toNat) → gS (gA G) G s v w_3 sg H locs → lv_has ls 6 [(0, .ref (G.2.2 (18))), (1, .int (p1)), (2, .int (y_2)), (3, .long (y_11)), (5, .int (y_12))] → W p l e R s m args below meth c H locs 0 0 Q (F0 m 12 ls []) := by
          intro n
          induction n with
          | zero => intro y_11 y_12 H locs ls hm; exact absurd hm (Nat.not_lt_zero _)
          | succ n ih12 =>
            intro y_11 y_12 H locs ls hm f_13 f_14 h hl
            refine lv_iload hx hb dX1_setEquations_12 (lv_at hl 4 rfl) ?_
            refine lv_aload_n hx hb dX1_setEquations_14 rfl (lv_at hl 0 rfl) ?_
            refine g_geti (ci := 1) (x := v 18 2) C h 18 (by decide) rfl rfl hi1 2 (by decide) f19 rfl rfl rfl dX1_setEquations_15 ?_
            refine lv_icmp_ge (tgt := 51) hx hb dX1_setEquations_18 (by decide) (fun c_15 => ?_) (fun c_15 => ?_)
            · have j_16 : (v 18 2).toInt ≤ (y_12).toInt := (i_le rfl rfl).mp c_15
              have hr51 : y_11 = cfR v A1.toNat (y_2 : Int32).toInt.toNat := by rw [f_14]; unfold cfR; rw [show (y_12).toInt = (v 18 2).toInt by omega]
              refine lv_aload_n hx hb dX1_setEquations_51 rfl (lv_at hl 0 rfl) ?_
              refine g_get (ci := 1) (x := .ref (G.2.2 (45))) C h 18 (by decide) rfl rfl hi1 3 (by decide) f26 rfl rfl dX1_setEquations_52 ?_
              refine g_get (ci := 4) (x := .ref (G.2.2 (50))) C h 45 (by decide) rfl rfl hi4 1 (by decide) f50 rfl rfl dX1_setEquations_55 ?_
              refine lv_iload_n hx hb dX1_setEquations_58 rfl (lv_at hl 2 rfl) ?_
              refine lv_lload_n hx hb dX1_setEquations_59 rfl (lv_at hl 3 rfl) ?_
              refine g_last C h 50 (by decide) (by decide) (n := 3) (by decide) (vp_of rfl (by omega) (by omega)) dX1_setEquations_60 (fun H locs h => ?_)
              obtain ⟨w_17, hw_17⟩ : ∃ z, z = gul w_3 50 ((y_2 : Int32).toNatClampNeg) y_11 := ⟨_, rfl⟩
              have h : gS (gA G) G s v w_17 sg H locs := by rw [hw_17]; exact h
              have u_18 : fC 18 51 v w v w_17 := by rw [hw_17]; exact (fC_w u_5 (by decide))
              refine lv_iconst (v := 0) hx hb dX1_setEquations_61 (by decide) ?_
              have J64_20 : ∀ (n : Nat) (y_19 : Int32) (w_20 : Nat → Nat → Int64) (H : Heap) (locs : List Loc) (ls : Array Slot), (3 - (y_19).toInt).toNat < n → (cI v) → (fC 18 51 v w v w_20) → (0 ≤ (y_19).toInt ∧ (y_19).toInt ≤ 3) → (eqQ v A1.toNat w_20 (y_2 : Int32).toInt (y_19).toInt) → gS (gA G) G s v w_20 sg H locs → lv_has ls 6 [(0, .ref (G.2.2 (18))), (1, .int (p1)), (2, .int (y_2)), (3, .long (y_11)), (5, .int (y_19))] → W p l e R s m args below meth c H locs 0 0 Q (F0 m 64 ls []) := by
                intro n
                induction n with
                | zero => intro y_19 w_20 H locs ls hm; exact absurd hm (Nat.not_lt_zero _)
                | succ n ih64 =>
                  intro y_19 w_20 H locs ls hm u_21 u_22 f_23 f_24 h hl
                  have o_25 := u_21
                  obtain ⟨K1, K2, K3, K4, K5, K6, K7, Ks, K9, Ka, Kr, Kz⟩ := o_25
                  refine lv_iload hx hb dX1_setEquations_64 (lv_at hl 4 rfl) ?_
                  refine lv_iconst (v := 3) hx hb dX1_setEquations_66 (by decide) ?_
                  refine lv_icmp_ge (tgt := 95) hx hb dX1_setEquations_67 (by decide) (fun c_26 => ?_) (fun c_26 => ?_)
                  · have j_27 : 3 ≤ (y_19).toInt := (i_le (by decide) rfl).mp c_26
                    obtain ⟨x_28, e_29⟩ : ∃ y : Int32, y = y_2 + 1 := ⟨_, rfl⟩
                    have i_30 : x_28.toInt = (y_2).toInt + 1 := ia_add e_29 rfl (by decide) (by omega) (by omega)
                    refine lv_iinc (v := x_28) (lv' := [(2, .int (x_28)), (0, .ref (G.2.2 (18))), (1, .int (p1)), (3, .long (y_11)), (5, .int (y_19))]) hx hb dX1_setEquations_95 hl (k := 2) rfl (by rw [e_29]; rfl) (by decide) rfl (fun ls hl => ?_)
                    refine lv_goto (tgt := 2) hx hb dX1_setEquations_98 (by decide) ?_
                    exact ih2 x_28 w_20 _ _ _ (by omega) u_21 u_22 (by omega) (eqQ_n f_24 (by omega) (by omega) (by omega)) h (lv_sub hl [1, 2, 0] rfl)
                  · have j_27 : ¬ (3 ≤ (y_19).toInt) := fun q => c_26 ((i_le (by decide) rfl).mpr q)
                    refine lv_aload_n hx hb dX1_setEquations_70 rfl (lv_at hl 0 rfl) ?_
                    refine g_get (ci := 1) (x := .ref (G.2.2 (45))) C h 18 (by decide) rfl rfl hi1 3 (by decide) f26 rfl rfl dX1_setEquations_71 ?_
                    refine g_get (ci := 4) (x := .ref (G.2.2 (46))) C h 45 (by decide) rfl rfl hi4 0 (by decide) f54 rfl rfl dX1_setEquations_74 ?_
                    refine lv_iload_n hx hb dX1_setEquations_77 rfl (lv_at hl 2 rfl) ?_
                    refine g_aald (ty := .array .long) C h 46 (by decide) 1 (by decide) (n := 3) (by decide) rfl rfl (vp_of rfl (by omega) (by omega)) dX1_setEquations_78 ?_
                    obtain ⟨q_31, q_31_e, q_31_i, q_31_l⟩ := g_row sg (b := 46) (n := 3) (i := y_2) (by decide) (by decide) rfl (by omega) (by omega)
                    rw [q_31_e]
                    refine lv_iload hx hb dX1_setEquations_79 (lv_at hl 4 rfl) ?_
                    refine lv_aload_n hx hb dX1_setEquations_81 rfl (lv_at hl 0 rfl) ?_
                    refine lv_iload_n hx hb dX1_setEquations_82 rfl (lv_at hl 2 rfl) ?_
                    refine lv_iload hx hb dX1_setEquations_83 (lv_at hl 4 rfl) ?_
                    refine g_calll C (va_runV (As := [.int (y_2), .int (y_19)]) (rest := [.int (y_19), .ref (G.2.2 (q_31))]) C.1 (c_X1_sumOfProducts l G v w_20 sg y_2 (A1 := (y_2).toInt) rfl y_19 (A2 := (y_19).toInt) rfl (by omega) (by omega) u_21) (cwV 2 hts gX1_setEquations_X1_sumOfProducts rfl rfl rfl (by decide +kernel) ⟨by rw [hR]; exact Nat.le_of_ble_eq_true rfl, by rw [hR]; exact Nat.le_of_ble_eq_true rfl⟩) ⟨gPre_blind, g_recv C h 18 (by decide) (ci := 1) rfl rfl, gS_pre C h _⟩ rfl rfl hl.1 rfl (lv_room (Nat.le_of_ble_eq_true rfl)) dX1_setEquations_85 ⟨Nat.zero_le _, Nat.zero_le _⟩) h (fun r_32 v_34 w_35 g_36 H locs p_33 h => ?_)
                    obtain ⟨p_33, rfl, rfl, rfl⟩ := p_33
                    have hr85 := p_33
                    refine g_last C h q_31 (by omega) (g_kd 47 3 2 rfl q_31_l) (n := 3) (g_ln 47 3 3 rfl q_31_l) (vp_of rfl (by omega) (by omega)) dX1_setEquations_88 (fun H locs h => ?_)
                    obtain ⟨w_37, hw_37⟩ : ∃ z, z = gul w_20 q_31 ((y_19 : Int32).toNatClampNeg) r_32 := ⟨_, rfl⟩
                    have h : gS (gA G) G s v w_37 sg H locs := by rw [hw_37]; exact h
                    have u_38 : fC 18 51 v w v w_37 := by rw [hw_37]; exact (fC_w u_22 (by omega))
                    obtain ⟨x_39, e_40⟩ : ∃ y : Int32, y = y_19 + 1 := ⟨_, rfl⟩
                    have i_41 : x_39.toInt = (y_19).toInt + 1 := ia_add e_40 rfl (by decide) (by omega) (by omega)
                    refine lv_iinc (v := x_39) (lv' := [(5, .int (x_39)), (0, .ref (G.2.2 (18))), (1, .int (p1)), (2, .int (y_2)), (3, .long (y_11))]) hx hb dX1_setEquations_89 hl (k := 4) rfl (by rw [e_40]; rfl) (by decide) rfl (fun ls hl => ?_)
                    refine lv_goto (tgt := 64) hx hb dX1_setEquations_92 (by decide) ?_
                    exact ih64 x_39 w_37 _ _ _ (by omega) u_21 u_38 (by omega) (eqQ_st f_24 hw_37 (by omega) rfl (by omega) (by omega) hr85 (by omega)) h (lv_sub hl [1, 2, 3, 4, 0] rfl)
              refine lv_istore (lv' := [(5, .int (0)), (0, .ref (G.2.2 (18))), (1, .int (p1)), (2, .int (y_2)), (3, .long (y_11))]) hx hb dX1_setEquations_62 hl (by decide) rfl (fun ls hl => ?_)
              exact J64_20 _ 0 w_17 _ _ _ (Nat.lt_succ_self _) u_4 u_18 (by omega) (eqQ_0 f_7 hw_17 rfl (by omega) hr51 (by decide)) h (lv_sub hl [1, 2, 3, 4, 0] rfl)
            · have j_16 : ¬ ((v 18 2).toInt ≤ (y_12).toInt) := fun q => c_15 ((i_le rfl rfl).mpr q)
              refine lv_lload_n hx hb dX1_setEquations_21 rfl (lv_at hl 3 rfl) ?_
              refine lv_aload_n hx hb dX1_setEquations_22 rfl (lv_at hl 0 rfl) ?_
              refine g_get (ci := 1) (x := .ref (G.2.2 (19))) C h 18 (by decide) rfl rfl hi1 0 (by decide) f13 rfl rfl dX1_setEquations_23 ?_
              refine lv_iload hx hb dX1_setEquations_26 (lv_at hl 4 rfl) ?_
              refine g_aald (ty := .array .int) C h 19 (by decide) 0 (by decide) (n := 12) (by decide) rfl rfl (vp_of rfl (by omega) (by omega)) dX1_setEquations_28 ?_
              obtain ⟨q_42, q_42_e, q_42_i, q_42_l⟩ := g_row sg (b := 19) (n := 12) (i := y_12) (by decide) (by decide) rfl (by omega) (by omega)
              rw [q_42_e]
              refine lv_iload_n hx hb dX1_setEquations_29 rfl (lv_at hl 2 rfl) ?_
              refine g_iald C h q_42 (by omega) (g_kd 20 12 1 rfl q_42_l) (n := 3) (g_ln 20 12 3 rfl q_42_l) (vp_of rfl (by omega) (by omega)) dX1_setEquations_30 ?_
              refine lv_topi (fun x_43 e_44 => ?_)
              have hx30 : x_43 = v (20 + (y_12 : Int32).toInt.toNat) (y_2 : Int32).toInt.toNat := by rw [e_44, show q_42 = 20 + (y_12 : Int32).toInt.toNat by omega]; rfl
              have q_45 := i_rng x_43
              refine lv_i2l (v := (x_43 : Int32).toInt64) hx hb dX1_setEquations_31 rfl ?_
              refine lv_aload_n hx hb dX1_setEquations_32 rfl (lv_at hl 0 rfl) ?_
              refine g_get (ci := 1) (x := .ref (G.2.2 (32))) C h 18 (by decide) rfl rfl hi1 1 (by decide) f16 rfl rfl dX1_setEquations_33 ?_
              refine lv_iload hx hb dX1_setEquations_36 (lv_at hl 4 rfl) ?_
              refine g_aald (ty := .array .int) C h 32 (by decide) 0 (by decide) (n := 12) (by decide) rfl rfl (vp_of rfl (by omega) (by omega)) dX1_setEquations_38 ?_
              obtain ⟨q_46, q_46_e, q_46_i, q_46_l⟩ := g_row sg (b := 32) (n := 12) (i := y_12) (by decide) (by decide) rfl (by omega) (by omega)
              rw [q_46_e]
              refine lv_iload_n hx hb dX1_setEquations_39 rfl (lv_at hl 1 rfl) ?_
              refine g_iald C h q_46 (by omega) (g_kd 33 12 1 rfl q_46_l) (n := 3) (g_ln 33 12 3 rfl q_46_l) (vp_of a1 (by omega) (by omega)) dX1_setEquations_40 ?_
              refine lv_topi (fun x_47 e_48 => ?_)
              have hx40 : x_47 = v (33 + (y_12 : Int32).toInt.toNat) A1.toNat := by rw [e_48, cl_nat a1, show q_46 = 33 + (y_12 : Int32).toInt.toNat by omega]
              have q_49 := i_rng x_47
              refine lv_i2l (v := (x_47 : Int32).toInt64) hx hb dX1_setEquations_41 rfl ?_
              refine lv_lmul hx hb dX1_setEquations_42 ?_
              refine lv_topl (fun x_50 e_51 => ?_)
              have hq42 := e_51
              refine lv_ladd hx hb dX1_setEquations_43 ?_
              refine lv_topl (fun x_52 e_53 => ?_)
              refine lv_lstore_n (lv' := [(3, .long (x_52)), (0, .ref (G.2.2 (18))), (1, .int (p1)), (2, .int (y_2)), (5, .int (y_12))]) hx hb dX1_setEquations_44 rfl hl (by decide) rfl (fun ls hl => ?_)
              obtain ⟨x_54, e_55⟩ : ∃ y : Int32, y = y_12 + 1 := ⟨_, rfl⟩
              have i_56 : x_54.toInt = (y_12).toInt + 1 := ia_add e_55 rfl (by decide) (by omega) (by omega)
              refine lv_iinc (v := x_54) (lv' := [(5, .int (x_54)), (3, .long (x_52)), (0, .ref (G.2.2 (18))), (1, .int (p1)), (2, .int (y_2))]) hx hb dX1_setEquations_45 hl (k := 4) rfl (by rw [e_55]; rfl) (by decide) rfl (fun ls hl => ?_)
              refine lv_goto (tgt := 12) hx hb dX1_setEquations_48 (by decide) ?_
              exact ih12 x_52 x_54 _ _ _ (by omega) (by omega) (sr_st f_14 e_53 hq42 hx30 hx40 (by omega) (by omega)) h (lv_sub hl [2, 3, 4, 1, 0] rfl)
        refine lv_istore (lv' := [(5, .int (0)), (3, .long (0)), (0, .ref (G.2.2 (18))), (1, .int (p1)), (2, .int (y_2))]) hx hb dX1_setEquations_10 hl (by decide) rfl (fun ls hl => ?_)
        exact J12_12 _ 0 0 _ _ _ (Nat.lt_succ_self _) (by omega) rfl h (lv_sub hl [2, 3, 4, 1, 0] rfl)
  refine lv_istore_n (lv' := [(2, .int (0)), (0, .ref (G.2.2 (18))), (1, .int (p1))]) hx hb dX1_setEquations_1 rfl hl (by decide) rfl (fun ls hl => ?_)
  exact J2_3 _ 0 w _ _ _ (Nat.lt_succ_self _) ci fC_rf (by omega) eqP_0 h (lv_sub hl [1, 2, 0] rfl)

set_option maxHeartbeats 4000000 in
set_option maxRecDepth 100000 in
theorem c_X1_partOfFit (l : Launch) (G : gG) (v : Nat → Nat → Int32) (w : Nat → Nat → Int64) (sg : Nat → Nat) (p1 : Int32) {A1 : Int} (a1 : p1.toInt = A1) (p2 : Int32) {A2 : Int} (a2 : p2.toInt = A2) (p3 : Int32) {A3 : Int} (a3 : p3.toInt = A3) (b1 : 0 ≤ A1 ∧ A1 ≤ 2) (b2 : 0 ≤ A2 ∧ A2 ≤ 2) (ci : cI v) : Met l yX1_partOfFit wsX1_partOfFit ({ frames := 2, cells := 0, slots := 0, locals := 51 }) (gPre G v w sg [.ref (G.2.2 (18)), .int (p1), .int (p2), .int (p3)]) (gQl G (fun r v' w' sg' => (cI v ∧ fC 18 51 v w v w' ∧ ftC (dsN (cfL v) 3) (fNm (cfL v) (cfR v A1.toNat) A2.toNat) A3 r) ∧ v = v' ∧ sg = sg')) 0 0 (gA G) := by
  refine gM_ofl (cc := cX1_partOfFit) (maxL := 12) (by decide) rfl (Nat.le_of_ble_eq_true rfl) ?_
  intro p e R s m args below meth c Q ls C hR ret h hl
  have hx := C.1.1
  have hb := C.1.2.1
  have hown := C.1.2.2.2.1
  have hts := C.1.2.2.2.2
  have hl : lv_has ls 12 [(0, .ref (G.2.2 (18))), (1, .int (p1)), (2, .int (p2)), (3, .int (p3))] := hl
  have q1 := i_rng p1; rw [a1] at q1
  have q2 := i_rng p2; rw [a2] at q2
  have q3 := i_rng p3; rw [a3] at q3
  have z_m1 : ((-1) : Int32).toInt = (-1) := by decide
  have z_0 : (0 : Int32).toInt = 0 := by decide
  have z_1 : (1 : Int32).toInt = 1 := by decide
  have f26 : Cond.fieldLink RX1 26 "WindHall$Calibration" "equations" "LWindHall$Equations;" ∈ wsX1_partOfFit := by decide +kernel
  have hi1 : ∀ x ∈ u_ws RX1 TX1 4, x ∈ wsX1_partOfFit := fun x q => List.mem_cons_of_mem _ (List.mem_append_left _ (List.mem_append_right _ q))
  have k38 : (Cond.constantLong RX1 38 (100)).before args s = true := hts _ (by decide +kernel)
  have o_1 := ci
  obtain ⟨K1, K2, K3, K4, K5, K6, K7, Ks, K9, Ka, Kr, Kz⟩ := o_1
  refine lv_aload_n hx hb dX1_partOfFit_0 rfl (lv_at hl 0 rfl) ?_
  refine lv_iload_n hx hb dX1_partOfFit_1 rfl (lv_at hl 1 rfl) ?_
  refine g_callv C (va_runV (As := [.int (p1)]) (rest := []) C.1 (c_X1_setEquations l G v w sg p1 (A1 := A1) a1 (by omega) ci) (cwV 1 hts gX1_partOfFit_X1_setEquations rfl rfl rfl (by decide +kernel) ⟨by rw [hR]; exact Nat.le_of_ble_eq_true rfl, by rw [hR]; exact Nat.le_of_ble_eq_true rfl⟩) ⟨gPre_blind, g_recv C h 18 (by decide) (ci := 1) rfl rfl, gS_pre C h _⟩ rfl rfl hl.1 rfl (lv_room (Nat.le_of_ble_eq_true rfl)) dX1_partOfFit_2 ⟨Nat.zero_le _, Nat.zero_le _⟩) h (fun v_4 w_5 g_6 H locs p_3 h => ?_)
  obtain ⟨p_3, rfl, rfl⟩ := p_3
  have u_7 : cI v := p_3.1
  have u_8 : fC 18 51 v w v w_5 := fC_tr fC_rf (fC_le p_3.2.1 (by decide))
  have o_9 := u_7
  obtain ⟨K1, K2, K3, K4, K5, K6, K7, Ks, K9, Ka, Kr, Kz⟩ := o_9
  have heq := p_3.2.2
  refine lv_aload_n hx hb dX1_partOfFit_5 rfl (lv_at hl 0 rfl) ?_
  refine g_get (ci := 1) (x := .ref (G.2.2 (45))) C h 18 (by decide) rfl rfl hi1 3 (by decide) f26 rfl rfl dX1_partOfFit_6 ?_
  refine lv_iconst (v := (-1)) hx hb dX1_partOfFit_9 (by decide) ?_
  refine g_calll C (va_runV (As := [.int ((-1))]) (rest := []) C.1 (c_X4_determinant_45 l G v w_5 sg ((-1)) (A1 := (-1)) (by decide) u_7) (cwV 1 hts gX1_partOfFit_X4_determinant rfl rfl rfl (by decide +kernel) ⟨by rw [hR]; exact Nat.le_of_ble_eq_true rfl, by rw [hR]; exact Nat.le_of_ble_eq_true rfl⟩) ⟨gPre_blind, g_recv C h 45 (by decide) (ci := 4) rfl rfl, gS_pre C h _⟩ rfl rfl hl.1 rfl (lv_room (Nat.le_of_ble_eq_true rfl)) dX1_partOfFit_10 ⟨Nat.zero_le _, Nat.zero_le _⟩) h (fun r_10 v_12 w_13 g_14 H locs p_11 h => ?_)
  obtain ⟨p_11, rfl, rfl, rfl⟩ := p_11
  have hd10 : r_10 = (dsN (cfL v) 3) := p_11.trans (dt_c heq)
  have hi10 : (r_10).toInt = (dsN (cfL v) 3).toInt := by rw [hd10]
  refine lv_lstore (lv' := [(4, .long (r_10)), (0, .ref (G.2.2 (18))), (1, .int (p1)), (2, .int (p2)), (3, .int (p3))]) hx hb dX1_partOfFit_13 hl (by decide) rfl (fun ls hl => ?_)
  refine lv_lload hx hb dX1_partOfFit_15 (lv_at hl 0 rfl) ?_
  refine lv_lconst (v := 0) hx hb dX1_partOfFit_17 (by decide) ?_
  refine W.lcmp hx hb dX1_partOfFit_18 ?_
  refine lv_if_gt (tgt := 24) hx hb dX1_partOfFit_19 (by decide) (fun c_15 => ?_) (fun c_15 => ?_)
  · have j_16 : 0 < (r_10).toInt := (l_gt0 rfl (by decide)).mp c_15
    refine lv_aload_n hx hb dX1_partOfFit_24 rfl (lv_at hl 1 rfl) ?_
    refine g_get (ci := 1) (x := .ref (G.2.2 (45))) C h 18 (by decide) rfl rfl hi1 3 (by decide) f26 rfl rfl dX1_partOfFit_25 ?_
    refine lv_iload_n hx hb dX1_partOfFit_28 rfl (lv_at hl 3 rfl) ?_
    refine g_calll C (va_runV (As := [.int (p2)]) (rest := []) C.1 (c_X4_determinant_45 l G v w_5 sg p2 (A1 := A2) a2 u_7) (cwV 1 hts gX1_partOfFit_X4_determinant rfl rfl rfl (by decide +kernel) ⟨by rw [hR]; exact Nat.le_of_ble_eq_true rfl, by rw [hR]; exact Nat.le_of_ble_eq_true rfl⟩) ⟨gPre_blind, g_recv C h 45 (by decide) (ci := 4) rfl rfl, gS_pre C h _⟩ rfl rfl hl.1 rfl (lv_room (Nat.le_of_ble_eq_true rfl)) dX1_partOfFit_29 ⟨Nat.zero_le _, Nat.zero_le _⟩) h (fun r_17 v_19 w_20 g_21 H locs p_18 h => ?_)
    obtain ⟨p_18, rfl, rfl, rfl⟩ := p_18
    have hd29 : r_17 = (fNm (cfL v) (cfR v A1.toNat) A2.toNat) := p_18.trans (nm_c heq (by omega))
    refine lv_lstore (lv' := [(6, .long (r_17)), (4, .long (r_10)), (0, .ref (G.2.2 (18))), (1, .int (p1)), (2, .int (p2)), (3, .int (p3))]) hx hb dX1_partOfFit_32 hl (by decide) rfl (fun ls hl => ?_)
    refine lv_ldc2 hx hb hown k38 dX1_partOfFit_34 ?_
    refine lv_lload hx hb dX1_partOfFit_37 (lv_at hl 1 rfl) ?_
    refine lv_lmul hx hb dX1_partOfFit_39 ?_
    refine lv_topl (fun x_22 e_23 => ?_)
    have he39 := e_23
    refine lv_lstore (lv' := [(8, .long (x_22)), (6, .long (r_17)), (4, .long (r_10)), (0, .ref (G.2.2 (18))), (1, .int (p1)), (2, .int (p2)), (3, .int (p3))]) hx hb dX1_partOfFit_40 hl (by decide) rfl (fun ls hl => ?_)
    refine lv_lload hx hb dX1_partOfFit_42 (lv_at hl 0 rfl) ?_
    refine lv_lload hx hb dX1_partOfFit_44 (lv_at hl 1 rfl) ?_
    refine va_mabs_long hx hb (C.1.2.2.1.trans hl.1.symm) hown (hts (.methodLink RX1 40 Lib.MathLoose.abs_long.x) (by decide +kernel)) (hts (.static Lib.MathLoose.abs_long.x) (by decide +kernel)) (hts (.initialized "java/lang/Math") (by decide +kernel)) (hts (.code Lib.MathLoose.abs_long.x Lib.MathLoose.abs_long.code 2 (some .long)) (by decide +kernel)) (by rw [hR]; exact Nat.le_of_ble_eq_true rfl) (by rw [hR]; exact Nat.le_of_ble_eq_true rfl) (Nat.zero_le _) (Nat.zero_le _) dX1_partOfFit_46 ?_
    refine lv_topl (fun x_24 e_25 => ?_)
    have ha46 := e_25
    refine g_calll C (va_runS (As := [.long (x_22), .long (x_24)]) (rest := []) C.1 (c_X1_commonDivisor l G v w_5 sg x_22 (A0 := (x_22).toInt) rfl x_24 (A2 := (x_24).toInt) rfl) (va_cwS 2 hts gX1_partOfFit_X1_commonDivisor rfl rfl rfl (by decide +kernel) ⟨by rw [hR]; exact Nat.le_of_ble_eq_true rfl, by rw [hR]; exact Nat.le_of_ble_eq_true rfl⟩) ⟨gPre_blind, gS_pre C h _⟩ rfl rfl hl.1 rfl (lv_room (Nat.le_of_ble_eq_true rfl)) dX1_partOfFit_49 ⟨Nat.zero_le _, Nat.zero_le _⟩) h (fun r_26 v_28 w_29 g_30 H locs p_27 h => ?_)
    obtain ⟨p_27, rfl, rfl, rfl⟩ := p_27
    have hgc : gcP (100 * (dsN (cfL v) 3)).toInt (lab (fNm (cfL v) (cfR v A1.toNat) A2.toNat)).toInt (r_26).toInt := by have hq := p_27; rw [he39, hd10, ha46, hd29] at hq; exact hq
    refine lv_lstore (lv' := [(10, .long (r_26)), (8, .long (x_22)), (6, .long (r_17)), (4, .long (r_10)), (0, .ref (G.2.2 (18))), (1, .int (p1)), (2, .int (p2)), (3, .int (p3))]) hx hb dX1_partOfFit_52 hl (by decide) rfl (fun ls hl => ?_)
    refine lv_lload hx hb dX1_partOfFit_54 (lv_at hl 0 rfl) ?_
    refine lv_lconst (v := 0) hx hb dX1_partOfFit_56 (by decide) ?_
    refine W.lcmp hx hb dX1_partOfFit_57 ?_
    refine lv_if_gt (tgt := 63) hx hb dX1_partOfFit_58 (by decide) (fun c_31 => ?_) (fun c_31 => ?_)
    · have j_32 : 0 < (r_26).toInt := (l_gt0 rfl (by decide)).mp c_31
      refine lv_iload_n hx hb dX1_partOfFit_63 rfl (lv_at hl 7 rfl) ?_
      refine lv_if_eq (tgt := 75) hx hb dX1_partOfFit_64 (by decide) (fun c_33 => ?_) (fun c_33 => ?_)
      · have j_34 : A3 = 0 := (i_eq a3 (by decide)).mp c_33
        refine lv_lload hx hb dX1_partOfFit_75 (lv_at hl 1 rfl) ?_
        refine lv_lload hx hb dX1_partOfFit_77 (lv_at hl 0 rfl) ?_
        refine lv_ldiv hx hb dX1_partOfFit_79 (l_ne0 rfl (by omega)) ?_
        refine lv_topl (fun x_35 e_36 => ?_)
        exact ret x_35 v w_5 sg _ _ _ _ dX1_partOfFit_80 h ⟨⟨u_7, u_8, Or.inr ⟨by omega, _, hgc, Or.inr ⟨by omega, Or.inl ⟨by omega, by rw [e_36, he39, hd10]⟩⟩⟩⟩, rfl, rfl⟩
      · have j_34 : ¬ (A3 = 0) := fun q => c_33 ((i_eq a3 (by decide)).mpr q)
        refine lv_lload hx hb dX1_partOfFit_67 (lv_at hl 2 rfl) ?_
        refine lv_lload hx hb dX1_partOfFit_69 (lv_at hl 0 rfl) ?_
        refine lv_ldiv hx hb dX1_partOfFit_71 (l_ne0 rfl (by omega)) ?_
        refine lv_topl (fun x_37 e_38 => ?_)
        refine lv_goto (tgt := 80) hx hb dX1_partOfFit_72 (by decide) ?_
        exact ret x_37 v w_5 sg _ _ _ _ dX1_partOfFit_80 h ⟨⟨u_7, u_8, Or.inr ⟨by omega, _, hgc, Or.inr ⟨by omega, Or.inr ⟨by omega, by rw [e_38, hd29]⟩⟩⟩⟩, rfl, rfl⟩
    · have j_32 : ¬ (0 < (r_26).toInt) := fun q => c_31 ((l_gt0 rfl (by decide)).mpr q)
      refine lv_lconst (v := 0) hx hb dX1_partOfFit_61 (by decide) ?_
      exact ret 0 v w_5 sg _ _ _ _ dX1_partOfFit_62 h ⟨⟨u_7, u_8, Or.inr ⟨by omega, _, hgc, Or.inl ⟨by omega, rfl⟩⟩⟩, rfl, rfl⟩
  · have j_16 : ¬ (0 < (r_10).toInt) := fun q => c_15 ((l_gt0 rfl (by decide)).mpr q)
    refine lv_lconst (v := 0) hx hb dX1_partOfFit_22 (by decide) ?_
    exact ret 0 v w_5 sg _ _ _ _ dX1_partOfFit_23 h ⟨⟨u_7, u_8, Or.inl ⟨by omega, rfl⟩⟩, rfl, rfl⟩

set_option maxHeartbeats 4000000 in
set_option maxRecDepth 100000 in
theorem c_X1_greatestMiss (l : Launch) (G : gG) (v : Nat → Nat → Int32) (w : Nat → Nat → Int64) (sg : Nat → Nat) (p1 : Int32) {A1 : Int} (a1 : p1.toInt = A1) (b1 : 0 ≤ A1 ∧ A1 ≤ 2) (ci : cI v) : Met l yX1_greatestMiss wsX1_greatestMiss ({ frames := 2, cells := 0, slots := 0, locals := 50 }) (gPre G v w sg [.ref (G.2.2 (18)), .int (p1), .ref (G.2.2 (1))]) (gQi G (fun r v' w' sg' => (r = msC v A1.toNat (v 18 2).toInt.toNat) ∧ v = v' ∧ w = w' ∧ sg = sg')) 0 0 (gA G) := by
  refine gM_ofi (cc := cX1_greatestMiss) (maxL := 7) (by decide) rfl (Nat.le_of_ble_eq_true rfl) ?_
  intro p e R s m args below meth c Q ls C hR ret h hl
  have hx := C.1.1
  have hb := C.1.2.1
  have hown := C.1.2.2.2.1
  have hts := C.1.2.2.2.2
  have hl : lv_has ls 7 [(0, .ref (G.2.2 (18))), (1, .int (p1)), (2, .ref (G.2.2 (1)))] := hl
  have q1 := i_rng p1; rw [a1] at q1
  have z_0 : (0 : Int32).toInt = 0 := by decide
  have z_1 : (1 : Int32).toInt = 1 := by decide
  have z_2 : (2 : Int32).toInt = 2 := by decide
  have f19 : Cond.fieldLink RX1 19 "WindHall$Calibration" "count" "I" ∈ wsX1_greatestMiss := by decide +kernel
  have hi1 : ∀ x ∈ u_ws RX1 TX1 4, x ∈ wsX1_greatestMiss := fun x q => List.mem_cons_of_mem _ (List.mem_append_left _ (List.mem_append_right _ q))
  have f13 : Cond.fieldLink RX1 13 "WindHall$Calibration" "loads" "[[I" ∈ wsX1_greatestMiss := by decide +kernel
  have f16 : Cond.fieldLink RX1 16 "WindHall$Calibration" "readings" "[[I" ∈ wsX1_greatestMiss := by decide +kernel
  have o_1 := ci
  obtain ⟨K1, K2, K3, K4, K5, K6, K7, Ks, K9, Ka, Kr, Kz⟩ := o_1
  refine lv_iconst (v := 0) hx hb dX1_greatestMiss_0 (by decide) ?_
  refine lv_istore_n (lv' := [(3, .int (0)), (0, .ref (G.2.2 (18))), (1, .int (p1)), (2, .ref (G.2.2 (1)))]) hx hb dX1_greatestMiss_1 rfl hl (by decide) rfl (fun ls hl => ?_)
  refine lv_iconst (v := 0) hx hb dX1_greatestMiss_2 (by decide) ?_
  have J5_3 : ∀ (n : Nat) (y_2 : Int32) (y_3 : Int32) (H : Heap) (locs : List Loc) (ls : Array Slot), ((v 18 2).toInt - (y_3).toInt).toNat < n → (0 ≤ (y_3).toInt ∧ (y_3).toInt ≤ (v 18 2).toInt) → (y_2 = msC v A1.toNat ((y_3).toInt).toNat) → gS (gA G) G s v w sg H locs → lv_has ls 7 [(0, .ref (G.2.2 (18))), (1, .int (p1)), (2, .ref (G.2.2 (1))), (3, .int (y_2)), (4, .int (y_3))] → W p l e R s m args below meth c H locs 0 0 Q (F0 m 5 ls []) := by
    intro n
    induction n with
    | zero => intro y_2 y_3 H locs ls hm; exact absurd hm (Nat.not_lt_zero _)
    | succ n ih5 =>
      intro y_2 y_3 H locs ls hm f_4 f_5 h hl
      refine lv_iload hx hb dX1_greatestMiss_5 (lv_at hl 4 rfl) ?_
      refine lv_aload_n hx hb dX1_greatestMiss_7 rfl (lv_at hl 0 rfl) ?_
      refine g_geti (ci := 1) (x := v 18 2) C h 18 (by decide) rfl rfl hi1 2 (by decide) f19 rfl rfl rfl dX1_greatestMiss_8 ?_
      refine lv_icmp_ge (tgt := 68) hx hb dX1_greatestMiss_11 (by decide) (fun c_6 => ?_) (fun c_6 => ?_)
      · have j_7 : (v 18 2).toInt ≤ (y_3).toInt := (i_le rfl rfl).mp c_6
        refine lv_iload_n hx hb dX1_greatestMiss_68 rfl (lv_at hl 3 rfl) ?_
        exact ret y_2 v w sg _ _ _ _ dX1_greatestMiss_69 h ⟨(by rw [show (v 18 2).toInt = (y_3).toInt by omega]; exact f_5), rfl, rfl, rfl⟩
      · have j_7 : ¬ ((v 18 2).toInt ≤ (y_3).toInt) := fun q => c_6 ((i_le rfl rfl).mpr q)
        refine lv_aload_n hx hb dX1_greatestMiss_14 rfl (lv_at hl 0 rfl) ?_
        refine g_get (ci := 1) (x := .ref (G.2.2 (19))) C h 18 (by decide) rfl rfl hi1 0 (by decide) f13 rfl rfl dX1_greatestMiss_15 ?_
        refine lv_iload hx hb dX1_greatestMiss_18 (lv_at hl 4 rfl) ?_
        refine g_aald (ty := .array .int) C h 19 (by decide) 0 (by decide) (n := 12) (by decide) rfl rfl (vp_of rfl (by omega) (by omega)) dX1_greatestMiss_20 ?_
        obtain ⟨q_8, q_8_e, q_8_i, q_8_l⟩ := g_row sg (b := 19) (n := 12) (i := y_3) (by decide) (by decide) rfl (by omega) (by omega)
        rw [q_8_e]
        refine lv_astore (lv' := [(5, .ref (G.2.2 (q_8))), (0, .ref (G.2.2 (18))), (1, .int (p1)), (2, .ref (G.2.2 (1))), (3, .int (y_2)), (4, .int (y_3))]) hx hb dX1_greatestMiss_21 hl (by decide) rfl (fun ls hl => ?_)
        refine lv_aload_n hx hb dX1_greatestMiss_23 rfl (lv_at hl 1 rfl) ?_
        refine g_get (ci := 1) (x := .ref (G.2.2 (32))) C h 18 (by decide) rfl rfl hi1 1 (by decide) f16 rfl rfl dX1_greatestMiss_24 ?_
        refine lv_iload hx hb dX1_greatestMiss_27 (lv_at hl 5 rfl) ?_
        refine g_aald (ty := .array .int) C h 32 (by decide) 0 (by decide) (n := 12) (by decide) rfl rfl (vp_of rfl (by omega) (by omega)) dX1_greatestMiss_29 ?_
        obtain ⟨q_9, q_9_e, q_9_i, q_9_l⟩ := g_row sg (b := 32) (n := 12) (i := y_3) (by decide) (by decide) rfl (by omega) (by omega)
        rw [q_9_e]
        refine lv_iload_n hx hb dX1_greatestMiss_30 rfl (lv_at hl 2 rfl) ?_
        refine g_iald C h q_9 (by omega) (g_kd 33 12 1 rfl q_9_l) (n := 3) (g_ln 33 12 3 rfl q_9_l) (vp_of a1 (by omega) (by omega)) dX1_greatestMiss_31 ?_
        refine lv_topi (fun x_10 e_11 => ?_)
        have hx31 : x_10 = v (33 + (y_3 : Int32).toInt.toNat) A1.toNat := by rw [e_11, show q_9 = 33 + (y_3 : Int32).toInt.toNat by omega, cl_nat a1]
        refine lv_aload_n hx hb dX1_greatestMiss_32 rfl (lv_at hl 3 rfl) ?_
        refine lv_iload_n hx hb dX1_greatestMiss_33 rfl (lv_at hl 2 rfl) ?_
        refine lv_aload hx hb dX1_greatestMiss_34 (lv_at hl 0 rfl) ?_
        refine lv_iconst (v := 0) hx hb dX1_greatestMiss_36 (by decide) ?_
        refine g_iald C h q_8 (by omega) (g_kd 20 12 1 rfl q_8_l) (n := 3) (g_ln 20 12 3 rfl q_8_l) (vp_of (I := 0) (by decide) (by decide) (by decide)) dX1_greatestMiss_37 ?_
        refine lv_topi (fun x_12 e_13 => ?_)
        have hx37 : x_12 = v (20 + (y_3 : Int32).toInt.toNat) 0 := by rw [e_13, show q_8 = 20 + (y_3 : Int32).toInt.toNat by omega] <;> rfl
        refine lv_aload hx hb dX1_greatestMiss_38 (lv_at hl 0 rfl) ?_
        refine lv_iconst (v := 1) hx hb dX1_greatestMiss_40 (by decide) ?_
        refine g_iald C h q_8 (by omega) (g_kd 20 12 1 rfl q_8_l) (n := 3) (g_ln 20 12 3 rfl q_8_l) (vp_of (I := 1) (by decide) (by decide) (by decide)) dX1_greatestMiss_41 ?_
        refine lv_topi (fun x_14 e_15 => ?_)
        have hx41 : x_14 = v (20 + (y_3 : Int32).toInt.toNat) 1 := by rw [e_15, show q_8 = 20 + (y_3 : Int32).toInt.toNat by omega] <;> rfl
        refine lv_aload hx hb dX1_greatestMiss_42 (lv_at hl 0 rfl) ?_
        refine lv_iconst (v := 2) hx hb dX1_greatestMiss_44 (by decide) ?_
        refine g_iald C h q_8 (by omega) (g_kd 20 12 1 rfl q_8_l) (n := 3) (g_ln 20 12 3 rfl q_8_l) (vp_of (I := 2) (by decide) (by decide) (by decide)) dX1_greatestMiss_45 ?_
        refine lv_topi (fun x_16 e_17 => ?_)
        have hx45 : x_16 = v (20 + (y_3 : Int32).toInt.toNat) 2 := by rw [e_17, show q_8 = 20 + (y_3 : Int32).toInt.toNat by omega] <;> rfl
        refine g_calli C (va_runV (As := [.int (p1), .int (x_12), .int (x_14), .int (x_16)]) (rest := [.int (x_10)]) C.1 (c_X0_readingOf l G v w sg p1 (A1 := A1) a1 x_12 (A2 := (x_12).toInt) rfl x_14 (A3 := (x_14).toInt) rfl x_16 (A4 := (x_16).toInt) rfl (by omega) ci) (cwV 4 hts gX1_greatestMiss_X0_readingOf rfl rfl rfl (by decide +kernel) ⟨by rw [hR]; exact Nat.le_of_ble_eq_true rfl, by rw [hR]; exact Nat.le_of_ble_eq_true rfl⟩) ⟨gPre_blind, g_recv C h 1 (by decide) (ci := 0) rfl rfl, gS_pre C h _⟩ rfl rfl hl.1 rfl (lv_room (Nat.le_of_ble_eq_true rfl)) dX1_greatestMiss_46 ⟨Nat.zero_le _, Nat.zero_le _⟩) h (fun r_18 v_20 w_21 g_22 H locs p_19 h => ?_)
        obtain ⟨p_19, rfl, rfl, rfl⟩ := p_19
        have hrc := p_19
        rw [hx37, hx41, hx45] at hrc
        refine lv_isub hx hb dX1_greatestMiss_49 ?_
        refine lv_topi (fun x_23 e_24 => ?_)
        have hs50 := e_24
        refine va_mabs hx hb (C.1.2.2.1.trans hl.1.symm) hown (hts (.methodLink RX1 68 Lib.Math.abs.name) (by decide +kernel)) (hts (.static Lib.Math.abs.name) (by decide +kernel)) (hts (.initialized "java/lang/Math") (by decide +kernel)) (hts (.code Lib.Math.abs.name Lib.Math.abs.code 1 (some .int)) (by decide +kernel)) (by rw [hR]; exact Nat.le_of_ble_eq_true rfl) (by rw [hR]; exact Nat.le_of_ble_eq_true rfl) (Nat.zero_le _) (Nat.zero_le _) dX1_greatestMiss_50 ?_
        refine lv_topi (fun x_25 e_26 => ?_)
        refine lv_istore (lv' := [(6, .int (x_25)), (5, .ref (G.2.2 (q_8))), (0, .ref (G.2.2 (18))), (1, .int (p1)), (2, .ref (G.2.2 (1))), (3, .int (y_2)), (4, .int (y_3))]) hx hb dX1_greatestMiss_53 hl (by decide) rfl (fun ls hl => ?_)
        refine lv_iload_n hx hb dX1_greatestMiss_55 rfl (lv_at hl 5 rfl) ?_
        refine lv_iload hx hb dX1_greatestMiss_56 (lv_at hl 0 rfl) ?_
        refine va_mmax hx hb (C.1.2.2.1.trans hl.1.symm) hown (hts (.methodLink RX1 71 Lib.Math.max.name) (by decide +kernel)) (hts (.static Lib.Math.max.name) (by decide +kernel)) (hts (.initialized "java/lang/Math") (by decide +kernel)) (hts (.code Lib.Math.max.name Lib.Math.max.code 2 (some .int)) (by decide +kernel)) (by rw [hR]; exact Nat.le_of_ble_eq_true rfl) (by rw [hR]; exact Nat.le_of_ble_eq_true rfl) (Nat.zero_le _) (Nat.zero_le _) dX1_greatestMiss_58 ?_
        refine lv_topi (fun x_27 e_28 => ?_)
        refine lv_istore_n (lv' := [(3, .int (x_27)), (6, .int (x_25)), (5, .ref (G.2.2 (q_8))), (0, .ref (G.2.2 (18))), (1, .int (p1)), (2, .ref (G.2.2 (1))), (4, .int (y_3))]) hx hb dX1_greatestMiss_61 rfl hl (by decide) rfl (fun ls hl => ?_)
        obtain ⟨x_29, e_30⟩ : ∃ y : Int32, y = y_3 + 1 := ⟨_, rfl⟩
        have i_31 : x_29.toInt = (y_3).toInt + 1 := ia_add e_30 rfl (by decide) (by omega) (by omega)
        refine lv_iinc (v := x_29) (lv' := [(4, .int (x_29)), (3, .int (x_27)), (6, .int (x_25)), (5, .ref (G.2.2 (q_8))), (0, .ref (G.2.2 (18))), (1, .int (p1)), (2, .ref (G.2.2 (1)))]) hx hb dX1_greatestMiss_62 hl (k := 6) rfl (by rw [e_30]; rfl) (by decide) rfl (fun ls hl => ?_)
        refine lv_goto (tgt := 5) hx hb dX1_greatestMiss_65 (by decide) ?_
        exact ih5 x_27 x_29 _ _ _ (by omega) (by omega) (msC_st f_5 e_28 e_26 hs50 hx31 hrc (by omega)) h (lv_sub hl [4, 5, 6, 1, 0] rfl)
  refine lv_istore (lv' := [(4, .int (0)), (3, .int (0)), (0, .ref (G.2.2 (18))), (1, .int (p1)), (2, .ref (G.2.2 (1)))]) hx hb dX1_greatestMiss_3 hl (by decide) rfl (fun ls hl => ?_)
  exact J5_3 _ 0 0 _ _ _ (Nat.lt_succ_self _) (by omega) rfl h (lv_sub hl [2, 3, 4, 1, 0] rfl)

set_option maxHeartbeats 4000000 in
set_option maxRecDepth 100000 in
theorem c_X9_fit (l : Launch) (G : gG) (v : Nat → Nat → Int32) (w : Nat → Nat → Int64) (sg : Nat → Nat) (p1 : Int32) {A1 : Int} (a1 : p1.toInt = A1) (p2 : Int32) {A2 : Int} (a2 : p2.toInt = A2) (p3 : Int32) {A3 : Int} (a3 : p3.toInt = A3) (ci : cI v) : Met l yX9_fit wsX9_fit ({ frames := 3, cells := 0, slots := 0, locals := 82 }) (gPre G v w sg [.ref (G.2.2 (0)), .int (p1), .int (p2), .int (p3)]) (gQl G (fun r v' w' sg' => (cI v ∧ fC 18 51 v w v w' ∧ ((¬ ((0 ≤ A1 ∧ A1 ≤ 2) ∧ (0 ≤ A2 ∧ A2 ≤ 2) ∧ (0 ≤ A3 ∧ A3 ≤ 1)) ∧ r = -1000000000000) ∨ (((0 ≤ A1 ∧ A1 ≤ 2) ∧ (0 ≤ A2 ∧ A2 ≤ 2) ∧ (0 ≤ A3 ∧ A3 ≤ 1)) ∧ ftC (dsN (cfL v) 3) (fNm (cfL v) (cfR v A1.toNat) A2.toNat) (if A3 = 0 then 1 else 0) r))) ∧ v = v' ∧ sg = sg')) 0 0 (gA G) := by
  refine gM_ofl (cc := cX9_fit) (maxL := 4) (by decide) rfl (Nat.le_of_ble_eq_true rfl) ?_
  intro p e R s m args below meth c Q ls C hR ret h hl
  have hx := C.1.1
  have hb := C.1.2.1
  have hown := C.1.2.2.2.1
  have hts := C.1.2.2.2.2
  have hl : lv_has ls 4 [(0, .ref (G.2.2 (0))), (1, .int (p1)), (2, .int (p2)), (3, .int (p3))] := hl
  have q1 := i_rng p1; rw [a1] at q1
  have q2 := i_rng p2; rw [a2] at q2
  have q3 := i_rng p3; rw [a3] at q3
  have z_0 : (0 : Int32).toInt = 0 := by decide
  have z_1 : (1 : Int32).toInt = 1 := by decide
  have z_2 : (2 : Int32).toInt = 2 := by decide
  have z_3 : (3 : Int32).toInt = 3 := by decide
  have f19 : Cond.fieldLink RX9 19 "WindHall" "calibration" "LWindHall$Calibration;" ∈ wsX9_fit := by decide +kernel
  have hi9 : ∀ x ∈ u_ws RX9 TX9 7, x ∈ wsX9_fit := fun x q => List.mem_cons_of_mem _ (List.mem_append_left _ (List.mem_append_left _ (List.mem_append_right _ q)))
  have k112 : (Cond.constantLong RX9 112 (-1000000000000)).before args s = true := hts _ (by decide +kernel)
  have o_1 := ci
  obtain ⟨K1, K2, K3, K4, K5, K6, K7, Ks, K9, Ka, Kr, Kz⟩ := o_1
  refine lv_iload_n hx hb dX9_fit_0 rfl (lv_at hl 1 rfl) ?_
  refine lv_iconst (v := 3) hx hb dX9_fit_1 (by decide) ?_
  refine g_calli C (va_runS (As := [.int (p1), .int (3)]) (rest := []) C.1 (c_X9_isIndex l G v w sg p1 (A0 := A1) a1 (3) (A1 := 3) (by decide)) (va_cwS 2 hts gX9_fit_X9_isIndex rfl rfl rfl (by decide +kernel) ⟨by rw [hR]; exact Nat.le_of_ble_eq_true rfl, by rw [hR]; exact Nat.le_of_ble_eq_true rfl⟩) ⟨gPre_blind, gS_pre C h _⟩ rfl rfl hl.1 rfl (lv_room (Nat.le_of_ble_eq_true rfl)) dX9_fit_2 ⟨Nat.zero_le _, Nat.zero_le _⟩) h (fun r_2 v_4 w_5 g_6 H locs p_3 h => ?_)
  obtain ⟨p_3, rfl, rfl, rfl⟩ := p_3
  rcases p_3 with ⟨rfl, t_7⟩ | ⟨rfl, t_7⟩
  · skip
    refine lv_if_eq (tgt := 24) hx hb dX9_fit_5 (by decide) (fun c_8 => absurd c_8 (by decide)) (fun _ => ?_)
    refine lv_iload_n hx hb dX9_fit_8 rfl (lv_at hl 2 rfl) ?_
    refine lv_iconst (v := 3) hx hb dX9_fit_9 (by decide) ?_
    refine g_calli C (va_runS (As := [.int (p2), .int (3)]) (rest := []) C.1 (c_X9_isIndex l G v w sg p2 (A0 := A2) a2 (3) (A1 := 3) (by decide)) (va_cwS 2 hts gX9_fit_X9_isIndex rfl rfl rfl (by decide +kernel) ⟨by rw [hR]; exact Nat.le_of_ble_eq_true rfl, by rw [hR]; exact Nat.le_of_ble_eq_true rfl⟩) ⟨gPre_blind, gS_pre C h _⟩ rfl rfl hl.1 rfl (lv_room (Nat.le_of_ble_eq_true rfl)) dX9_fit_10 ⟨Nat.zero_le _, Nat.zero_le _⟩) h (fun r_9 v_11 w_12 g_13 H locs p_10 h => ?_)
    obtain ⟨p_10, rfl, rfl, rfl⟩ := p_10
    rcases p_10 with ⟨rfl, t_14⟩ | ⟨rfl, t_14⟩
    · skip
      refine lv_if_eq (tgt := 24) hx hb dX9_fit_13 (by decide) (fun c_15 => absurd c_15 (by decide)) (fun _ => ?_)
      refine lv_iload_n hx hb dX9_fit_16 rfl (lv_at hl 3 rfl) ?_
      refine lv_iconst (v := 2) hx hb dX9_fit_17 (by decide) ?_
      refine g_calli C (va_runS (As := [.int (p3), .int (2)]) (rest := []) C.1 (c_X9_isIndex l G v w sg p3 (A0 := A3) a3 (2) (A1 := 2) (by decide)) (va_cwS 2 hts gX9_fit_X9_isIndex rfl rfl rfl (by decide +kernel) ⟨by rw [hR]; exact Nat.le_of_ble_eq_true rfl, by rw [hR]; exact Nat.le_of_ble_eq_true rfl⟩) ⟨gPre_blind, gS_pre C h _⟩ rfl rfl hl.1 rfl (lv_room (Nat.le_of_ble_eq_true rfl)) dX9_fit_18 ⟨Nat.zero_le _, Nat.zero_le _⟩) h (fun r_16 v_18 w_19 g_20 H locs p_17 h => ?_)
      obtain ⟨p_17, rfl, rfl, rfl⟩ := p_17
      rcases p_17 with ⟨rfl, t_21⟩ | ⟨rfl, t_21⟩
      · skip
        refine lv_if_ne (tgt := 28) hx hb dX9_fit_21 (by decide) (fun _ => ?_) (fun c_22 => absurd c_22 (by decide))
        refine lv_aload_n hx hb dX9_fit_28 rfl (lv_at hl 0 rfl) ?_
        refine g_get (ci := 9) (x := .ref (G.2.2 (18))) C h 0 (by decide) rfl rfl hi9 1 (by decide) f19 rfl rfl dX9_fit_29 ?_
        refine lv_iload_n hx hb dX9_fit_32 rfl (lv_at hl 1 rfl) ?_
        refine lv_iload_n hx hb dX9_fit_33 rfl (lv_at hl 2 rfl) ?_
        refine lv_iload_n hx hb dX9_fit_34 rfl (lv_at hl 3 rfl) ?_
        have J43_23 : ∀ (y_23 : Int32) (H : Heap) (locs : List Loc) (ls : Array Slot), ((y_23).toInt = 0 ∨ (y_23).toInt = 1) → ((y_23).toInt = if A3 = 0 then 1 else 0) → gS (gA G) G s v w sg H locs → lv_has ls 4 [(0, .ref (G.2.2 (0))), (1, .int (p1)), (2, .int (p2)), (3, .int (p3))] → W p l e R s m args below meth c H locs 0 0 Q (F0 m 43 ls [.int (y_23), .int (p2), .int (p1), .ref (G.2.2 (18))]) := by
          intro y_23 H locs ls f_24 f_25 h hl
          refine g_calll C (va_runV (As := [.int (p1), .int (p2), .int (y_23)]) (rest := []) C.1 (c_X1_partOfFit l G v w sg p1 (A1 := A1) a1 p2 (A2 := A2) a2 y_23 (A3 := (y_23).toInt) rfl (by omega) (by omega) ci) (cwV 3 hts gX9_fit_X1_partOfFit rfl rfl rfl (by decide +kernel) ⟨by rw [hR]; exact Nat.le_of_ble_eq_true rfl, by rw [hR]; exact Nat.le_of_ble_eq_true rfl⟩) ⟨gPre_blind, g_recv C h 18 (by decide) (ci := 1) rfl rfl, gS_pre C h _⟩ rfl rfl hl.1 rfl (lv_room (Nat.le_of_ble_eq_true rfl)) dX9_fit_43 ⟨Nat.zero_le _, Nat.zero_le _⟩) h (fun r_26 v_28 w_29 g_30 H locs p_27 h => ?_)
          obtain ⟨p_27, rfl, rfl⟩ := p_27
          have u_31 : cI v := p_27.1
          have u_32 : fC 18 51 v w v w_29 := fC_tr fC_rf (fC_le p_27.2.1 (by decide))
          have o_33 := u_31
          obtain ⟨K1, K2, K3, K4, K5, K6, K7, Ks, K9, Ka, Kr, Kz⟩ := o_33
          exact ret r_26 v w_29 sg _ _ _ _ dX9_fit_46 h ⟨⟨u_31, u_32, Or.inr ⟨by omega, (by have hq := p_27.2.2; rw [f_25] at hq; exact hq)⟩⟩, rfl, rfl⟩
        refine lv_if_ne (tgt := 42) hx hb dX9_fit_35 (by decide) (fun c_34 => ?_) (fun c_34 => ?_)
        · have j_35 : ¬ (A3 = 0) := fun q => c_34 ((i_eq a3 (by decide)).mpr q)
          refine lv_iconst (v := 0) hx hb dX9_fit_42 (by decide) ?_
          exact J43_23 0 _ _ _ (by omega) (by first | (rw [if_pos (by omega)]; decide) | (rw [if_neg (by omega)]; decide)) h (lv_sub hl [0, 1, 2, 3] rfl)
        · have j_35 : A3 = 0 := (i_eq a3 (by decide)).mp c_34
          refine lv_iconst (v := 1) hx hb dX9_fit_38 (by decide) ?_
          refine lv_goto (tgt := 43) hx hb dX9_fit_39 (by decide) ?_
          exact J43_23 1 _ _ _ (by omega) (by first | (rw [if_pos (by omega)]; decide) | (rw [if_neg (by omega)]; decide)) h (lv_sub hl [0, 1, 2, 3] rfl)
      · skip
        refine lv_if_ne (tgt := 28) hx hb dX9_fit_21 (by decide) (fun c_36 => absurd (by decide) c_36) (fun _ => ?_)
        refine lv_ldc2 hx hb hown k112 dX9_fit_24 ?_
        exact ret (-1000000000000) v w sg _ _ _ _ dX9_fit_27 h ⟨⟨ci, fC_rf, Or.inl ⟨by omega, rfl⟩⟩, rfl, rfl⟩
    · skip
      refine lv_if_eq (tgt := 24) hx hb dX9_fit_13 (by decide) (fun _ => ?_) (fun c_37 => absurd (by decide) c_37)
      refine lv_ldc2 hx hb hown k112 dX9_fit_24 ?_
      exact ret (-1000000000000) v w sg _ _ _ _ dX9_fit_27 h ⟨⟨ci, fC_rf, Or.inl ⟨by omega, rfl⟩⟩, rfl, rfl⟩
  · skip
    refine lv_if_eq (tgt := 24) hx hb dX9_fit_5 (by decide) (fun _ => ?_) (fun c_38 => absurd (by decide) c_38)
    refine lv_ldc2 hx hb hown k112 dX9_fit_24 ?_
    exact ret (-1000000000000) v w sg _ _ _ _ dX9_fit_27 h ⟨⟨ci, fC_rf, Or.inl ⟨by omega, rfl⟩⟩, rfl, rfl⟩

set_option maxHeartbeats 4000000 in
set_option maxRecDepth 100000 in
theorem c_X9_miss (l : Launch) (G : gG) (v : Nat → Nat → Int32) (w : Nat → Nat → Int64) (sg : Nat → Nat) (p1 : Int32) {A1 : Int} (a1 : p1.toInt = A1) (ci : cI v) : Met l yX9_miss wsX9_miss ({ frames := 3, cells := 0, slots := 0, locals := 76 }) (gPre G v w sg [.ref (G.2.2 (0)), .int (p1)]) (gQi G (fun r v' w' sg' => (((¬ (0 ≤ A1 ∧ A1 ≤ 2) ∧ r = -1) ∨ ((0 ≤ A1 ∧ A1 ≤ 2) ∧ (v 18 2).toInt = 0 ∧ r = -4) ∨ ((0 ≤ A1 ∧ A1 ≤ 2) ∧ (v 18 2).toInt ≠ 0 ∧ r = msC v A1.toNat (v 18 2).toInt.toNat))) ∧ v = v' ∧ w = w' ∧ sg = sg')) 0 0 (gA G) := by
  refine gM_ofi (cc := cX9_miss) (maxL := 2) (by decide) rfl (Nat.le_of_ble_eq_true rfl) ?_
  intro p e R s m args below meth c Q ls C hR ret h hl
  have hx := C.1.1
  have hb := C.1.2.1
  have hown := C.1.2.2.2.1
  have hts := C.1.2.2.2.2
  have hl : lv_has ls 2 [(0, .ref (G.2.2 (0))), (1, .int (p1))] := hl
  have q1 := i_rng p1; rw [a1] at q1
  have z_m4 : ((-4) : Int32).toInt = (-4) := by decide
  have z_m1 : ((-1) : Int32).toInt = (-1) := by decide
  have z_0 : (0 : Int32).toInt = 0 := by decide
  have z_1 : (1 : Int32).toInt = 1 := by decide
  have z_3 : (3 : Int32).toInt = 3 := by decide
  have f19 : Cond.fieldLink RX9 19 "WindHall" "calibration" "LWindHall$Calibration;" ∈ wsX9_miss := by decide +kernel
  have hi9 : ∀ x ∈ u_ws RX9 TX9 7, x ∈ wsX9_miss := fun x q => List.mem_cons_of_mem _ (List.mem_append_left _ (List.mem_append_left _ (List.mem_append_right _ q)))
  have f99 : Cond.fieldLink RX9 99 "WindHall$Calibration" "count" "I" ∈ wsX9_miss := by decide +kernel
  have hi1 : ∀ x ∈ u_ws RX1 TX1 4, x ∈ wsX9_miss := fun x q => List.mem_cons_of_mem _ (List.mem_append_left _ (List.mem_append_right _ q))
  have f10 : Cond.fieldLink RX9 10 "WindHall" "balance" "LWindHall$Balance;" ∈ wsX9_miss := by decide +kernel
  have o_1 := ci
  obtain ⟨K1, K2, K3, K4, K5, K6, K7, Ks, K9, Ka, Kr, Kz⟩ := o_1
  refine lv_iload_n hx hb dX9_miss_0 rfl (lv_at hl 1 rfl) ?_
  refine lv_iconst (v := 3) hx hb dX9_miss_1 (by decide) ?_
  refine g_calli C (va_runS (As := [.int (p1), .int (3)]) (rest := []) C.1 (c_X9_isIndex l G v w sg p1 (A0 := A1) a1 (3) (A1 := 3) (by decide)) (va_cwS 2 hts gX9_miss_X9_isIndex rfl rfl rfl (by decide +kernel) ⟨by rw [hR]; exact Nat.le_of_ble_eq_true rfl, by rw [hR]; exact Nat.le_of_ble_eq_true rfl⟩) ⟨gPre_blind, gS_pre C h _⟩ rfl rfl hl.1 rfl (lv_room (Nat.le_of_ble_eq_true rfl)) dX9_miss_2 ⟨Nat.zero_le _, Nat.zero_le _⟩) h (fun r_2 v_4 w_5 g_6 H locs p_3 h => ?_)
  obtain ⟨p_3, rfl, rfl, rfl⟩ := p_3
  rcases p_3 with ⟨rfl, t_7⟩ | ⟨rfl, t_7⟩
  · skip
    refine lv_if_ne (tgt := 10) hx hb dX9_miss_5 (by decide) (fun _ => ?_) (fun c_8 => absurd c_8 (by decide))
    refine lv_aload_n hx hb dX9_miss_10 rfl (lv_at hl 0 rfl) ?_
    refine g_get (ci := 9) (x := .ref (G.2.2 (18))) C h 0 (by decide) rfl rfl hi9 1 (by decide) f19 rfl rfl dX9_miss_11 ?_
    refine g_geti (ci := 1) (x := v 18 2) C h 18 (by decide) rfl rfl hi1 2 (by decide) f99 rfl rfl rfl dX9_miss_14 ?_
    refine lv_if_ne (tgt := 25) hx hb dX9_miss_17 (by decide) (fun c_9 => ?_) (fun c_9 => ?_)
    · have j_10 : ¬ ((v 18 2).toInt = 0) := fun q => c_9 ((i_eq rfl (by decide)).mpr q)
      refine lv_aload_n hx hb dX9_miss_25 rfl (lv_at hl 0 rfl) ?_
      refine g_get (ci := 9) (x := .ref (G.2.2 (18))) C h 0 (by decide) rfl rfl hi9 1 (by decide) f19 rfl rfl dX9_miss_26 ?_
      refine lv_iload_n hx hb dX9_miss_29 rfl (lv_at hl 1 rfl) ?_
      refine lv_aload_n hx hb dX9_miss_30 rfl (lv_at hl 0 rfl) ?_
      refine g_get (ci := 9) (x := .ref (G.2.2 (1))) C h 0 (by decide) rfl rfl hi9 0 (by decide) f10 rfl rfl dX9_miss_31 ?_
      refine g_calli C (va_runV (As := [.int (p1), .ref (G.2.2 (1))]) (rest := []) C.1 (c_X1_greatestMiss l G v w sg p1 (A1 := A1) a1 (by omega) ci) (cwV 2 hts gX9_miss_X1_greatestMiss rfl rfl rfl (by decide +kernel) ⟨by rw [hR]; exact Nat.le_of_ble_eq_true rfl, by rw [hR]; exact Nat.le_of_ble_eq_true rfl⟩) ⟨gPre_blind, g_recv C h 18 (by decide) (ci := 1) rfl rfl, gS_pre C h _⟩ rfl rfl hl.1 rfl (lv_room (Nat.le_of_ble_eq_true rfl)) dX9_miss_34 ⟨Nat.zero_le _, Nat.zero_le _⟩) h (fun r_11 v_13 w_14 g_15 H locs p_12 h => ?_)
      obtain ⟨p_12, rfl, rfl, rfl⟩ := p_12
      exact ret r_11 v w sg _ _ _ _ dX9_miss_37 h ⟨Or.inr (Or.inr (⟨(by omega), (by omega), p_12⟩)), rfl, rfl, rfl⟩
    · have j_10 : (v 18 2).toInt = 0 := (i_eq rfl (by decide)).mp c_9
      refine lv_bipush (v := (-4)) hx hb dX9_miss_20 (by decide) ?_
      refine lv_goto (tgt := 37) hx hb dX9_miss_22 (by decide) ?_
      exact ret (-4) v w sg _ _ _ _ dX9_miss_37 h ⟨Or.inr (Or.inl ⟨(by omega), (by omega), rfl⟩), rfl, rfl, rfl⟩
  · skip
    refine lv_if_ne (tgt := 10) hx hb dX9_miss_5 (by decide) (fun c_16 => absurd (by decide) c_16) (fun _ => ?_)
    refine lv_iconst (v := (-1)) hx hb dX9_miss_8 (by decide) ?_
    exact ret (-1) v w sg _ _ _ _ dX9_miss_9 h ⟨Or.inl ⟨(by omega), rfl⟩, rfl, rfl, rfl⟩
