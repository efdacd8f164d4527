set_option maxHeartbeats 4000000 in
set_option maxRecDepth 100000 in
theorem c_X8_isPressure (l : Launch) (G : gG) (v : Nat → Nat → Int32) (w : Nat → Nat → Int64) (sg : Nat → Nat) (p0 : Int32) {A0 : Int} (a0 : p0.toInt = A0) (ci : cI v) : Met l yX8_isPressure wsX8_isPressure ({ frames := 1, cells := 0, slots := 0, locals := 21 }) (gPre G v w sg [.int (p0)]) (gQi G (fun r v' w' sg' => ((r = 1 ∧ -1000 ≤ A0 ∧ A0 ≤ 1000) ∨ (r = 0 ∧ (A0 < -1000 ∨ 1000 < A0))) ∧ v = v' ∧ w = w' ∧ sg = sg')) 0 0 (gA G) := by
  refine gM_ofz (cc := cX8_isPressure) (maxL := 1) (by decide) rfl (Nat.le_of_ble_eq_true rfl) ?_
  intro p e R s m args below meth c Q ls C hR ret h hl
  have hx := C.1.1
  have hb := C.1.2.1
  have hown := C.1.2.2.2.1
  have hts := C.1.2.2.2.2
  have hl : lv_has ls 1 [(0, .int (p0))] := hl
  have q0 := i_rng p0; rw [a0] at q0
  have z_0 : (0 : Int32).toInt = 0 := by decide
  have z_1 : (1 : Int32).toInt = 1 := by decide
  have z_1000 : (1000 : Int32).toInt = 1000 := by decide
  have o_1 := ci
  obtain ⟨K1, K2, K3, K4, K5, K6, K7, Ks, K9, Ka, Kr, Kz⟩ := o_1
  refine lv_iload_n hx hb dX8_isPressure_0 rfl (lv_at hl 0 rfl) ?_
  refine lv_sipush (v := 1000) hx hb dX8_isPressure_1 (by decide) ?_
  refine g_calli C (va_runSN (As := [.int (p0), .int (1000)]) (rest := []) C.1 (c_X9_isWithin l G v w sg p0 (A0 := A0) a0 (1000) (A1 := 1000) (by decide) (by omega)) ⟨va_cnB 2 hts ggX8_isPressure_X9_isWithin rfl rfl rfl C.2.1.2.2.2.2 (hts (.initialized RX9) (by decide +kernel)) (by decide +kernel) ⟨by rw [hR]; exact Nat.le_of_ble_eq_true rfl, by rw [hR]; exact Nat.le_of_ble_eq_true rfl⟩, (hts (.static yX9_isWithin) (by decide +kernel)), trivial⟩ ⟨gPre_blind, gS_pre C h _⟩ rfl rfl hl.1 rfl (lv_room (Nat.le_of_ble_eq_true rfl)) dX8_isPressure_4 ⟨Nat.zero_le _, Nat.zero_le _⟩) h (fun r_2 v_4 w_5 g_6 H locs p_3 h => ?_)
  obtain ⟨p_3, rfl, rfl, rfl⟩ := p_3
  rcases p_3 with ⟨rfl, t_7⟩ | ⟨rfl, t_7⟩
  · skip
    exact ret 1 v w sg _ _ _ _ rfl dX8_isPressure_7 h ⟨Or.inl ⟨rfl, by omega⟩, rfl, rfl, rfl⟩
  · skip
    exact ret 0 v w sg _ _ _ _ rfl dX8_isPressure_7 h ⟨Or.inr ⟨rfl, by omega⟩, rfl, rfl, rfl⟩

set_option maxHeartbeats 4000000 in
set_option maxRecDepth 100000 in
theorem c_X8_append (l : Launch) (G : gG) (v : Nat → Nat → Int32) (w : Nat → Nat → Int64) (sg : Nat → Nat) (p1 : Int32) {A1 : Int} (a1 : p1.toInt = A1) (bc : (v 93 0).toInt ≤ 9) (b1 : 1 ≤ A1 ∧ A1 ≤ 100) (ci : cI v) : Met l yX8_append wsX8_append ({ frames := 0, cells := 0, slots := 0, locals := 0 }) (gPre G v w sg [.ref (G.2.2 (93)), .int (p1)]) (gQi G (fun r v' w' sg' => (cI v' ∧ fC 93 97 v w v' w ∧ r = v 93 0 + 1 - 1 ∧ v' = (gu (gu (gu (gu v 96 (v 93 0).toInt.toNat p1) 94 (v 93 0).toInt.toNat (vp_nar .boolean 1)) 95 (v 93 0).toInt.toNat 0) 93 0 (v 93 0 + 1))) ∧ w = w' ∧ sg = sg')) 0 0 (gA G) := by
  refine gM_ofi (cc := cX8_append) (maxL := 2) (by decide) rfl (Nat.le_of_ble_eq_true rfl) ?_
  intro p e R s m args below meth c Q ls C hR ret h hl
  have hx := C.1.1
  have hb := C.1.2.1
  have hown := C.1.2.2.2.1
  have hts := C.1.2.2.2.2
  have hl : lv_has ls 2 [(0, .ref (G.2.2 (93))), (1, .int (p1))] := hl
  have q1 := i_rng p1; rw [a1] at q1
  have z_0 : (0 : Int32).toInt = 0 := by decide
  have z_1 : (1 : Int32).toInt = 1 := by decide
  have f23 : Cond.fieldLink RX8 23 "WindHall$Tubes" "area" "[I" ∈ wsX8_append := by decide +kernel
  have hi8 : ∀ x ∈ u_ws RX8 TX8 4, x ∈ wsX8_append := fun x q => List.mem_cons_of_mem _ (List.mem_append_right _ q)
  have f9 : Cond.fieldLink RX8 9 "WindHall$Tubes" "count" "I" ∈ wsX8_append := by decide +kernel
  have f15 : Cond.fieldLink RX8 15 "WindHall$Tubes" "isLost" "[Z" ∈ wsX8_append := by decide +kernel
  have f19 : Cond.fieldLink RX8 19 "WindHall$Tubes" "pressure" "[I" ∈ wsX8_append := by decide +kernel
  have o_1 := ci
  obtain ⟨K1, K2, K3, K4, K5, K6, K7, Ks, K9, Ka, Kr, Kz⟩ := o_1
  refine lv_aload_n hx hb dX8_append_0 rfl (lv_at hl 0 rfl) ?_
  refine g_get (ci := 8) (x := .ref (G.2.2 (96))) C h 93 (by decide) rfl rfl hi8 3 (by decide) f23 rfl rfl dX8_append_1 ?_
  refine lv_aload_n hx hb dX8_append_4 rfl (lv_at hl 0 rfl) ?_
  refine g_geti (ci := 8) (x := v 93 0) C h 93 (by decide) rfl rfl hi8 0 (by decide) f9 rfl rfl rfl dX8_append_5 ?_
  refine lv_iload_n hx hb dX8_append_8 rfl (lv_at hl 1 rfl) ?_
  refine g_iast C h 96 (by decide) (by decide) (n := 10) (by decide) (vp_of rfl (by omega) (by omega)) dX8_append_9 (fun H locs h => ?_)
  obtain ⟨v_2, hv_2⟩ : ∃ z, z = gu v 96 ((v 93 0 : Int32).toNatClampNeg) p1 := ⟨_, rfl⟩
  have h : gS (gA G) G s v_2 w sg H locs := by rw [hv_2]; exact h
  have u_3 : fC 93 97 v w v_2 w := by rw [hv_2]; exact (fC_v fC_rf (by decide))
  refine lv_aload_n hx hb dX8_append_10 rfl (lv_at hl 0 rfl) ?_
  refine g_get (ci := 8) (x := .ref (G.2.2 (94))) C h 93 (by decide) rfl rfl hi8 1 (by decide) f15 rfl rfl dX8_append_11 ?_
  refine lv_aload_n hx hb dX8_append_14 rfl (lv_at hl 0 rfl) ?_
  refine g_geti (ci := 8) (x := v 93 0) C h 93 (by decide) rfl rfl hi8 0 (by decide) f9 rfl rfl (by rw [hv_2] <;> rfl) dX8_append_15 ?_
  refine lv_iconst (v := 1) hx hb dX8_append_18 (by decide) ?_
  refine g_zast C h 94 (by decide) (by decide) (n := 10) (by decide) (vp_of rfl (by omega) (by omega)) dX8_append_19 (fun H locs h => ?_)
  obtain ⟨v_4, hv_4⟩ : ∃ z, z = gu v_2 94 ((v 93 0 : Int32).toNatClampNeg) (vp_nar .boolean 1) := ⟨_, rfl⟩
  have h : gS (gA G) G s v_4 w sg H locs := by rw [hv_4]; exact h
  have u_5 : fC 93 97 v w v_4 w := by rw [hv_4]; exact (fC_v u_3 (by decide))
  refine lv_aload_n hx hb dX8_append_20 rfl (lv_at hl 0 rfl) ?_
  refine g_get (ci := 8) (x := .ref (G.2.2 (95))) C h 93 (by decide) rfl rfl hi8 2 (by decide) f19 rfl rfl dX8_append_21 ?_
  refine lv_aload_n hx hb dX8_append_24 rfl (lv_at hl 0 rfl) ?_
  refine g_geti (ci := 8) (x := v 93 0) C h 93 (by decide) rfl rfl hi8 0 (by decide) f9 rfl rfl (by rw [hv_4, hv_2] <;> rfl) dX8_append_25 ?_
  refine lv_iconst (v := 0) hx hb dX8_append_28 (by decide) ?_
  refine g_iast C h 95 (by decide) (by decide) (n := 10) (by decide) (vp_of rfl (by omega) (by omega)) dX8_append_29 (fun H locs h => ?_)
  obtain ⟨v_6, hv_6⟩ : ∃ z, z = gu v_4 95 ((v 93 0 : Int32).toNatClampNeg) 0 := ⟨_, rfl⟩
  have h : gS (gA G) G s v_6 w sg H locs := by rw [hv_6]; exact h
  have u_7 : fC 93 97 v w v_6 w := by rw [hv_6]; exact (fC_v u_5 (by decide))
  refine lv_aload_n hx hb dX8_append_30 rfl (lv_at hl 0 rfl) ?_
  refine lv_dup hx hb dX8_append_31 rfl ?_
  refine g_geti (ci := 8) (x := v 93 0) C h 93 (by decide) rfl rfl hi8 0 (by decide) f9 rfl rfl (by rw [hv_6, hv_4, hv_2] <;> rfl) dX8_append_32 ?_
  refine lv_iconst (v := 1) hx hb dX8_append_35 (by decide) ?_
  refine lv_iadd hx hb dX8_append_36 ?_
  refine lv_topi (fun x_8 e_9 => ?_)
  have i_10 : x_8.toInt = (v 93 0).toInt + 1 := ia_add e_9 rfl (by decide) (by omega) (by omega)
  refine g_put (ci := 8) (x := x_8) (ty := .int) C h 93 (by decide) rfl rfl hi8 tyX8 tyX8_ok nmX8 0 (by decide) f9 rfl rfl (by decide +kernel) rfl rfl (Nat.le_of_ble_eq_true rfl) rfl dX8_append_37 (fun H locs h => ?_)
  obtain ⟨v_11, hv_11⟩ : ∃ z, z = gu v_6 93 0 x_8 := ⟨_, rfl⟩
  have h : gS (gA G) G s v_11 w sg H locs := by rw [hv_11]; exact h
  have u_12 : fC 93 97 v w v_11 w := by rw [hv_11]; exact (fC_v u_7 (by decide))
  refine lv_aload_n hx hb dX8_append_40 rfl (lv_at hl 0 rfl) ?_
  refine g_geti (ci := 8) (x := x_8) C h 93 (by decide) rfl rfl hi8 0 (by decide) f9 rfl rfl (by rw [hv_11] <;> rfl) dX8_append_41 ?_
  refine lv_iconst (v := 1) hx hb dX8_append_44 (by decide) ?_
  refine lv_isub hx hb dX8_append_45 ?_
  refine lv_topi (fun x_13 e_14 => ?_)
  exact ret x_13 v_11 w sg _ _ _ _ dX8_append_46 h ⟨⟨(cI_93m ci (fun a ha => by rw [hv_11, gu_o (by omega), hv_6, gu_o (by omega), hv_4, gu_o (by omega), hv_2, gu_o (by omega)]) (by rw [hv_11, hv_6, hv_4, hv_2]; exact (show 0 ≤ (x_8 : Int32).toInt ∧ (x_8 : Int32).toInt ≤ 10 by omega)) (by rw [hv_11, hv_6, hv_4, hv_2]; exact (up_grow (p := fun z => 1 ≤ z.toInt ∧ z.toInt ≤ 100) (I' := (x_8 : Int32).toInt) Kr rfl (by omega) (by omega) (by omega)))), u_12, ⟨by subst_vars; rfl, (by rw [hv_11, hv_6, hv_4, hv_2] <;> exact (gu_cg (gu_cg (gu_cg (gu_cg rfl rfl ((cl_nat rfl).trans (by omega)) rfl) rfl ((cl_nat rfl).trans (by omega)) rfl) rfl ((cl_nat rfl).trans (by omega)) rfl) rfl rfl e_9))⟩⟩, rfl, rfl⟩

set_option maxHeartbeats 4000000 in
set_option maxRecDepth 100000 in
theorem c_X8_sum (l : Launch) (G : gG) (v : Nat → Nat → Int32) (w : Nat → Nat → Int64) (sg : Nat → Nat) (ci : cI v) : Met l yX8_sum wsX8_sum ({ frames := 0, cells := 0, slots := 0, locals := 0 }) (gPre G v w sg [.ref (G.2.2 (93))]) (gQi G (fun r v' w' sg' => (r = sumN (fun k => v 96 k * v 95 k) (v 93 0).toInt.toNat) ∧ v = v' ∧ w = w' ∧ sg = sg')) 0 0 (gA G) := by
  refine gM_ofi (cc := cX8_sum) (maxL := 3) (by decide) rfl (Nat.le_of_ble_eq_true rfl) ?_
  intro p e R s m args below meth c Q ls C hR ret h hl
  have hx := C.1.1
  have hb := C.1.2.1
  have hown := C.1.2.2.2.1
  have hts := C.1.2.2.2.2
  have hl : lv_has ls 3 [(0, .ref (G.2.2 (93)))] := hl
  have z_0 : (0 : Int32).toInt = 0 := by decide
  have z_1 : (1 : Int32).toInt = 1 := by decide
  have f9 : Cond.fieldLink RX8 9 "WindHall$Tubes" "count" "I" ∈ wsX8_sum := by decide +kernel
  have hi8 : ∀ x ∈ u_ws RX8 TX8 4, x ∈ wsX8_sum := fun x q => List.mem_cons_of_mem _ (List.mem_append_right _ q)
  have f23 : Cond.fieldLink RX8 23 "WindHall$Tubes" "area" "[I" ∈ wsX8_sum := by decide +kernel
  have f19 : Cond.fieldLink RX8 19 "WindHall$Tubes" "pressure" "[I" ∈ wsX8_sum := by decide +kernel
  have o_1 := ci
  obtain ⟨K1, K2, K3, K4, K5, K6, K7, Ks, K9, Ka, Kr, Kz⟩ := o_1
  refine lv_iconst (v := 0) hx hb dX8_sum_0 (by decide) ?_
  refine lv_istore_n (lv' := [(1, .int (0)), (0, .ref (G.2.2 (93)))]) hx hb dX8_sum_1 rfl hl (by decide) rfl (fun ls hl => ?_)
  refine lv_iconst (v := 0) hx hb dX8_sum_2 (by decide) ?_
  have J4_3 : ∀ (n : Nat) (y_2 : Int32) (y_3 : Int32) (H : Heap) (locs : List Loc) (ls : Array Slot), ((v 93 0).toInt - (y_3).toInt).toNat < n → (0 ≤ (y_3).toInt ∧ (y_3).toInt ≤ (v 93 0).toInt) → (y_2 = sumN (fun k => v 96 k * v 95 k) ((y_3).toInt).toNat) → gS (gA G) G s v w sg H locs → lv_has ls 3 [(0, .ref (G.2.2 (93))), (1, .int (y_2)), (2, .int (y_3))] → W p l e R s m args below meth c H locs 0 0 Q (F0 m 4 ls []) := by
    intro n
    induction n with
    | zero => intro y_2 y_3 H locs ls hm; exact absurd hm (Nat.not_lt_zero _)
    | succ n ih4 =>
      intro y_2 y_3 H locs ls hm f_4 f_5 h hl
      refine lv_iload_n hx hb dX8_sum_4 rfl (lv_at hl 2 rfl) ?_
      refine lv_aload_n hx hb dX8_sum_5 rfl (lv_at hl 0 rfl) ?_
      refine g_geti (ci := 8) (x := v 93 0) C h 93 (by decide) rfl rfl hi8 0 (by decide) f9 rfl rfl rfl dX8_sum_6 ?_
      refine lv_icmp_ge (tgt := 34) hx hb dX8_sum_9 (by decide) (fun c_6 => ?_) (fun c_6 => ?_)
      · have j_7 : (v 93 0).toInt ≤ (y_3).toInt := (i_le rfl rfl).mp c_6
        refine lv_iload_n hx hb dX8_sum_34 rfl (lv_at hl 1 rfl) ?_
        exact ret y_2 v w sg _ _ _ _ dX8_sum_35 h ⟨(by rw [show (v 93 0).toInt = (y_3).toInt by omega]; exact f_5), rfl, rfl, rfl⟩
      · have j_7 : ¬ ((v 93 0).toInt ≤ (y_3).toInt) := fun q => c_6 ((i_le rfl rfl).mpr q)
        refine lv_iload_n hx hb dX8_sum_12 rfl (lv_at hl 1 rfl) ?_
        refine lv_aload_n hx hb dX8_sum_13 rfl (lv_at hl 0 rfl) ?_
        refine g_get (ci := 8) (x := .ref (G.2.2 (96))) C h 93 (by decide) rfl rfl hi8 3 (by decide) f23 rfl rfl dX8_sum_14 ?_
        refine lv_iload_n hx hb dX8_sum_17 rfl (lv_at hl 2 rfl) ?_
        refine g_iald C h 96 (by decide) (by decide) (n := 10) (by decide) (vp_of rfl (by omega) (by omega)) dX8_sum_18 ?_
        refine lv_topi (fun x_8 e_9 => ?_)
        refine lv_aload_n hx hb dX8_sum_19 rfl (lv_at hl 0 rfl) ?_
        refine g_get (ci := 8) (x := .ref (G.2.2 (95))) C h 93 (by decide) rfl rfl hi8 2 (by decide) f19 rfl rfl dX8_sum_20 ?_
        refine lv_iload_n hx hb dX8_sum_23 rfl (lv_at hl 2 rfl) ?_
        refine g_iald C h 95 (by decide) (by decide) (n := 10) (by decide) (vp_of rfl (by omega) (by omega)) dX8_sum_24 ?_
        refine lv_topi (fun x_10 e_11 => ?_)
        refine lv_imul hx hb dX8_sum_25 ?_
        refine lv_topi (fun x_12 e_13 => ?_)
        refine lv_iadd hx hb dX8_sum_26 ?_
        refine lv_topi (fun x_14 e_15 => ?_)
        refine lv_istore_n (lv' := [(1, .int (x_14)), (0, .ref (G.2.2 (93))), (2, .int (y_3))]) hx hb dX8_sum_27 rfl hl (by decide) rfl (fun ls hl => ?_)
        obtain ⟨x_16, e_17⟩ : ∃ y : Int32, y = y_3 + 1 := ⟨_, rfl⟩
        have i_18 : x_16.toInt = (y_3).toInt + 1 := ia_add e_17 rfl (by decide) (by omega) (by omega)
        refine lv_iinc (v := x_16) (lv' := [(2, .int (x_16)), (1, .int (x_14)), (0, .ref (G.2.2 (93)))]) hx hb dX8_sum_28 hl (k := 2) rfl (by rw [e_17]; rfl) (by decide) rfl (fun ls hl => ?_)
        refine lv_goto (tgt := 4) hx hb dX8_sum_31 (by decide) ?_
        exact ih4 x_14 x_16 _ _ _ (by omega) (by omega) (sumN_step f_5 (by omega) (by omega) e_15 (by subst_vars; rfl)) h (lv_sub hl [2, 1, 0] rfl)
  refine lv_istore_n (lv' := [(2, .int (0)), (1, .int (0)), (0, .ref (G.2.2 (93)))]) hx hb dX8_sum_3 rfl hl (by decide) rfl (fun ls hl => ?_)
  exact J4_3 _ 0 0 _ _ _ (Nat.lt_succ_self _) (by omega) rfl h (lv_sub hl [2, 1, 0] rfl)

set_option maxHeartbeats 4000000 in
set_option maxRecDepth 100000 in
theorem c_X8_canMend (l : Launch) (G : gG) (v : Nat → Nat → Int32) (w : Nat → Nat → Int64) (sg : Nat → Nat) (p1 : Int32) {A1 : Int} (a1 : p1.toInt = A1) (p2 : Int32) {A2 : Int} (a2 : p2.toInt = A2) (p3 : Int32) {A3 : Int} (a3 : p3.toInt = A3) (bp : bPr v) (b1 : 0 ≤ A1 ∧ A1 < (v 93 0).toInt) (b2 : -4000000 ≤ A2 ∧ A2 ≤ 4000000) (b3 : 0 ≤ A3 ∧ A3 ≤ 100000) (ci : cI v) : Met l yX8_canMend wsX8_canMend ({ frames := 1, cells := 0, slots := 0, locals := 22 }) (gPre G v w sg [.ref (G.2.2 (93)), .int (p1), .int (p2), .int (p3)]) (gQi G (fun r v' w' sg' => ((r = 1 ∧ cmQ (v 96 A1.toNat).toInt (v 95 A1.toNat).toInt A2 A3) ∨ (r = 0 ∧ ¬ cmQ (v 96 A1.toNat).toInt (v 95 A1.toNat).toInt A2 A3)) ∧ v = v' ∧ w = w' ∧ sg = sg')) 0 0 (gA G) := by
  refine gM_ofz (cc := cX8_canMend) (maxL := 7) (by decide) rfl (Nat.le_of_ble_eq_true rfl) ?_
  intro p e R s m args below meth c Q ls C hR ret h hl
  have hx := C.1.1
  have hb := C.1.2.1
  have hown := C.1.2.2.2.1
  have hts := C.1.2.2.2.2
  have hl : lv_has ls 7 [(0, .ref (G.2.2 (93))), (1, .int (p1)), (2, .int (p2)), (3, .int (p3))] := hl
  have q1 := i_rng p1; rw [a1] at q1
  have q2 := i_rng p2; rw [a2] at q2
  have q3 := i_rng p3; rw [a3] at q3
  have hka := ci.2.2.2.2.2.2.2.2.2.2.1 A1.toNat (by omega)
  have hn9 := ci.2.2.2.2.2.2.2.2.1
  have hpa := bp A1.toNat (by omega)
  unfold bd at hpa
  have hMb := pr_bd hka hpa
  have z_m1000 : ((-1000) : Int32).toInt = (-1000) := by decide
  have z_0 : (0 : Int32).toInt = 0 := by decide
  have z_1 : (1 : Int32).toInt = 1 := by decide
  have z_1000 : (1000 : Int32).toInt = 1000 := by decide
  have f23 : Cond.fieldLink RX8 23 "WindHall$Tubes" "area" "[I" ∈ wsX8_canMend := by decide +kernel
  have hi8 : ∀ x ∈ u_ws RX8 TX8 4, x ∈ wsX8_canMend := fun x q => List.mem_cons_of_mem _ (List.mem_append_right _ q)
  have f19 : Cond.fieldLink RX8 19 "WindHall$Tubes" "pressure" "[I" ∈ wsX8_canMend := by decide +kernel
  have o_1 := ci
  obtain ⟨K1, K2, K3, K4, K5, K6, K7, Ks, K9, Ka, Kr, Kz⟩ := o_1
  refine lv_aload_n hx hb dX8_canMend_0 rfl (lv_at hl 0 rfl) ?_
  refine g_get (ci := 8) (x := .ref (G.2.2 (96))) C h 93 (by decide) rfl rfl hi8 3 (by decide) f23 rfl rfl dX8_canMend_1 ?_
  refine lv_iload_n hx hb dX8_canMend_4 rfl (lv_at hl 1 rfl) ?_
  refine g_iald C h 96 (by decide) (by decide) (n := 10) (by decide) (vp_of a1 (by omega) (by omega)) dX8_canMend_5 ?_
  refine lv_topi (fun x_2 e_3 => ?_)
  have hr5 : (x_2).toInt = (v 96 A1.toNat).toInt := by rw [e_3, cl_nat a1]
  refine lv_iconst (v := 1) hx hb dX8_canMend_6 (by decide) ?_
  refine lv_icmp_ge (tgt := 12) hx hb dX8_canMend_7 (by decide) (fun c_4 => ?_) (fun c_4 => ?_)
  · have j_5 : 1 ≤ (x_2).toInt := (i_le (by decide) rfl).mp c_4
    refine lv_aload_n hx hb dX8_canMend_12 rfl (lv_at hl 0 rfl) ?_
    refine g_get (ci := 8) (x := .ref (G.2.2 (96))) C h 93 (by decide) rfl rfl hi8 3 (by decide) f23 rfl rfl dX8_canMend_13 ?_
    refine lv_iload_n hx hb dX8_canMend_16 rfl (lv_at hl 1 rfl) ?_
    refine g_iald C h 96 (by decide) (by decide) (n := 10) (by decide) (vp_of a1 (by omega) (by omega)) dX8_canMend_17 ?_
    refine lv_topi (fun x_6 e_7 => ?_)
    have hr17 : (x_6).toInt = (v 96 A1.toNat).toInt := by rw [e_7, cl_nat a1]
    refine lv_aload_n hx hb dX8_canMend_18 rfl (lv_at hl 0 rfl) ?_
    refine g_get (ci := 8) (x := .ref (G.2.2 (95))) C h 93 (by decide) rfl rfl hi8 2 (by decide) f19 rfl rfl dX8_canMend_19 ?_
    refine lv_iload_n hx hb dX8_canMend_22 rfl (lv_at hl 1 rfl) ?_
    refine g_iald C h 95 (by decide) (by decide) (n := 10) (by decide) (vp_of a1 (by omega) (by omega)) dX8_canMend_23 ?_
    refine lv_topi (fun x_8 e_9 => ?_)
    have hr23 : (x_8).toInt = (v 95 A1.toNat).toInt := by rw [e_9, cl_nat a1]
    refine lv_imul hx hb dX8_canMend_24 ?_
    refine lv_topi (fun x_10 e_11 => ?_)
    obtain ⟨M24, hM24⟩ : ∃ M : Int, M = (v 96 A1.toNat).toInt * (v 95 A1.toNat).toInt := ⟨_, rfl⟩
    rw [← hM24] at hMb
    have hMv : (x_10 : Int32).toInt = M24 := by rw [hM24]; exact ia_mul e_11 hr17 hr23 (by omega) (by omega)
    refine lv_iload_n hx hb dX8_canMend_25 rfl (lv_at hl 2 rfl) ?_
    refine lv_iadd hx hb dX8_canMend_26 ?_
    refine lv_topi (fun x_12 e_13 => ?_)
    have i_14 : x_12.toInt = M24 + A2 := ia_add e_13 hMv a2 (by omega) (by omega)
    refine lv_istore (lv' := [(4, .int (x_12)), (0, .ref (G.2.2 (93))), (1, .int (p1)), (2, .int (p2)), (3, .int (p3))]) hx hb dX8_canMend_27 hl (by decide) rfl (fun ls hl => ?_)
    refine lv_iload_n hx hb dX8_canMend_29 rfl (lv_at hl 4 rfl) ?_
    refine lv_iload hx hb dX8_canMend_30 (lv_at hl 0 rfl) ?_
    refine lv_isub hx hb dX8_canMend_32 ?_
    refine lv_topi (fun x_15 e_16 => ?_)
    have i_17 : x_15.toInt = A3 - (M24 + A2) := ia_sub e_16 a3 i_14 (by omega) (by omega)
    refine lv_aload_n hx hb dX8_canMend_33 rfl (lv_at hl 1 rfl) ?_
    refine g_get (ci := 8) (x := .ref (G.2.2 (96))) C h 93 (by decide) rfl rfl hi8 3 (by decide) f23 rfl rfl dX8_canMend_34 ?_
    refine lv_iload_n hx hb dX8_canMend_37 rfl (lv_at hl 2 rfl) ?_
    refine g_iald C h 96 (by decide) (by decide) (n := 10) (by decide) (vp_of a1 (by omega) (by omega)) dX8_canMend_38 ?_
    refine lv_topi (fun x_18 e_19 => ?_)
    have hr38 : (x_18).toInt = (v 96 A1.toNat).toInt := by rw [e_19, cl_nat a1]
    refine g_calli C (va_runS (As := [.int (x_15), .int (x_18)]) (rest := []) C.1 (c_J9_floorDiv_7cf53 l G v w sg x_15 (A0 := (A3 - (M24 + A2))) i_17 x_18 (A1 := (x_18).toInt) rfl (by omega)) (va_cwS 2 hts gX8_canMend_J9_floorDiv_7cf53 rfl rfl rfl (by decide +kernel) ⟨by rw [hR]; exact Nat.le_of_ble_eq_true rfl, by rw [hR]; exact Nat.le_of_ble_eq_true rfl⟩) ⟨gPre_blind, gS_pre C h _⟩ rfl rfl hl.1 rfl (lv_room (Nat.le_of_ble_eq_true rfl)) dX8_canMend_39 ⟨Nat.zero_le _, Nat.zero_le _⟩) h (fun r_20 v_22 w_23 g_24 H locs p_21 h => ?_)
    obtain ⟨p_21, rfl, rfl, rfl⟩ := p_21
    have hq39 := p_21.1
    rw [hr38, hM24] at hq39
    have hb39 := p_21.2.b (lo := -4200000) (hi := 4200000) (by omega) (by omega) (by omega) (by omega)
    refine lv_ineg hx hb dX8_canMend_42 ?_
    refine lv_topi (fun x_25 e_26 => ?_)
    have i_27 : x_25.toInt = -(r_20).toInt := ia_neg e_26 rfl (by omega)
    refine lv_istore (lv' := [(5, .int (x_25)), (4, .int (x_12)), (0, .ref (G.2.2 (93))), (1, .int (p1)), (2, .int (p2)), (3, .int (p3))]) hx hb dX8_canMend_43 hl (by decide) rfl (fun ls hl => ?_)
    refine lv_iload hx hb dX8_canMend_45 (lv_at hl 1 rfl) ?_
    refine lv_iload_n hx hb dX8_canMend_47 rfl (lv_at hl 5 rfl) ?_
    refine lv_iadd hx hb dX8_canMend_48 ?_
    refine lv_topi (fun x_28 e_29 => ?_)
    have i_30 : x_28.toInt = (M24 + A2) + A3 := ia_add e_29 i_14 a3 (by omega) (by omega)
    refine lv_aload_n hx hb dX8_canMend_49 rfl (lv_at hl 2 rfl) ?_
    refine g_get (ci := 8) (x := .ref (G.2.2 (96))) C h 93 (by decide) rfl rfl hi8 3 (by decide) f23 rfl rfl dX8_canMend_50 ?_
    refine lv_iload_n hx hb dX8_canMend_53 rfl (lv_at hl 3 rfl) ?_
    refine g_iald C h 96 (by decide) (by decide) (n := 10) (by decide) (vp_of a1 (by omega) (by omega)) dX8_canMend_54 ?_
    refine lv_topi (fun x_31 e_32 => ?_)
    have hr54 : (x_31).toInt = (v 96 A1.toNat).toInt := by rw [e_32, cl_nat a1]
    refine g_calli C (va_runS (As := [.int (x_28), .int (x_31)]) (rest := []) C.1 (c_J9_floorDiv_7cf53 l G v w sg x_28 (A0 := ((M24 + A2) + A3)) i_30 x_31 (A1 := (x_31).toInt) rfl (by omega)) (va_cwS 2 hts gX8_canMend_J9_floorDiv_7cf53 rfl rfl rfl (by decide +kernel) ⟨by rw [hR]; exact Nat.le_of_ble_eq_true rfl, by rw [hR]; exact Nat.le_of_ble_eq_true rfl⟩) ⟨gPre_blind, gS_pre C h _⟩ rfl rfl hl.1 rfl (lv_room (Nat.le_of_ble_eq_true rfl)) dX8_canMend_55 ⟨Nat.zero_le _, Nat.zero_le _⟩) h (fun r_33 v_35 w_36 g_37 H locs p_34 h => ?_)
    obtain ⟨p_34, rfl, rfl, rfl⟩ := p_34
    have hq55 := p_34.1
    rw [hr54, hM24] at hq55
    refine lv_istore (lv' := [(6, .int (r_33)), (5, .int (x_25)), (4, .int (x_12)), (0, .ref (G.2.2 (93))), (1, .int (p1)), (2, .int (p2)), (3, .int (p3))]) hx hb dX8_canMend_58 hl (by decide) rfl (fun ls hl => ?_)
    refine lv_iload hx hb dX8_canMend_60 (lv_at hl 1 rfl) ?_
    refine lv_sipush (v := (-1000)) hx hb dX8_canMend_62 (by decide) ?_
    refine va_mmax hx hb (C.1.2.2.1.trans hl.1.symm) hown (hts (.methodLink RX8 57 Lib.Math.max.name) (by decide +kernel)) (hts (.static Lib.Math.max.name) (by decide +kernel)) (hts (.initialized "java/lang/Math") (by decide +kernel)) (hts (.code Lib.Math.max.name Lib.Math.max.code 2 (some .int)) (by decide +kernel)) (by rw [hR]; exact Nat.le_of_ble_eq_true rfl) (by rw [hR]; exact Nat.le_of_ble_eq_true rfl) (Nat.zero_le _) (Nat.zero_le _) dX8_canMend_65 ?_
    refine lv_topi (fun x_38 e_39 => ?_)
    refine lv_iload hx hb dX8_canMend_68 (lv_at hl 0 rfl) ?_
    refine lv_sipush (v := 1000) hx hb dX8_canMend_70 (by decide) ?_
    refine va_mmin hx hb (C.1.2.2.1.trans hl.1.symm) hown (hts (.methodLink RX8 60 Lib.Math.min.name) (by decide +kernel)) (hts (.static Lib.Math.min.name) (by decide +kernel)) (hts (.initialized "java/lang/Math") (by decide +kernel)) (hts (.code Lib.Math.min.name Lib.Math.min.code 2 (some .int)) (by decide +kernel)) (by rw [hR]; exact Nat.le_of_ble_eq_true rfl) (by rw [hR]; exact Nat.le_of_ble_eq_true rfl) (Nat.zero_le _) (Nat.zero_le _) dX8_canMend_73 ?_
    refine lv_topi (fun x_40 e_41 => ?_)
    have hmx := jmax_D e_39
    have hmn := jmin_D e_41
    refine lv_icmp_gt (tgt := 83) hx hb dX8_canMend_76 (by decide) (fun c_42 => ?_) (fun c_42 => ?_)
    · have j_43 : (x_40).toInt < (x_38).toInt := (i_lt rfl rfl).mp c_42
      refine lv_iconst (v := 0) hx hb dX8_canMend_83 (by decide) ?_
      exact ret 0 v w sg _ _ _ _ rfl dX8_canMend_84 h ⟨Or.inr ⟨rfl, by unfold cmQ; omega⟩, rfl, rfl, rfl⟩
    · have j_43 : ¬ ((x_40).toInt < (x_38).toInt) := fun q => c_42 ((i_lt rfl rfl).mpr q)
      refine lv_iconst (v := 1) hx hb dX8_canMend_79 (by decide) ?_
      refine lv_goto (tgt := 84) hx hb dX8_canMend_80 (by decide) ?_
      exact ret 1 v w sg _ _ _ _ rfl dX8_canMend_84 h ⟨Or.inl ⟨rfl, by unfold cmQ; omega⟩, rfl, rfl, rfl⟩
  · have j_5 : ¬ (1 ≤ (x_2).toInt) := fun q => c_4 ((i_le (by decide) rfl).mpr q)
    refine lv_iconst (v := 0) hx hb dX8_canMend_10 (by decide) ?_
    exact ret 0 v w sg _ _ _ _ rfl dX8_canMend_11 h ⟨Or.inr ⟨rfl, by unfold cmQ; omega⟩, rfl, rfl, rfl⟩

set_option maxHeartbeats 4000000 in
set_option maxRecDepth 100000 in
theorem c_X8_compare (l : Launch) (G : gG) (v : Nat → Nat → Int32) (w : Nat → Nat → Int64) (sg : Nat → Nat) (p1 : Int32) {A1 : Int} (a1 : p1.toInt = A1) (p2 : Int32) {A2 : Int} (a2 : p2.toInt = A2) (bp : bPr v) (b1 : -2000000 ≤ A1 ∧ A1 ≤ 2000000) (b2 : 0 ≤ A2 ∧ A2 ≤ 100000) (ci : cI v) : Met l yX8_compare wsX8_compare ({ frames := 2, cells := 0, slots := 0, locals := 48 }) (gPre G v w sg [.ref (G.2.2 (93)), .int (p1), .int (p2)]) (gQi G (fun r v' w' sg' => (((-A2 ≤ A1 - (sumN (fun k => v 96 k * v 95 k) (v 93 0).toInt.toNat).toInt ∧ A1 - (sumN (fun k => v 96 k * v 95 k) (v 93 0).toInt.toNat).toInt ≤ A2 ∧ r = 0) ∨ (¬ (-A2 ≤ A1 - (sumN (fun k => v 96 k * v 95 k) (v 93 0).toInt.toNat).toInt ∧ A1 - (sumN (fun k => v 96 k * v 95 k) (v 93 0).toInt.toNat).toInt ≤ A2) ∧ ckR (fun k => cmQ (v 96 k).toInt (v 95 k).toInt (A1 - (sumN (fun k => v 96 k * v 95 k) (v 93 0).toInt.toNat).toInt) A2) (v 93 0).toInt r.toInt))) ∧ v = v' ∧ w = w' ∧ sg = sg')) 0 0 (gA G) := by
  refine gM_ofi (cc := cX8_compare) (maxL := 6) (by decide) rfl (Nat.le_of_ble_eq_true rfl) ?_
  intro p e R s m args below meth c Q ls C hR ret h hl
  have hx := C.1.1
  have hb := C.1.2.1
  have hown := C.1.2.2.2.1
  have hts := C.1.2.2.2.2
  have hl : lv_has ls 6 [(0, .ref (G.2.2 (93))), (1, .int (p1)), (2, .int (p2))] := hl
  have q1 := i_rng p1; rw [a1] at q1
  have q2 := i_rng p2; rw [a2] at q2
  have z_m4 : ((-4) : Int32).toInt = (-4) := by decide
  have z_0 : (0 : Int32).toInt = 0 := by decide
  have z_1 : (1 : Int32).toInt = 1 := by decide
  have z_2 : (2 : Int32).toInt = 2 := by decide
  have z_10 : (10 : Int32).toInt = 10 := by decide
  have f9 : Cond.fieldLink RX8 9 "WindHall$Tubes" "count" "I" ∈ wsX8_compare := by decide +kernel
  have hi8 : ∀ x ∈ u_ws RX8 TX8 4, x ∈ wsX8_compare := fun x q => List.mem_cons_of_mem _ (List.mem_append_right _ q)
  have o_1 := ci
  obtain ⟨K1, K2, K3, K4, K5, K6, K7, Ks, K9, Ka, Kr, Kz⟩ := o_1
  refine lv_iload_n hx hb dX8_compare_0 rfl (lv_at hl 1 rfl) ?_
  refine lv_aload_n hx hb dX8_compare_1 rfl (lv_at hl 0 rfl) ?_
  refine g_calli C (va_runV (As := []) (rest := [.int (p1)]) C.1 (c_X8_sum l G v w sg  ci) (cwV 0 hts gX8_compare_X8_sum rfl rfl rfl (by decide +kernel) ⟨by rw [hR]; exact Nat.le_of_ble_eq_true rfl, by rw [hR]; exact Nat.le_of_ble_eq_true rfl⟩) ⟨gPre_blind, g_recv C h 93 (by decide) (ci := 8) rfl rfl, gS_pre C h _⟩ rfl rfl hl.1 rfl (lv_room (Nat.le_of_ble_eq_true rfl)) dX8_compare_2 ⟨Nat.zero_le _, Nat.zero_le _⟩) h (fun r_2 v_4 w_5 g_6 H locs p_3 h => ?_)
  obtain ⟨p_3, rfl, rfl, rfl⟩ := p_3
  have hsi : (r_2).toInt = (sumN (fun k => v 96 k * v 95 k) (v 93 0).toInt.toNat).toInt := by rw [p_3]
  have hsb := smC_b (v := v) (n := (v 93 0).toInt) (by omega) Kr bp
  unfold bd at hsb
  refine lv_isub hx hb dX8_compare_5 ?_
  refine lv_topi (fun x_7 e_8 => ?_)
  have i_9 : x_7.toInt = A1 - (r_2).toInt := ia_sub e_8 a1 rfl (by omega) (by omega)
  refine lv_istore_n (lv' := [(3, .int (x_7)), (0, .ref (G.2.2 (93))), (1, .int (p1)), (2, .int (p2))]) hx hb dX8_compare_6 rfl hl (by decide) rfl (fun ls hl => ?_)
  refine lv_iload_n hx hb dX8_compare_7 rfl (lv_at hl 0 rfl) ?_
  refine va_mabs hx hb (C.1.2.2.1.trans hl.1.symm) hown (hts (.methodLink RX8 44 Lib.Math.abs.name) (by decide +kernel)) (hts (.static Lib.Math.abs.name) (by decide +kernel)) (hts (.initialized "java/lang/Math") (by decide +kernel)) (hts (.code Lib.Math.abs.name Lib.Math.abs.code 1 (some .int)) (by decide +kernel)) (by rw [hR]; exact Nat.le_of_ble_eq_true rfl) (by rw [hR]; exact Nat.le_of_ble_eq_true rfl) (Nat.zero_le _) (Nat.zero_le _) dX8_compare_8 ?_
  refine lv_topi (fun x_10 e_11 => ?_)
  have hab := jabs_D e_11 (by omega)
  refine lv_iload_n hx hb dX8_compare_11 rfl (lv_at hl 3 rfl) ?_
  refine lv_icmp_gt (tgt := 17) hx hb dX8_compare_12 (by decide) (fun c_12 => ?_) (fun c_12 => ?_)
  · have j_13 : A2 < (x_10).toInt := (i_lt a2 rfl).mp c_12
    refine lv_bipush (v := (-4)) hx hb dX8_compare_17 (by decide) ?_
    refine lv_istore (lv' := [(4, .int ((-4))), (3, .int (x_7)), (0, .ref (G.2.2 (93))), (1, .int (p1)), (2, .int (p2))]) hx hb dX8_compare_19 hl (by decide) rfl (fun ls hl => ?_)
    refine lv_iconst (v := 0) hx hb dX8_compare_21 (by decide) ?_
    have J24_15 : ∀ (n : Nat) (y_14 : Int32) (y_15 : Int32) (H : Heap) (locs : List Loc) (ls : Array Slot), ((v 93 0).toInt - (y_15).toInt).toNat < n → (0 ≤ (y_15).toInt ∧ (y_15).toInt ≤ (v 93 0).toInt) → (alP (fun k => cmQ (v 96 k).toInt (v 95 k).toInt (A1 - (r_2).toInt) A2) (y_15).toInt (y_14).toInt) → gS (gA G) G s v w sg H locs → lv_has ls 6 [(0, .ref (G.2.2 (93))), (1, .int (p1)), (2, .int (p2)), (3, .int (x_7)), (4, .int (y_14)), (5, .int (y_15))] → W p l e R s m args below meth c H locs 0 0 Q (F0 m 24 ls []) := by
      intro n
      induction n with
      | zero => intro y_14 y_15 H locs ls hm; exact absurd hm (Nat.not_lt_zero _)
      | succ n ih24 =>
        intro y_14 y_15 H locs ls hm f_16 f_17 h hl
        refine lv_iload hx hb dX8_compare_24 (lv_at hl 5 rfl) ?_
        refine lv_aload_n hx hb dX8_compare_26 rfl (lv_at hl 0 rfl) ?_
        refine g_geti (ci := 8) (x := v 93 0) C h 93 (by decide) rfl rfl hi8 0 (by decide) f9 rfl rfl rfl dX8_compare_27 ?_
        refine lv_icmp_ge (tgt := 63) hx hb dX8_compare_30 (by decide) (fun c_18 => ?_) (fun c_18 => ?_)
        · have j_19 : (v 93 0).toInt ≤ (y_15).toInt := (i_le rfl rfl).mp c_18
          have hal : alP (fun k => cmQ (v 96 k).toInt (v 95 k).toInt (A1 - (r_2).toInt) A2) (v 93 0).toInt (y_14).toInt := (show (y_15).toInt = (v 93 0).toInt by omega) ▸ f_17
          refine lv_iload hx hb dX8_compare_63 (lv_at hl 4 rfl) ?_
          refine lv_bipush (v := (-4)) hx hb dX8_compare_65 (by decide) ?_
          refine lv_icmp_ne (tgt := 74) hx hb dX8_compare_67 (by decide) (fun c_20 => ?_) (fun c_20 => ?_)
          · have j_21 : ¬ ((y_14).toInt = (-4)) := fun q => c_20 ((i_eq rfl (by decide)).mpr q)
            have hl4 := hal.e1 (by omega)
            refine lv_bipush (v := 10) hx hb dX8_compare_74 (by decide) ?_
            refine lv_iload hx hb dX8_compare_76 (lv_at hl 4 rfl) ?_
            refine lv_iadd hx hb dX8_compare_78 ?_
            refine lv_topi (fun x_22 e_23 => ?_)
            have i_24 : x_22.toInt = 10 + (y_14).toInt := ia_add e_23 (by decide) rfl (by omega) (by omega)
            exact ret x_22 v w sg _ _ _ _ dX8_compare_79 h ⟨Or.inr ⟨by omega, by rw [← hsi, i_24]; exact hl4.1⟩, rfl, rfl, rfl⟩
          · have j_21 : (y_14).toInt = (-4) := (i_eq rfl (by decide)).mp c_20
            refine lv_iconst (v := 1) hx hb dX8_compare_70 (by decide) ?_
            refine lv_goto (tgt := 79) hx hb dX8_compare_71 (by decide) ?_
            exact ret 1 v w sg _ _ _ _ dX8_compare_79 h ⟨Or.inr ⟨by omega, by rw [← hsi, z_1]; exact hal.e0 (by omega)⟩, rfl, rfl, rfl⟩
        · have j_19 : ¬ ((v 93 0).toInt ≤ (y_15).toInt) := fun q => c_18 ((i_le rfl rfl).mpr q)
          refine lv_aload_n hx hb dX8_compare_33 rfl (lv_at hl 0 rfl) ?_
          refine lv_iload hx hb dX8_compare_34 (lv_at hl 5 rfl) ?_
          refine lv_iload_n hx hb dX8_compare_36 rfl (lv_at hl 3 rfl) ?_
          refine lv_iload_n hx hb dX8_compare_37 rfl (lv_at hl 2 rfl) ?_
          refine g_calli C (va_runV (As := [.int (y_15), .int (x_7), .int (p2)]) (rest := []) C.1 (c_X8_canMend l G v w sg y_15 (A1 := (y_15).toInt) rfl x_7 (A2 := (A1 - (r_2).toInt)) i_9 p2 (A3 := A2) a2 bp (by omega) (by omega) (by omega) ci) (cwV 3 hts gX8_compare_X8_canMend rfl rfl rfl (by decide +kernel) ⟨by rw [hR]; exact Nat.le_of_ble_eq_true rfl, by rw [hR]; exact Nat.le_of_ble_eq_true rfl⟩) ⟨gPre_blind, g_recv C h 93 (by decide) (ci := 8) rfl rfl, gS_pre C h _⟩ rfl rfl hl.1 rfl (lv_room (Nat.le_of_ble_eq_true rfl)) dX8_compare_38 ⟨Nat.zero_le _, Nat.zero_le _⟩) h (fun r_25 v_27 w_28 g_29 H locs p_26 h => ?_)
          obtain ⟨p_26, rfl, rfl, rfl⟩ := p_26
          rcases p_26 with ⟨rfl, t_30⟩ | ⟨rfl, t_30⟩
          · skip
            have J57_31 : ∀ (y_31 : Int32) (H : Heap) (locs : List Loc) (ls : Array Slot), (alP (fun k => cmQ (v 96 k).toInt (v 95 k).toInt (A1 - (r_2).toInt) A2) ((y_15 : Int32).toInt + 1) (y_31).toInt) → gS (gA G) G s v w sg H locs → lv_has ls 6 [(0, .ref (G.2.2 (93))), (1, .int (p1)), (2, .int (p2)), (3, .int (x_7)), (4, .int (y_31)), (5, .int (y_15))] → W p l e R s m args below meth c H locs 0 0 Q (F0 m 57 ls []) := by
              intro y_31 H locs ls f_32 h hl
              obtain ⟨x_33, e_34⟩ : ∃ y : Int32, y = y_15 + 1 := ⟨_, rfl⟩
              have i_35 : x_33.toInt = (y_15).toInt + 1 := ia_add e_34 rfl (by decide) (by omega) (by omega)
              refine lv_iinc (v := x_33) (lv' := [(5, .int (x_33)), (0, .ref (G.2.2 (93))), (1, .int (p1)), (2, .int (p2)), (3, .int (x_7)), (4, .int (y_31))]) hx hb dX8_compare_57 hl (k := 5) rfl (by rw [e_34]; rfl) (by decide) rfl (fun ls hl => ?_)
              refine lv_goto (tgt := 24) hx hb dX8_compare_60 (by decide) ?_
              exact ih24 y_31 x_33 _ _ _ (by omega) (by omega) (by rw [show (x_33 : Int32).toInt = (y_15 : Int32).toInt + 1 by omega]; exact f_32) h (lv_sub hl [1, 2, 3, 4, 5, 0] rfl)
            refine lv_if_eq (tgt := 57) hx hb dX8_compare_41 (by decide) (fun c_36 => absurd c_36 (by decide)) (fun _ => ?_)
            refine lv_iload hx hb dX8_compare_44 (lv_at hl 4 rfl) ?_
            refine lv_bipush (v := (-4)) hx hb dX8_compare_46 (by decide) ?_
            refine lv_icmp_eq (tgt := 53) hx hb dX8_compare_48 (by decide) (fun c_37 => ?_) (fun c_37 => ?_)
            · have j_38 : (y_14).toInt = (-4) := (i_eq rfl (by decide)).mp c_37
              refine lv_iload hx hb dX8_compare_53 (lv_at hl 5 rfl) ?_
              refine lv_istore (lv' := [(4, .int (y_15)), (0, .ref (G.2.2 (93))), (1, .int (p1)), (2, .int (p2)), (3, .int (x_7)), (5, .int (y_15))]) hx hb dX8_compare_55 hl (by decide) rfl (fun ls hl => ?_)
              exact J57_31 y_15 _ _ _ (by first | exact f_17.skip (by omega) rfl (by assumption) | exact f_17.take (by omega) (by omega) rfl (by assumption) rfl) h (lv_sub hl [1, 2, 3, 4, 0, 5] rfl)
            · have j_38 : ¬ ((y_14).toInt = (-4)) := fun q => c_37 ((i_eq rfl (by decide)).mpr q)
              refine lv_iconst (v := 2) hx hb dX8_compare_51 (by decide) ?_
              exact ret 2 v w sg _ _ _ _ dX8_compare_52 h ⟨Or.inr ⟨by omega, by rw [← hsi, z_2]; exact Or.inr (Or.inr ⟨f_17.two (by omega) (by omega) (by omega) (by assumption), rfl⟩)⟩, rfl, rfl, rfl⟩
          · skip
            have J57_39 : ∀ (y_39 : Int32) (H : Heap) (locs : List Loc) (ls : Array Slot), (alP (fun k => cmQ (v 96 k).toInt (v 95 k).toInt (A1 - (r_2).toInt) A2) ((y_15 : Int32).toInt + 1) (y_39).toInt) → gS (gA G) G s v w sg H locs → lv_has ls 6 [(0, .ref (G.2.2 (93))), (1, .int (p1)), (2, .int (p2)), (3, .int (x_7)), (4, .int (y_39)), (5, .int (y_15))] → W p l e R s m args below meth c H locs 0 0 Q (F0 m 57 ls []) := by
              intro y_39 H locs ls f_40 h hl
              obtain ⟨x_41, e_42⟩ : ∃ y : Int32, y = y_15 + 1 := ⟨_, rfl⟩
              have i_43 : x_41.toInt = (y_15).toInt + 1 := ia_add e_42 rfl (by decide) (by omega) (by omega)
              refine lv_iinc (v := x_41) (lv' := [(5, .int (x_41)), (0, .ref (G.2.2 (93))), (1, .int (p1)), (2, .int (p2)), (3, .int (x_7)), (4, .int (y_39))]) hx hb dX8_compare_57 hl (k := 5) rfl (by rw [e_42]; rfl) (by decide) rfl (fun ls hl => ?_)
              refine lv_goto (tgt := 24) hx hb dX8_compare_60 (by decide) ?_
              exact ih24 y_39 x_41 _ _ _ (by omega) (by omega) (by rw [show (x_41 : Int32).toInt = (y_15 : Int32).toInt + 1 by omega]; exact f_40) h (lv_sub hl [1, 2, 3, 4, 5, 0] rfl)
            refine lv_if_eq (tgt := 57) hx hb dX8_compare_41 (by decide) (fun _ => ?_) (fun c_44 => absurd (by decide) c_44)
            exact J57_39 y_14 _ _ _ (by first | exact f_17.skip (by omega) rfl (by assumption) | exact f_17.take (by omega) (by omega) rfl (by assumption) rfl) h (lv_sub hl [0, 1, 2, 3, 4, 5] rfl)
    refine lv_istore (lv' := [(5, .int (0)), (4, .int ((-4))), (3, .int (x_7)), (0, .ref (G.2.2 (93))), (1, .int (p1)), (2, .int (p2))]) hx hb dX8_compare_22 hl (by decide) rfl (fun ls hl => ?_)
    exact J24_15 _ (-4) 0 _ _ _ (Nat.lt_succ_self _) (by omega) (alP_0 rfl) h (lv_sub hl [3, 4, 5, 2, 1, 0] rfl)
  · have j_13 : ¬ (A2 < (x_10).toInt) := fun q => c_12 ((i_lt a2 rfl).mpr q)
    refine lv_iconst (v := 0) hx hb dX8_compare_15 (by decide) ?_
    exact ret 0 v w sg _ _ _ _ dX8_compare_16 h ⟨Or.inl ⟨by omega, by omega, rfl⟩, rfl, rfl, rfl⟩

set_option maxHeartbeats 4000000 in
set_option maxRecDepth 100000 in
theorem c_X8_pressureOfLost (l : Launch) (G : gG) (v : Nat → Nat → Int32) (w : Nat → Nat → Int64) (sg : Nat → Nat) (p1 : Int32) {A1 : Int} (a1 : p1.toInt = A1) (bp : bPr v) (b1 : -2000000 ≤ A1 ∧ A1 ≤ 2000000) (ci : cI v) : Met l yX8_pressureOfLost wsX8_pressureOfLost ({ frames := 2, cells := 0, slots := 0, locals := 41 }) (gPre G v w sg [.ref (G.2.2 (93)), .int (p1)]) (gQi G (fun r v' w' sg' => (((∃ k : Nat, fsL (v 94) (v 93 0).toInt k ∧ r.toInt = plR (plV (v 96 k).toInt (A1 - (sumN (fun k => v 96 k * v 95 k) (v 93 0).toInt.toNat).toInt))) ∨ (nlL (v 94) (v 93 0).toInt ∧ r = -4))) ∧ v = v' ∧ w = w' ∧ sg = sg')) 0 0 (gA G) := by
  refine gM_ofi (cc := cX8_pressureOfLost) (maxL := 5) (by decide) rfl (Nat.le_of_ble_eq_true rfl) ?_
  intro p e R s m args below meth c Q ls C hR ret h hl
  have hx := C.1.1
  have hb := C.1.2.1
  have hown := C.1.2.2.2.1
  have hts := C.1.2.2.2.2
  have hl : lv_has ls 5 [(0, .ref (G.2.2 (93))), (1, .int (p1))] := hl
  have q1 := i_rng p1; rw [a1] at q1
  have z_m4 : ((-4) : Int32).toInt = (-4) := by decide
  have z_0 : (0 : Int32).toInt = 0 := by decide
  have z_1 : (1 : Int32).toInt = 1 := by decide
  have z_2 : (2 : Int32).toInt = 2 := by decide
  have f9 : Cond.fieldLink RX8 9 "WindHall$Tubes" "count" "I" ∈ wsX8_pressureOfLost := by decide +kernel
  have hi8 : ∀ x ∈ u_ws RX8 TX8 4, x ∈ wsX8_pressureOfLost := fun x q => List.mem_cons_of_mem _ (List.mem_append_right _ q)
  have f15 : Cond.fieldLink RX8 15 "WindHall$Tubes" "isLost" "[Z" ∈ wsX8_pressureOfLost := by decide +kernel
  have f23 : Cond.fieldLink RX8 23 "WindHall$Tubes" "area" "[I" ∈ wsX8_pressureOfLost := by decide +kernel
  have o_1 := ci
  obtain ⟨K1, K2, K3, K4, K5, K6, K7, Ks, K9, Ka, Kr, Kz⟩ := o_1
  refine lv_iload_n hx hb dX8_pressureOfLost_0 rfl (lv_at hl 1 rfl) ?_
  refine lv_aload_n hx hb dX8_pressureOfLost_1 rfl (lv_at hl 0 rfl) ?_
  refine g_calli C (va_runV (As := []) (rest := [.int (p1)]) C.1 (c_X8_sum l G v w sg  ci) (cwV 0 hts gX8_pressureOfLost_X8_sum rfl rfl rfl (by decide +kernel) ⟨by rw [hR]; exact Nat.le_of_ble_eq_true rfl, by rw [hR]; exact Nat.le_of_ble_eq_true rfl⟩) ⟨gPre_blind, g_recv C h 93 (by decide) (ci := 8) rfl rfl, gS_pre C h _⟩ rfl rfl hl.1 rfl (lv_room (Nat.le_of_ble_eq_true rfl)) dX8_pressureOfLost_2 ⟨Nat.zero_le _, Nat.zero_le _⟩) h (fun r_2 v_4 w_5 g_6 H locs p_3 h => ?_)
  obtain ⟨p_3, rfl, rfl, rfl⟩ := p_3
  have hsi : (r_2).toInt = (sumN (fun k => v 96 k * v 95 k) (v 93 0).toInt.toNat).toInt := by rw [p_3]
  have hsb := smC_b (v := v) (n := (v 93 0).toInt) (by omega) Kr bp
  unfold bd at hsb
  refine lv_isub hx hb dX8_pressureOfLost_5 ?_
  refine lv_topi (fun x_7 e_8 => ?_)
  have i_9 : x_7.toInt = A1 - (r_2).toInt := ia_sub e_8 a1 rfl (by omega) (by omega)
  refine lv_istore_n (lv' := [(2, .int (x_7)), (0, .ref (G.2.2 (93))), (1, .int (p1))]) hx hb dX8_pressureOfLost_6 rfl hl (by decide) rfl (fun ls hl => ?_)
  refine lv_iconst (v := 0) hx hb dX8_pressureOfLost_7 (by decide) ?_
  have J9_10 : ∀ (n : Nat) (y_10 : Int32) (H : Heap) (locs : List Loc) (ls : Array Slot), ((v 93 0).toInt - (y_10).toInt).toNat < n → (0 ≤ (y_10).toInt ∧ (y_10).toInt ≤ (v 93 0).toInt) → (nlL (v 94) (y_10).toInt) → gS (gA G) G s v w sg H locs → lv_has ls 5 [(0, .ref (G.2.2 (93))), (1, .int (p1)), (2, .int (x_7)), (3, .int (y_10))] → W p l e R s m args below meth c H locs 0 0 Q (F0 m 9 ls []) := by
    intro n
    induction n with
    | zero => intro y_10 H locs ls hm; exact absurd hm (Nat.not_lt_zero _)
    | succ n ih9 =>
      intro y_10 H locs ls hm f_11 f_12 h hl
      refine lv_iload_n hx hb dX8_pressureOfLost_9 rfl (lv_at hl 3 rfl) ?_
      refine lv_aload_n hx hb dX8_pressureOfLost_10 rfl (lv_at hl 0 rfl) ?_
      refine g_geti (ci := 8) (x := v 93 0) C h 93 (by decide) rfl rfl hi8 0 (by decide) f9 rfl rfl rfl dX8_pressureOfLost_11 ?_
      refine lv_icmp_ge (tgt := 81) hx hb dX8_pressureOfLost_14 (by decide) (fun c_13 => ?_) (fun c_13 => ?_)
      · have j_14 : (v 93 0).toInt ≤ (y_10).toInt := (i_le rfl rfl).mp c_13
        refine lv_bipush (v := (-4)) hx hb dX8_pressureOfLost_81 (by decide) ?_
        exact ret (-4) v w sg _ _ _ _ dX8_pressureOfLost_83 h ⟨Or.inr ⟨(show (y_10).toInt = (v 93 0).toInt by omega) ▸ f_12, rfl⟩, rfl, rfl, rfl⟩
      · have j_14 : ¬ ((v 93 0).toInt ≤ (y_10).toInt) := fun q => c_13 ((i_le rfl rfl).mpr q)
        refine lv_aload_n hx hb dX8_pressureOfLost_17 rfl (lv_at hl 0 rfl) ?_
        refine g_get (ci := 8) (x := .ref (G.2.2 (94))) C h 93 (by decide) rfl rfl hi8 1 (by decide) f15 rfl rfl dX8_pressureOfLost_18 ?_
        refine lv_iload_n hx hb dX8_pressureOfLost_21 rfl (lv_at hl 3 rfl) ?_
        refine g_zald C h 94 (by decide) (by decide) (n := 10) (by decide) (vp_of rfl (by omega) (by omega)) dX8_pressureOfLost_22 ?_
        refine lv_topi (fun x_15 e_16 => ?_)
        have hr22 : (x_15).toInt = (v 94 (y_10 : Int32).toInt.toNat).toInt := by rw [e_16]; rfl
        have J75_16 : ∀ (H : Heap) (locs : List Loc) (ls : Array Slot), ((v 94 (y_10 : Int32).toInt.toNat).toInt = 0) → gS (gA G) G s v w sg H locs → lv_has ls 5 [(0, .ref (G.2.2 (93))), (1, .int (p1)), (2, .int (x_7)), (3, .int (y_10))] → W p l e R s m args below meth c H locs 0 0 Q (F0 m 75 ls []) := by
          intro  H locs ls f_17 h hl
          obtain ⟨x_18, e_19⟩ : ∃ y : Int32, y = y_10 + 1 := ⟨_, rfl⟩
          have i_20 : x_18.toInt = (y_10).toInt + 1 := ia_add e_19 rfl (by decide) (by omega) (by omega)
          refine lv_iinc (v := x_18) (lv' := [(3, .int (x_18)), (0, .ref (G.2.2 (93))), (1, .int (p1)), (2, .int (x_7))]) hx hb dX8_pressureOfLost_75 hl (k := 3) rfl (by rw [e_19]; rfl) (by decide) rfl (fun ls hl => ?_)
          refine lv_goto (tgt := 9) hx hb dX8_pressureOfLost_78 (by decide) ?_
          exact ih9 x_18 _ _ _ (by omega) (by omega) (f_12.st (by omega) (by omega) f_17) h (lv_sub hl [1, 2, 3, 0] rfl)
        refine lv_if_eq (tgt := 75) hx hb dX8_pressureOfLost_23 (by decide) (fun c_21 => ?_) (fun c_21 => ?_)
        · have j_22 : (x_15).toInt = 0 := (i_eq rfl (by decide)).mp c_21
          exact J75_16  _ _ _ (by omega) h (lv_sub hl [0, 1, 2, 3] rfl)
        · have j_22 : ¬ ((x_15).toInt = 0) := fun q => c_21 ((i_eq rfl (by decide)).mpr q)
          refine lv_aload_n hx hb dX8_pressureOfLost_26 rfl (lv_at hl 0 rfl) ?_
          refine g_get (ci := 8) (x := .ref (G.2.2 (96))) C h 93 (by decide) rfl rfl hi8 3 (by decide) f23 rfl rfl dX8_pressureOfLost_27 ?_
          refine lv_iload_n hx hb dX8_pressureOfLost_30 rfl (lv_at hl 3 rfl) ?_
          refine g_iald C h 96 (by decide) (by decide) (n := 10) (by decide) (vp_of rfl (by omega) (by omega)) dX8_pressureOfLost_31 ?_
          refine lv_topi (fun x_23 e_24 => ?_)
          have ha_x_23 := Kr (y_10).toNatClampNeg (by have := cl_of (i := y_10) rfl (by omega); omega)
          rw [← e_24] at ha_x_23
          have hr31 : (x_23).toInt = (v 96 (y_10 : Int32).toInt.toNat).toInt := by rw [e_24]; rfl
          refine lv_if_le (tgt := 75) hx hb dX8_pressureOfLost_32 (by decide) (fun c_25 => ?_) (fun c_25 => ?_)
          · have j_26 : (x_23).toInt ≤ 0 := (i_le rfl (by decide)).mp c_25
            exact J75_16  _ _ _ (by omega) h (lv_sub hl [0, 1, 2, 3] rfl)
          · have j_26 : ¬ ((x_23).toInt ≤ 0) := fun q => c_25 ((i_le rfl (by decide)).mpr q)
            refine lv_aload_n hx hb dX8_pressureOfLost_35 rfl (lv_at hl 0 rfl) ?_
            refine g_get (ci := 8) (x := .ref (G.2.2 (96))) C h 93 (by decide) rfl rfl hi8 3 (by decide) f23 rfl rfl dX8_pressureOfLost_36 ?_
            refine lv_iload_n hx hb dX8_pressureOfLost_39 rfl (lv_at hl 3 rfl) ?_
            refine g_iald C h 96 (by decide) (by decide) (n := 10) (by decide) (vp_of rfl (by omega) (by omega)) dX8_pressureOfLost_40 ?_
            refine lv_topi (fun x_27 e_28 => ?_)
            have ha_x_27 := Kr (y_10).toNatClampNeg (by have := cl_of (i := y_10) rfl (by omega); omega)
            rw [← e_28] at ha_x_27
            have hr40 : (x_27).toInt = (v 96 (y_10 : Int32).toInt.toNat).toInt := by rw [e_28]; rfl
            refine lv_iconst (v := 2) hx hb dX8_pressureOfLost_41 (by decide) ?_
            refine lv_iload_n hx hb dX8_pressureOfLost_42 rfl (lv_at hl 2 rfl) ?_
            refine lv_imul hx hb dX8_pressureOfLost_43 ?_
            refine lv_topi (fun x_29 e_30 => ?_)
            have i_31 : x_29.toInt = 2 * (A1 - (r_2).toInt) := ia_mul e_30 (by decide) i_9 (by omega) (by omega)
            refine lv_isub hx hb dX8_pressureOfLost_44 ?_
            refine lv_topi (fun x_32 e_33 => ?_)
            have i_34 : x_32.toInt = (x_27).toInt - (2 * (A1 - (r_2).toInt)) := ia_sub e_33 rfl i_31 (by omega) (by omega)
            refine lv_iconst (v := 2) hx hb dX8_pressureOfLost_45 (by decide) ?_
            refine lv_aload_n hx hb dX8_pressureOfLost_46 rfl (lv_at hl 0 rfl) ?_
            refine g_get (ci := 8) (x := .ref (G.2.2 (96))) C h 93 (by decide) rfl rfl hi8 3 (by decide) f23 rfl rfl dX8_pressureOfLost_47 ?_
            refine lv_iload_n hx hb dX8_pressureOfLost_50 rfl (lv_at hl 3 rfl) ?_
            refine g_iald C h 96 (by decide) (by decide) (n := 10) (by decide) (vp_of rfl (by omega) (by omega)) dX8_pressureOfLost_51 ?_
            refine lv_topi (fun x_35 e_36 => ?_)
            have ha_x_35 := Kr (y_10).toNatClampNeg (by have := cl_of (i := y_10) rfl (by omega); omega)
            rw [← e_36] at ha_x_35
            have hr51 : (x_35).toInt = (v 96 (y_10 : Int32).toInt.toNat).toInt := by rw [e_36]; rfl
            refine lv_imul hx hb dX8_pressureOfLost_52 ?_
            refine lv_topi (fun x_37 e_38 => ?_)
            have i_39 : x_37.toInt = 2 * (x_35).toInt := ia_mul e_38 (by decide) rfl (by omega) (by omega)
            refine g_calli C (va_runS (As := [.int (x_32), .int (x_37)]) (rest := []) C.1 (c_J9_floorDiv_7cf53 l G v w sg x_32 (A0 := ((x_27).toInt - (2 * (A1 - (r_2).toInt)))) i_34 x_37 (A1 := (2 * (x_35).toInt)) i_39 (by omega)) (va_cwS 2 hts gX8_pressureOfLost_J9_floorDiv_7cf53 rfl rfl rfl (by decide +kernel) ⟨by rw [hR]; exact Nat.le_of_ble_eq_true rfl, by rw [hR]; exact Nat.le_of_ble_eq_true rfl⟩) ⟨gPre_blind, gS_pre C h _⟩ rfl rfl hl.1 rfl (lv_room (Nat.le_of_ble_eq_true rfl)) dX8_pressureOfLost_53 ⟨Nat.zero_le _, Nat.zero_le _⟩) h (fun r_40 v_42 w_43 g_44 H locs p_41 h => ?_)
            obtain ⟨p_41, rfl, rfl, rfl⟩ := p_41
            have hq53 : (r_40).toInt = -plV (v 96 (y_10 : Int32).toInt.toNat).toInt (A1 - (sumN (fun k => v 96 k * v 95 k) (v 93 0).toInt.toNat).toInt) := by rw [p_41.1, hr40, hr51, hsi]; unfold plV; omega
            have hb53 := p_41.2.b (lo := -7000000) (hi := 7000000) (by omega) (by omega) (by omega) (by omega)
            have hfs : fsL (v 94) (v 93 0).toInt (y_10 : Int32).toInt.toNat := f_12.fs (by omega) (by omega) (show (v 94 (y_10 : Int32).toInt.toNat).toInt ≠ 0 by omega)
            refine lv_ineg hx hb dX8_pressureOfLost_56 ?_
            refine lv_topi (fun x_45 e_46 => ?_)
            have i_47 : x_45.toInt = -(r_40).toInt := ia_neg e_46 rfl (by omega)
            refine lv_istore (lv' := [(4, .int (x_45)), (0, .ref (G.2.2 (93))), (1, .int (p1)), (2, .int (x_7)), (3, .int (y_10))]) hx hb dX8_pressureOfLost_57 hl (by decide) rfl (fun ls hl => ?_)
            refine lv_iload hx hb dX8_pressureOfLost_59 (lv_at hl 0 rfl) ?_
            refine g_calli C (va_runS (As := [.int (x_45)]) (rest := []) C.1 (c_X8_isPressure l G v w sg x_45 (A0 := (-(r_40).toInt)) i_47 ci) (va_cwS 1 hts gX8_pressureOfLost_X8_isPressure rfl rfl rfl (by decide +kernel) ⟨by rw [hR]; exact Nat.le_of_ble_eq_true rfl, by rw [hR]; exact Nat.le_of_ble_eq_true rfl⟩) ⟨gPre_blind, gS_pre C h _⟩ rfl rfl hl.1 rfl (lv_room (Nat.le_of_ble_eq_true rfl)) dX8_pressureOfLost_61 ⟨Nat.zero_le _, Nat.zero_le _⟩) h (fun r_48 v_50 w_51 g_52 H locs p_49 h => ?_)
            obtain ⟨p_49, rfl, rfl, rfl⟩ := p_49
            rcases p_49 with ⟨rfl, t_53⟩ | ⟨rfl, t_53⟩
            · skip
              refine lv_if_eq (tgt := 72) hx hb dX8_pressureOfLost_64 (by decide) (fun c_54 => absurd c_54 (by decide)) (fun _ => ?_)
              refine lv_iload hx hb dX8_pressureOfLost_67 (lv_at hl 0 rfl) ?_
              refine lv_goto (tgt := 74) hx hb dX8_pressureOfLost_69 (by decide) ?_
              exact ret x_45 v w sg _ _ _ _ dX8_pressureOfLost_74 h ⟨(by first | exact Or.inl ⟨_, hfs, by rw [plR_i (by omega)]; omega⟩ | exact Or.inl ⟨_, hfs, by rw [plR_o (by omega)]; decide⟩), rfl, rfl, rfl⟩
            · skip
              refine lv_if_eq (tgt := 72) hx hb dX8_pressureOfLost_64 (by decide) (fun _ => ?_) (fun c_55 => absurd (by decide) c_55)
              refine lv_bipush (v := (-4)) hx hb dX8_pressureOfLost_72 (by decide) ?_
              exact ret (-4) v w sg _ _ _ _ dX8_pressureOfLost_74 h ⟨(by first | exact Or.inl ⟨_, hfs, by rw [plR_i (by omega)]; omega⟩ | exact Or.inl ⟨_, hfs, by rw [plR_o (by omega)]; decide⟩), rfl, rfl, rfl⟩
  refine lv_istore_n (lv' := [(3, .int (0)), (2, .int (x_7)), (0, .ref (G.2.2 (93))), (1, .int (p1))]) hx hb dX8_pressureOfLost_8 rfl hl (by decide) rfl (fun ls hl => ?_)
  exact J9_10 _ 0 _ _ _ (Nat.lt_succ_self _) (by omega) nlL_0 h (lv_sub hl [2, 3, 1, 0] rfl)

set_option maxHeartbeats 4000000 in
set_option maxRecDepth 100000 in
theorem c_X7_get (l : Launch) (G : gG) (v : Nat → Nat → Int32) (w : Nat → Nat → Int64) (sg : Nat → Nat) (o : Nat) (p1 : Int32) {A1 : Int} (a1 : p1.toInt = A1) (ho : o = 98 ∨ o = 100 ∨ o = 102 ∨ o = 104) (b1 : 0 ≤ A1 ∧ A1 ≤ 59) (ci : cI v) : Met l yX7_get wsX7_get ({ frames := 0, cells := 0, slots := 0, locals := 0 }) (gPre G v w sg [.ref (G.2.2 (o)), .int (p1)]) (gQi G (fun r v' w' sg' => (r = v (o + 1) A1.toNat) ∧ v = v' ∧ w = w' ∧ sg = sg')) 0 0 (gA G) := by
  refine gM_ofi (cc := cX7_get) (maxL := 2) (by decide) rfl (Nat.le_of_ble_eq_true rfl) ?_
  intro p e R s m args below meth c Q ls C hR ret h hl
  have hx := C.1.1
  have hb := C.1.2.1
  have hown := C.1.2.2.2.1
  have hts := C.1.2.2.2.2
  have hl : lv_has ls 2 [(0, .ref (G.2.2 (o))), (1, .int (p1))] := hl
  have q1 := i_rng p1; rw [a1] at q1
  have z_0 : (0 : Int32).toInt = 0 := by decide
  have z_1 : (1 : Int32).toInt = 1 := by decide
  have f16 : Cond.fieldLink RX7 16 "WindHall$Sheet" "cells" "[I" ∈ wsX7_get := by decide +kernel
  have hi7 : ∀ x ∈ u_ws RX7 TX7 3, x ∈ wsX7_get := fun x q => List.mem_cons_of_mem _ (List.mem_append_right _ q)
  have o_1 := ci
  obtain ⟨K1, K2, K3, K4, K5, K6, K7, Ks, K9, Ka, Kr, Kz⟩ := o_1
  refine lv_aload_n hx hb dX7_get_0 rfl (lv_at hl 0 rfl) ?_
  refine g_get (ci := 7) (x := .ref (G.2.2 ((o + 1)))) C h o (by omega) (g_she ho) rfl hi7 2 (by decide) f16 rfl rfl dX7_get_1 ?_
  refine lv_iload_n hx hb dX7_get_4 rfl (lv_at hl 1 rfl) ?_
  refine g_iald C h (o + 1) (by omega) (g_shc ho).1 (n := 60) (g_shc ho).2 (vp_of a1 (by omega) (by omega)) dX7_get_5 ?_
  refine lv_topi (fun x_2 e_3 => ?_)
  exact ret x_2 v w sg _ _ _ _ dX7_get_6 h ⟨(by rw [e_3, cl_nat a1]), rfl, rfl, rfl⟩

set_option maxHeartbeats 4000000 in
set_option maxRecDepth 100000 in
theorem c_X7_set (l : Launch) (G : gG) (v : Nat → Nat → Int32) (w : Nat → Nat → Int64) (sg : Nat → Nat) (o : Nat) (p1 : Int32) {A1 : Int} (a1 : p1.toInt = A1) (p2 : Int32) {A2 : Int} (a2 : p2.toInt = A2) (ho : o = 98 ∨ o = 100 ∨ o = 102 ∨ o = 104) (b1 : 0 ≤ A1 ∧ A1 ≤ 59) (ci : cI v) : Met l yX7_set wsX7_set ({ frames := 0, cells := 0, slots := 0, locals := 0 }) (gPre G v w sg [.ref (G.2.2 (o)), .int (p1), .int (p2)]) (gQv G (fun v' w' sg' => (cI v' ∧ fC 97 106 v w v' w ∧ v' = gu v (o + 1) A1.toNat (cvt (v o 0).toInt p2)) ∧ w = w' ∧ sg = sg')) 0 0 (gA G) := by
  refine gM_ofv (cc := cX7_set) (maxL := 3) (by decide) rfl (Nat.le_of_ble_eq_true rfl) ?_
  intro p e R s m args below meth c Q ls C hR ret h hl
  have hx := C.1.1
  have hb := C.1.2.1
  have hown := C.1.2.2.2.1
  have hts := C.1.2.2.2.2
  have hl : lv_has ls 3 [(0, .ref (G.2.2 (o))), (1, .int (p1)), (2, .int (p2))] := hl
  have q1 := i_rng p1; rw [a1] at q1
  have q2 := i_rng p2; rw [a2] at q2
  have z_0 : (0 : Int32).toInt = 0 := by decide
  have z_1 : (1 : Int32).toInt = 1 := by decide
  have f9 : Cond.fieldLink RX7 9 "WindHall$Sheet" "lane" "I" ∈ wsX7_set := by decide +kernel
  have hi7 : ∀ x ∈ u_ws RX7 TX7 3, x ∈ wsX7_set := fun x q => List.mem_cons_of_mem _ (List.mem_append_right _ q)
  have f16 : Cond.fieldLink RX7 16 "WindHall$Sheet" "cells" "[I" ∈ wsX7_set := by decide +kernel
  have o_1 := ci
  obtain ⟨K1, K2, K3, K4, K5, K6, K7, Ks, K9, Ka, Kr, Kz⟩ := o_1
  refine lv_aload_n hx hb dX7_set_0 rfl (lv_at hl 0 rfl) ?_
  refine g_geti (ci := 7) (x := v o 0) C h o (by omega) (g_she ho) rfl hi7 0 (by decide) f9 rfl rfl rfl dX7_set_1 ?_
  refine lv_if_ne (tgt := 18) hx hb dX7_set_4 (by decide) (fun c_2 => ?_) (fun c_2 => ?_)
  · have j_3 : ¬ ((v o 0).toInt = 0) := fun q => c_2 ((i_eq rfl (by decide)).mpr q)
    refine lv_aload_n hx hb dX7_set_18 rfl (lv_at hl 0 rfl) ?_
    refine g_geti (ci := 7) (x := v o 0) C h o (by omega) (g_she ho) rfl hi7 0 (by decide) f9 rfl rfl rfl dX7_set_19 ?_
    refine lv_iconst (v := 1) hx hb dX7_set_22 (by decide) ?_
    refine lv_icmp_ne (tgt := 37) hx hb dX7_set_23 (by decide) (fun c_4 => ?_) (fun c_4 => ?_)
    · have j_5 : ¬ ((v o 0).toInt = 1) := fun q => c_4 ((i_eq rfl (by decide)).mpr q)
      refine lv_aload_n hx hb dX7_set_37 rfl (lv_at hl 0 rfl) ?_
      refine g_get (ci := 7) (x := .ref (G.2.2 ((o + 1)))) C h o (by omega) (g_she ho) rfl hi7 2 (by decide) f16 rfl rfl dX7_set_38 ?_
      refine lv_iload_n hx hb dX7_set_41 rfl (lv_at hl 1 rfl) ?_
      refine lv_iload_n hx hb dX7_set_42 rfl (lv_at hl 2 rfl) ?_
      refine g_iast C h (o + 1) (by omega) (g_shc ho).1 (n := 60) (g_shc ho).2 (vp_of a1 (by omega) (by omega)) dX7_set_43 (fun H locs h => ?_)
      obtain ⟨v_6, hv_6⟩ : ∃ z, z = gu v (o + 1) ((p1 : Int32).toNatClampNeg) p2 := ⟨_, rfl⟩
      have h : gS (gA G) G s v_6 w sg H locs := by rw [hv_6]; exact h
      have u_7 : cI v_6 := by rw [hv_6]; exact (cI_o ci (by omega))
      have u_8 : fC 97 106 v w v_6 w := by rw [hv_6]; exact (fC_v fC_rf (by omega))
      exact ret v_6 w sg _ _ _ _ dX7_set_44 h ⟨⟨u_7, u_8, (by rw [hv_6, cl_nat a1]; congr 1; subst_vars; unfold cvt; first | (rw [if_pos (by omega)]; done) | (rw [if_neg (by omega), if_pos (by omega)]; done) | (rw [if_neg (by omega), if_neg (by omega)]; done))⟩, rfl, rfl⟩
    · have j_5 : (v o 0).toInt = 1 := (i_eq rfl (by decide)).mp c_4
      refine lv_aload_n hx hb dX7_set_26 rfl (lv_at hl 0 rfl) ?_
      refine g_get (ci := 7) (x := .ref (G.2.2 ((o + 1)))) C h o (by omega) (g_she ho) rfl hi7 2 (by decide) f16 rfl rfl dX7_set_27 ?_
      refine lv_iload_n hx hb dX7_set_30 rfl (lv_at hl 1 rfl) ?_
      refine lv_iload_n hx hb dX7_set_31 rfl (lv_at hl 2 rfl) ?_
      refine lv_i2s hx hb dX7_set_32 rfl ?_
      refine lv_topi (fun x_9 e_10 => ?_)
      refine g_iast C h (o + 1) (by omega) (g_shc ho).1 (n := 60) (g_shc ho).2 (vp_of a1 (by omega) (by omega)) dX7_set_33 (fun H locs h => ?_)
      obtain ⟨v_11, hv_11⟩ : ∃ z, z = gu v (o + 1) ((p1 : Int32).toNatClampNeg) x_9 := ⟨_, rfl⟩
      have h : gS (gA G) G s v_11 w sg H locs := by rw [hv_11]; exact h
      have u_12 : cI v_11 := by rw [hv_11]; exact (cI_o ci (by omega))
      have u_13 : fC 97 106 v w v_11 w := by rw [hv_11]; exact (fC_v fC_rf (by omega))
      refine lv_goto (tgt := 44) hx hb dX7_set_34 (by decide) ?_
      exact ret v_11 w sg _ _ _ _ dX7_set_44 h ⟨⟨u_12, u_13, (by rw [hv_11, cl_nat a1]; congr 1; subst_vars; unfold cvt; first | (rw [if_pos (by omega)]; done) | (rw [if_neg (by omega), if_pos (by omega)]; done) | (rw [if_neg (by omega), if_neg (by omega)]; done))⟩, rfl, rfl⟩
  · have j_3 : (v o 0).toInt = 0 := (i_eq rfl (by decide)).mp c_2
    refine lv_aload_n hx hb dX7_set_7 rfl (lv_at hl 0 rfl) ?_
    refine g_get (ci := 7) (x := .ref (G.2.2 ((o + 1)))) C h o (by omega) (g_she ho) rfl hi7 2 (by decide) f16 rfl rfl dX7_set_8 ?_
    refine lv_iload_n hx hb dX7_set_11 rfl (lv_at hl 1 rfl) ?_
    refine lv_iload_n hx hb dX7_set_12 rfl (lv_at hl 2 rfl) ?_
    refine lv_i2b hx hb dX7_set_13 rfl ?_
    refine lv_topi (fun x_14 e_15 => ?_)
    refine g_iast C h (o + 1) (by omega) (g_shc ho).1 (n := 60) (g_shc ho).2 (vp_of a1 (by omega) (by omega)) dX7_set_14 (fun H locs h => ?_)
    obtain ⟨v_16, hv_16⟩ : ∃ z, z = gu v (o + 1) ((p1 : Int32).toNatClampNeg) x_14 := ⟨_, rfl⟩
    have h : gS (gA G) G s v_16 w sg H locs := by rw [hv_16]; exact h
    have u_17 : cI v_16 := by rw [hv_16]; exact (cI_o ci (by omega))
    have u_18 : fC 97 106 v w v_16 w := by rw [hv_16]; exact (fC_v fC_rf (by omega))
    refine lv_goto (tgt := 44) hx hb dX7_set_15 (by decide) ?_
    exact ret v_16 w sg _ _ _ _ dX7_set_44 h ⟨⟨u_17, u_18, (by rw [hv_16, cl_nat a1]; congr 1; subst_vars; unfold cvt; first | (rw [if_pos (by omega)]; done) | (rw [if_neg (by omega), if_pos (by omega)]; done) | (rw [if_neg (by omega), if_neg (by omega)]; done))⟩, rfl, rfl⟩

set_option maxHeartbeats 4000000 in
set_option maxRecDepth 100000 in
theorem c_X7_makeNew (l : Launch) (G : gG) (v : Nat → Nat → Int32) (w : Nat → Nat → Int64) (sg : Nat → Nat) (o : Nat) (p1 : Int32) {A1 : Int} (a1 : p1.toInt = A1) (p2 : Int32) {A2 : Int} (a2 : p2.toInt = A2) (ho : o = 98 ∨ o = 100 ∨ o = 102 ∨ o = 104) (b2 : 0 ≤ A2 ∧ A2 ≤ 60) (ci : cI v) : Met l yX7_makeNew wsX7_makeNew ({ frames := 0, cells := 0, slots := 0, locals := 0 }) (gPre G v w sg [.ref (G.2.2 (o)), .int (p1), .int (p2)]) (gQv G (fun v' w' sg' => (cI v' ∧ fC 97 106 v w v' w ∧ v' = va_up (gu (gu v o 0 p1) o 1 p2) (o + 1) (flR (fun _ => 0) (v (o + 1)) 0 60)) ∧ w = w' ∧ sg = sg')) 0 0 (gA G) := by
  refine gM_ofv (cc := cX7_makeNew) (maxL := 4) (by decide) rfl (Nat.le_of_ble_eq_true rfl) ?_
  intro p e R s m args below meth c Q ls C hR ret h hl
  have hx := C.1.1
  have hb := C.1.2.1
  have hown := C.1.2.2.2.1
  have hts := C.1.2.2.2.2
  have hl : lv_has ls 4 [(0, .ref (G.2.2 (o))), (1, .int (p1)), (2, .int (p2))] := hl
  have q1 := i_rng p1; rw [a1] at q1
  have q2 := i_rng p2; rw [a2] at q2
  have z_0 : (0 : Int32).toInt = 0 := by decide
  have z_1 : (1 : Int32).toInt = 1 := by decide
  have z_60 : (60 : Int32).toInt = 60 := by decide
  have f9 : Cond.fieldLink RX7 9 "WindHall$Sheet" "lane" "I" ∈ wsX7_makeNew := by decide +kernel
  have hi7 : ∀ x ∈ u_ws RX7 TX7 3, x ∈ wsX7_makeNew := fun x q => List.mem_cons_of_mem _ (List.mem_append_right _ q)
  have f13 : Cond.fieldLink RX7 13 "WindHall$Sheet" "size" "I" ∈ wsX7_makeNew := by decide +kernel
  have f16 : Cond.fieldLink RX7 16 "WindHall$Sheet" "cells" "[I" ∈ wsX7_makeNew := by decide +kernel
  have o_1 := ci
  obtain ⟨K1, K2, K3, K4, K5, K6, K7, Ks, K9, Ka, Kr, Kz⟩ := o_1
  refine lv_aload_n hx hb dX7_makeNew_0 rfl (lv_at hl 0 rfl) ?_
  refine lv_iload_n hx hb dX7_makeNew_1 rfl (lv_at hl 1 rfl) ?_
  refine g_put (ci := 7) (x := p1) (ty := .int) C h o (by omega) (g_she ho) rfl hi7 tyX7 tyX7_ok nmX7 0 (by decide) f9 rfl rfl (by decide +kernel) rfl rfl (Nat.le_of_ble_eq_true rfl) (g_shs ho (by decide) p1) dX7_makeNew_2 (fun H locs h => ?_)
  obtain ⟨v_2, hv_2⟩ : ∃ z, z = gu v o 0 p1 := ⟨_, rfl⟩
  have h : gS (gA G) G s v_2 w sg H locs := by rw [hv_2]; exact h
  have u_3 : cI v_2 := by rw [hv_2]; exact (cI_sh ci (by omega) (by omega))
  have u_4 : fC 97 106 v w v_2 w := by rw [hv_2]; exact (fC_v fC_rf (by omega))
  refine lv_aload_n hx hb dX7_makeNew_5 rfl (lv_at hl 0 rfl) ?_
  refine lv_iload_n hx hb dX7_makeNew_6 rfl (lv_at hl 2 rfl) ?_
  refine g_put (ci := 7) (x := p2) (ty := .int) C h o (by omega) (g_she ho) rfl hi7 tyX7 tyX7_ok nmX7 1 (by decide) f13 rfl rfl (by decide +kernel) rfl rfl (Nat.le_of_ble_eq_true rfl) (g_shs ho (by decide) p2) dX7_makeNew_7 (fun H locs h => ?_)
  obtain ⟨v_5, hv_5⟩ : ∃ z, z = gu v_2 o 1 p2 := ⟨_, rfl⟩
  have h : gS (gA G) G s v_5 w sg H locs := by rw [hv_5]; exact h
  have u_6 : cI v_5 := by rw [hv_5]; exact (cI_sh u_3 (by omega) (by omega))
  have u_7 : fC 97 106 v w v_5 w := by rw [hv_5]; exact (fC_v u_4 (by omega))
  refine lv_iconst (v := 0) hx hb dX7_makeNew_10 (by decide) ?_
  have J12_9 : ∀ (n : Nat) (y_8 : Int32) (v_9 : Nat → Nat → Int32) (H : Heap) (locs : List Loc) (ls : Array Slot), (60 - (y_8).toInt).toNat < n → (cI v_9) → (fC 97 106 v w v_9 w) → (0 ≤ (y_8).toInt ∧ (y_8).toInt ≤ 60) → (v_9 = va_up v_5 (o + 1) (flR (fun _ => 0) (v_5 (o + 1)) 0 (y_8).toInt)) → gS (gA G) G s v_9 w sg H locs → lv_has ls 4 [(0, .ref (G.2.2 (o))), (1, .int (p1)), (2, .int (p2)), (3, .int (y_8))] → W p l e R s m args below meth c H locs 0 0 Q (F0 m 12 ls []) := by
    intro n
    induction n with
    | zero => intro y_8 v_9 H locs ls hm; exact absurd hm (Nat.not_lt_zero _)
    | succ n ih12 =>
      intro y_8 v_9 H locs ls hm u_10 u_11 f_12 f_13 h hl
      have o_14 := u_10
      obtain ⟨K1, K2, K3, K4, K5, K6, K7, Ks, K9, Ka, Kr, Kz⟩ := o_14
      refine lv_iload_n hx hb dX7_makeNew_12 rfl (lv_at hl 3 rfl) ?_
      refine lv_bipush (v := 60) hx hb dX7_makeNew_13 (by decide) ?_
      refine lv_icmp_ge (tgt := 31) hx hb dX7_makeNew_15 (by decide) (fun c_15 => ?_) (fun c_15 => ?_)
      · have j_16 : 60 ≤ (y_8).toInt := (i_le (by decide) rfl).mp c_15
        exact ret v_9 w sg _ _ _ _ dX7_makeNew_31 h ⟨⟨u_10, u_11, (f_13.trans (by rw [hv_5, hv_2, show (y_8).toInt = 60 by omega, gu_o (show o + 1 ≠ o by omega), gu_o (show o + 1 ≠ o by omega)]))⟩, rfl, rfl⟩
      · have j_16 : ¬ (60 ≤ (y_8).toInt) := fun q => c_15 ((i_le (by decide) rfl).mpr q)
        refine lv_aload_n hx hb dX7_makeNew_18 rfl (lv_at hl 0 rfl) ?_
        refine g_get (ci := 7) (x := .ref (G.2.2 ((o + 1)))) C h o (by omega) (g_she ho) rfl hi7 2 (by decide) f16 rfl rfl dX7_makeNew_19 ?_
        refine lv_iload_n hx hb dX7_makeNew_22 rfl (lv_at hl 3 rfl) ?_
        refine lv_iconst (v := 0) hx hb dX7_makeNew_23 (by decide) ?_
        refine g_iast C h (o + 1) (by omega) (g_shc ho).1 (n := 60) (g_shc ho).2 (vp_of rfl (by omega) (by omega)) dX7_makeNew_24 (fun H locs h => ?_)
        obtain ⟨v_17, hv_17⟩ : ∃ z, z = gu v_9 (o + 1) ((y_8 : Int32).toNatClampNeg) 0 := ⟨_, rfl⟩
        have h : gS (gA G) G s v_17 w sg H locs := by rw [hv_17]; exact h
        have u_18 : cI v_17 := by rw [hv_17]; exact (cI_o u_10 (by omega))
        have u_19 : fC 97 106 v w v_17 w := by rw [hv_17]; exact (fC_v u_11 (by omega))
        obtain ⟨x_20, e_21⟩ : ∃ y : Int32, y = y_8 + 1 := ⟨_, rfl⟩
        have i_22 : x_20.toInt = (y_8).toInt + 1 := ia_add e_21 rfl (by decide) (by omega) (by omega)
        refine lv_iinc (v := x_20) (lv' := [(3, .int (x_20)), (0, .ref (G.2.2 (o))), (1, .int (p1)), (2, .int (p2))]) hx hb dX7_makeNew_25 hl (k := 3) rfl (by rw [e_21]; rfl) (by decide) rfl (fun ls hl => ?_)
        refine lv_goto (tgt := 12) hx hb dX7_makeNew_28 (by decide) ?_
        exact ih12 x_20 v_17 _ _ _ (by omega) u_18 u_19 (by omega) (hv_17.trans (rr_st f_13 rfl (by omega) (by omega) rfl (by omega))) h (lv_sub hl [1, 2, 3, 0] rfl)
  refine lv_istore_n (lv' := [(3, .int (0)), (0, .ref (G.2.2 (o))), (1, .int (p1)), (2, .int (p2))]) hx hb dX7_makeNew_11 rfl hl (by decide) rfl (fun ls hl => ?_)
  exact J12_9 _ 0 v_5 _ _ _ (Nat.lt_succ_self _) u_6 u_7 (by omega) (fl_e (by decide)) h (lv_sub hl [1, 2, 3, 0] rfl)

set_option maxHeartbeats 4000000 in
set_option maxRecDepth 100000 in
theorem c_X7_faultOfLane (l : Launch) (G : gG) (v : Nat → Nat → Int32) (w : Nat → Nat → Int64) (sg : Nat → Nat) (o : Nat) (p1 : Int32) {A1 : Int} (a1 : p1.toInt = A1) (ho : o = 98 ∨ o = 100 ∨ o = 102 ∨ o = 104) (ci : cI v) : Met l yX7_faultOfLane wsX7_faultOfLane ({ frames := 0, cells := 0, slots := 0, locals := 0 }) (gPre G v w sg [.ref (G.2.2 (o)), .int (p1)]) (gQi G (fun r v' w' sg' => (r = flL (v o 0).toInt A1) ∧ v = v' ∧ w = w' ∧ sg = sg')) 0 0 (gA G) := by
  refine gM_ofi (cc := cX7_faultOfLane) (maxL := 2) (by decide) rfl (Nat.le_of_ble_eq_true rfl) ?_
  intro p e R s m args below meth c Q ls C hR ret h hl
  have hx := C.1.1
  have hb := C.1.2.1
  have hown := C.1.2.2.2.1
  have hts := C.1.2.2.2.2
  have hl : lv_has ls 2 [(0, .ref (G.2.2 (o))), (1, .int (p1))] := hl
  have q1 := i_rng p1; rw [a1] at q1
  have z_m1 : ((-1) : Int32).toInt = (-1) := by decide
  have z_0 : (0 : Int32).toInt = 0 := by decide
  have z_1 : (1 : Int32).toInt = 1 := by decide
  have z_3 : (3 : Int32).toInt = 3 := by decide
  have f9 : Cond.fieldLink RX7 9 "WindHall$Sheet" "lane" "I" ∈ wsX7_faultOfLane := by decide +kernel
  have hi7 : ∀ x ∈ u_ws RX7 TX7 3, x ∈ wsX7_faultOfLane := fun x q => List.mem_cons_of_mem _ (List.mem_append_right _ q)
  have o_1 := ci
  obtain ⟨K1, K2, K3, K4, K5, K6, K7, Ks, K9, Ka, Kr, Kz⟩ := o_1
  refine lv_aload_n hx hb dX7_faultOfLane_0 rfl (lv_at hl 0 rfl) ?_
  refine g_geti (ci := 7) (x := v o 0) C h o (by omega) (g_she ho) rfl hi7 0 (by decide) f9 rfl rfl rfl dX7_faultOfLane_1 ?_
  refine lv_iconst (v := (-1)) hx hb dX7_faultOfLane_4 (by decide) ?_
  refine lv_icmp_ne (tgt := 10) hx hb dX7_faultOfLane_5 (by decide) (fun c_2 => ?_) (fun c_2 => ?_)
  · have j_3 : ¬ ((v o 0).toInt = (-1)) := fun q => c_2 ((i_eq rfl (by decide)).mpr q)
    refine lv_aload_n hx hb dX7_faultOfLane_10 rfl (lv_at hl 0 rfl) ?_
    refine g_geti (ci := 7) (x := v o 0) C h o (by omega) (g_she ho) rfl hi7 0 (by decide) f9 rfl rfl rfl dX7_faultOfLane_11 ?_
    refine lv_iload_n hx hb dX7_faultOfLane_14 rfl (lv_at hl 1 rfl) ?_
    refine lv_icmp_ne (tgt := 22) hx hb dX7_faultOfLane_15 (by decide) (fun c_4 => ?_) (fun c_4 => ?_)
    · have j_5 : ¬ ((v o 0).toInt = A1) := fun q => c_4 ((i_eq rfl a1).mpr q)
      refine lv_iconst (v := 3) hx hb dX7_faultOfLane_22 (by decide) ?_
      exact ret 3 v w sg _ _ _ _ dX7_faultOfLane_23 h ⟨(by unfold flL; first | (rw [if_pos (by omega)]; done) | (rw [if_neg (by omega), if_pos (by omega)]; done) | (rw [if_neg (by omega), if_neg (by omega)]; done)), rfl, rfl, rfl⟩
    · have j_5 : (v o 0).toInt = A1 := (i_eq rfl a1).mp c_4
      refine lv_iconst (v := 0) hx hb dX7_faultOfLane_18 (by decide) ?_
      refine lv_goto (tgt := 23) hx hb dX7_faultOfLane_19 (by decide) ?_
      exact ret 0 v w sg _ _ _ _ dX7_faultOfLane_23 h ⟨(by unfold flL; first | (rw [if_pos (by omega)]; done) | (rw [if_neg (by omega), if_pos (by omega)]; done) | (rw [if_neg (by omega), if_neg (by omega)]; done)), rfl, rfl, rfl⟩
  · have j_3 : (v o 0).toInt = (-1) := (i_eq rfl (by decide)).mp c_2
    refine lv_iconst (v := 1) hx hb dX7_faultOfLane_8 (by decide) ?_
    exact ret 1 v w sg _ _ _ _ dX7_faultOfLane_9 h ⟨(by unfold flL; first | (rw [if_pos (by omega)]; done) | (rw [if_neg (by omega), if_pos (by omega)]; done) | (rw [if_neg (by omega), if_neg (by omega)]; done)), rfl, rfl, rfl⟩

set_option maxHeartbeats 4000000 in
set_option maxRecDepth 100000 in
theorem c_X7_faultOfCells (l : Launch) (G : gG) (v : Nat → Nat → Int32) (w : Nat → Nat → Int64) (sg : Nat → Nat) (o : Nat) (p1 : Int32) {A1 : Int} (a1 : p1.toInt = A1) (p2 : Int32) {A2 : Int} (a2 : p2.toInt = A2) (ho : o = 98 ∨ o = 100 ∨ o = 102 ∨ o = 104) (b2 : 0 ≤ A2 ∧ A2 ≤ 10) (ci : cI v) : Met l yX7_faultOfCells wsX7_faultOfCells ({ frames := 0, cells := 0, slots := 0, locals := 0 }) (gPre G v w sg [.ref (G.2.2 (o)), .int (p1), .int (p2)]) (gQi G (fun r v' w' sg' => (r = flC (v o 0).toInt (v o 1).toInt A1 A2) ∧ v = v' ∧ w = w' ∧ sg = sg')) 0 0 (gA G) := by
  refine gM_ofi (cc := cX7_faultOfCells) (maxL := 4) (by decide) rfl (Nat.le_of_ble_eq_true rfl) ?_
  intro p e R s m args below meth c Q ls C hR ret h hl
  have hx := C.1.1
  have hb := C.1.2.1
  have hown := C.1.2.2.2.1
  have hts := C.1.2.2.2.2
  have hl : lv_has ls 4 [(0, .ref (G.2.2 (o))), (1, .int (p1)), (2, .int (p2))] := hl
  have q1 := i_rng p1; rw [a1] at q1
  have q2 := i_rng p2; rw [a2] at q2
  have hz := sz_of ci ho
  have z_m1 : ((-1) : Int32).toInt = (-1) := by decide
  have z_0 : (0 : Int32).toInt = 0 := by decide
  have z_1 : (1 : Int32).toInt = 1 := by decide
  have z_2 : (2 : Int32).toInt = 2 := by decide
  have f9 : Cond.fieldLink RX7 9 "WindHall$Sheet" "lane" "I" ∈ wsX7_faultOfCells := by decide +kernel
  have hi7 : ∀ x ∈ u_ws RX7 TX7 3, x ∈ wsX7_faultOfCells := fun x q => List.mem_cons_of_mem _ (List.mem_append_right _ q)
  have f13 : Cond.fieldLink RX7 13 "WindHall$Sheet" "size" "I" ∈ wsX7_faultOfCells := by decide +kernel
  have o_1 := ci
  obtain ⟨K1, K2, K3, K4, K5, K6, K7, Ks, K9, Ka, Kr, Kz⟩ := o_1
  refine lv_aload_n hx hb dX7_faultOfCells_0 rfl (lv_at hl 0 rfl) ?_
  refine g_geti (ci := 7) (x := v o 0) C h o (by omega) (g_she ho) rfl hi7 0 (by decide) f9 rfl rfl rfl dX7_faultOfCells_1 ?_
  refine lv_iconst (v := (-1)) hx hb dX7_faultOfCells_4 (by decide) ?_
  refine lv_icmp_ne (tgt := 10) hx hb dX7_faultOfCells_5 (by decide) (fun c_2 => ?_) (fun c_2 => ?_)
  · have j_3 : ¬ ((v o 0).toInt = (-1)) := fun q => c_2 ((i_eq rfl (by decide)).mpr q)
    refine lv_iload_n hx hb dX7_faultOfCells_10 rfl (lv_at hl 2 rfl) ?_
    have J33_4 : ∀ (y_4 : Int32) (H : Heap) (locs : List Loc) (ls : Array Slot), (((y_4).toInt = 1 ∧ (A2 = 0 ∨ (0 ≤ A1 ∧ A1 ≤ (v o 1).toInt - A2))) ∨ ((y_4).toInt = 0 ∧ ¬ (A2 = 0 ∨ (0 ≤ A1 ∧ A1 ≤ (v o 1).toInt - A2)))) → gS (gA G) G s v w sg H locs → lv_has ls 4 [(0, .ref (G.2.2 (o))), (1, .int (p1)), (2, .int (p2))] → W p l e R s m args below meth c H locs 0 0 Q (F0 m 33 ls [.int (y_4)]) := by
      intro y_4 H locs ls f_5 h hl
      refine lv_istore_n (lv' := [(3, .int (y_4)), (0, .ref (G.2.2 (o))), (1, .int (p1)), (2, .int (p2))]) hx hb dX7_faultOfCells_33 rfl hl (by decide) rfl (fun ls hl => ?_)
      refine lv_iload_n hx hb dX7_faultOfCells_34 rfl (lv_at hl 0 rfl) ?_
      refine lv_if_eq (tgt := 42) hx hb dX7_faultOfCells_35 (by decide) (fun c_6 => ?_) (fun c_6 => ?_)
      · have j_7 : (y_4).toInt = 0 := (i_eq rfl (by decide)).mp c_6
        refine lv_iconst (v := 2) hx hb dX7_faultOfCells_42 (by decide) ?_
        exact ret 2 v w sg _ _ _ _ dX7_faultOfCells_43 h ⟨(by unfold flC; first | (rw [if_pos (by omega)]; done) | (rw [if_neg (by omega), if_pos (by omega)]; done) | (rw [if_neg (by omega), if_neg (by omega)]; done)), rfl, rfl, rfl⟩
      · have j_7 : ¬ ((y_4).toInt = 0) := fun q => c_6 ((i_eq rfl (by decide)).mpr q)
        refine lv_iconst (v := 0) hx hb dX7_faultOfCells_38 (by decide) ?_
        refine lv_goto (tgt := 43) hx hb dX7_faultOfCells_39 (by decide) ?_
        exact ret 0 v w sg _ _ _ _ dX7_faultOfCells_43 h ⟨(by unfold flC; first | (rw [if_pos (by omega)]; done) | (rw [if_neg (by omega), if_pos (by omega)]; done) | (rw [if_neg (by omega), if_neg (by omega)]; done)), rfl, rfl, rfl⟩
    have J28_7 : ∀ (H : Heap) (locs : List Loc) (ls : Array Slot), ((A2 = 0 ∨ (0 ≤ A1 ∧ A1 ≤ (v o 1).toInt - A2))) → gS (gA G) G s v w sg H locs → lv_has ls 4 [(0, .ref (G.2.2 (o))), (1, .int (p1)), (2, .int (p2))] → W p l e R s m args below meth c H locs 0 0 Q (F0 m 28 ls []) := by
      intro  H locs ls f_8 h hl
      refine lv_iconst (v := 1) hx hb dX7_faultOfCells_28 (by decide) ?_
      refine lv_goto (tgt := 33) hx hb dX7_faultOfCells_29 (by decide) ?_
      exact J33_4 1 _ _ _ (by omega) h (lv_sub hl [0, 1, 2] rfl)
    refine lv_if_eq (tgt := 28) hx hb dX7_faultOfCells_11 (by decide) (fun c_9 => ?_) (fun c_9 => ?_)
    · have j_10 : A2 = 0 := (i_eq a2 (by decide)).mp c_9
      exact J28_7  _ _ _ (by omega) h (lv_sub hl [0, 1, 2] rfl)
    · have j_10 : ¬ (A2 = 0) := fun q => c_9 ((i_eq a2 (by decide)).mpr q)
      refine lv_iload_n hx hb dX7_faultOfCells_14 rfl (lv_at hl 1 rfl) ?_
      have J32_10 : ∀ (H : Heap) (locs : List Loc) (ls : Array Slot), (¬ (A2 = 0 ∨ (0 ≤ A1 ∧ A1 ≤ (v o 1).toInt - A2))) → gS (gA G) G s v w sg H locs → lv_has ls 4 [(0, .ref (G.2.2 (o))), (1, .int (p1)), (2, .int (p2))] → W p l e R s m args below meth c H locs 0 0 Q (F0 m 32 ls []) := by
        intro  H locs ls f_11 h hl
        refine lv_iconst (v := 0) hx hb dX7_faultOfCells_32 (by decide) ?_
        exact J33_4 0 _ _ _ (by omega) h (lv_sub hl [0, 1, 2] rfl)
      refine lv_if_lt (tgt := 32) hx hb dX7_faultOfCells_15 (by decide) (fun c_12 => ?_) (fun c_12 => ?_)
      · have j_13 : A1 < 0 := (i_lt a1 (by decide)).mp c_12
        exact J32_10  _ _ _ (by omega) h (lv_sub hl [0, 1, 2] rfl)
      · have j_13 : ¬ (A1 < 0) := fun q => c_12 ((i_lt a1 (by decide)).mpr q)
        refine lv_iload_n hx hb dX7_faultOfCells_18 rfl (lv_at hl 1 rfl) ?_
        refine lv_aload_n hx hb dX7_faultOfCells_19 rfl (lv_at hl 0 rfl) ?_
        refine g_geti (ci := 7) (x := v o 1) C h o (by omega) (g_she ho) rfl hi7 1 (by decide) f13 rfl rfl rfl dX7_faultOfCells_20 ?_
        refine lv_iload_n hx hb dX7_faultOfCells_23 rfl (lv_at hl 2 rfl) ?_
        refine lv_isub hx hb dX7_faultOfCells_24 ?_
        refine lv_topi (fun x_14 e_15 => ?_)
        have i_16 : x_14.toInt = (v o 1).toInt - A2 := ia_sub e_15 rfl a2 (by omega) (by omega)
        refine lv_icmp_gt (tgt := 32) hx hb dX7_faultOfCells_25 (by decide) (fun c_17 => ?_) (fun c_17 => ?_)
        · have j_18 : ((v o 1).toInt - A2) < A1 := (i_lt i_16 a1).mp c_17
          exact J32_10  _ _ _ (by omega) h (lv_sub hl [0, 1, 2] rfl)
        · have j_18 : ¬ (((v o 1).toInt - A2) < A1) := fun q => c_17 ((i_lt i_16 a1).mpr q)
          exact J28_7  _ _ _ (by omega) h (lv_sub hl [0, 1, 2] rfl)
  · have j_3 : (v o 0).toInt = (-1) := (i_eq rfl (by decide)).mp c_2
    refine lv_iconst (v := 1) hx hb dX7_faultOfCells_8 (by decide) ?_
    exact ret 1 v w sg _ _ _ _ dX7_faultOfCells_9 h ⟨(by unfold flC; first | (rw [if_pos (by omega)]; done) | (rw [if_neg (by omega), if_pos (by omega)]; done) | (rw [if_neg (by omega), if_neg (by omega)]; done)), rfl, rfl, rfl⟩

set_option maxHeartbeats 4000000 in
set_option maxRecDepth 100000 in
theorem c_X8_takeFrom (l : Launch) (G : gG) (v : Nat → Nat → Int32) (w : Nat → Nat → Int64) (sg : Nat → Nat) (o1 : Nat) (p2 : Int32) {A2 : Int} (a2 : p2.toInt = A2) (hs : o1 = 98 ∨ o1 = 100 ∨ o1 = 102 ∨ o1 = 104) (bf : (v 93 0).toInt ≤ 0 ∨ (0 ≤ A2 ∧ A2 + (v 93 0).toInt ≤ 60)) (ci : cI v) : Met l yX8_takeFrom wsX8_takeFrom ({ frames := 2, cells := 0, slots := 0, locals := 41 }) (gPre G v w sg [.ref (G.2.2 (93)), .ref (G.2.2 (o1)), .int (p2)]) (gQv G (fun v' w' sg' => (cI v' ∧ fC 93 97 v w v' w ∧ v' = va_up (va_up v 94 (flN (fun k => lostOf (v (o1 + 1) (A2.toNat + k))) (v 94) (v 93 0).toInt)) 95 (flN (fun k => prsOf (v (o1 + 1) (A2.toNat + k))) (v 95) (v 93 0).toInt)) ∧ w = w' ∧ sg = sg')) 0 0 (gA G) := by
  refine gM_ofv (cc := cX8_takeFrom) (maxL := 5) (by decide) rfl (Nat.le_of_ble_eq_true rfl) ?_
  intro p e R s m args below meth c Q ls C hR ret h hl
  have hx := C.1.1
  have hb := C.1.2.1
  have hown := C.1.2.2.2.1
  have hts := C.1.2.2.2.2
  have hl : lv_has ls 5 [(0, .ref (G.2.2 (93))), (1, .ref (G.2.2 (o1))), (2, .int (p2))] := hl
  have q2 := i_rng p2; rw [a2] at q2
  have z_0 : (0 : Int32).toInt = 0 := by decide
  have z_1 : (1 : Int32).toInt = 1 := by decide
  have f9 : Cond.fieldLink RX8 9 "WindHall$Tubes" "count" "I" ∈ wsX8_takeFrom := by decide +kernel
  have hi8 : ∀ x ∈ u_ws RX8 TX8 4, x ∈ wsX8_takeFrom := fun x q => List.mem_cons_of_mem _ (List.mem_append_left _ (List.mem_append_right _ q))
  have f15 : Cond.fieldLink RX8 15 "WindHall$Tubes" "isLost" "[Z" ∈ wsX8_takeFrom := by decide +kernel
  have f19 : Cond.fieldLink RX8 19 "WindHall$Tubes" "pressure" "[I" ∈ wsX8_takeFrom := by decide +kernel
  have o_1 := ci
  obtain ⟨K1, K2, K3, K4, K5, K6, K7, Ks, K9, Ka, Kr, Kz⟩ := o_1
  refine lv_iconst (v := 0) hx hb dX8_takeFrom_0 (by decide) ?_
  have J2_3 : ∀ (n : Nat) (y_2 : Int32) (v_3 : Nat → Nat → Int32) (H : Heap) (locs : List Loc) (ls : Array Slot), ((v 93 0).toInt - (y_2).toInt).toNat < n → (cI v_3) → (fC 93 97 v w v_3 w) → (0 ≤ (y_2).toInt ∧ (y_2).toInt ≤ (v 93 0).toInt) → (v_3 = va_up (va_up v 94 (flN (fun k => lostOf (v (o1 + 1) (A2.toNat + k))) (v 94) (y_2).toInt)) 95 (flN (fun k => prsOf (v (o1 + 1) (A2.toNat + k))) (v 95) (y_2).toInt)) → gS (gA G) G s v_3 w sg H locs → lv_has ls 5 [(0, .ref (G.2.2 (93))), (1, .ref (G.2.2 (o1))), (2, .int (p2)), (3, .int (y_2))] → W p l e R s m args below meth c H locs 0 0 Q (F0 m 2 ls []) := by
    intro n
    induction n with
    | zero => intro y_2 v_3 H locs ls hm; exact absurd hm (Nat.not_lt_zero _)
    | succ n ih2 =>
      intro y_2 v_3 H locs ls hm u_4 u_5 f_6 f_7 h hl
      have o_8 := u_4
      obtain ⟨K1, K2, K3, K4, K5, K6, K7, Ks, K9, Ka, Kr, Kz⟩ := o_8
      have e93 : ((v_3) 93 0).toInt = (v 93 0).toInt := by rw [f_7]; rfl
      refine lv_iload_n hx hb dX8_takeFrom_2 rfl (lv_at hl 3 rfl) ?_
      refine lv_aload_n hx hb dX8_takeFrom_3 rfl (lv_at hl 0 rfl) ?_
      refine g_geti (ci := 8) (x := v_3 93 0) C h 93 (by decide) rfl rfl hi8 0 (by decide) f9 rfl rfl rfl dX8_takeFrom_4 ?_
      refine lv_icmp_ge (tgt := 65) hx hb dX8_takeFrom_7 (by decide) (fun c_9 => ?_) (fun c_9 => ?_)
      · have j_10 : (v_3 93 0).toInt ≤ (y_2).toInt := (i_le rfl rfl).mp c_9
        exact ret v_3 w sg _ _ _ _ dX8_takeFrom_65 h ⟨⟨u_4, u_5, (f_7.trans (by rw [show (y_2).toInt = (v 93 0).toInt by omega]))⟩, rfl, rfl⟩
      · have j_10 : ¬ ((v_3 93 0).toInt ≤ (y_2).toInt) := fun q => c_9 ((i_le rfl rfl).mpr q)
        have hf2 : 0 ≤ A2 ∧ A2 ≤ 60 := by omega
        refine lv_aload_n hx hb dX8_takeFrom_10 rfl (lv_at hl 1 rfl) ?_
        refine lv_iload_n hx hb dX8_takeFrom_11 rfl (lv_at hl 2 rfl) ?_
        refine lv_iload_n hx hb dX8_takeFrom_12 rfl (lv_at hl 3 rfl) ?_
        refine lv_iadd hx hb dX8_takeFrom_13 ?_
        refine lv_topi (fun x_11 e_12 => ?_)
        have i_13 : x_11.toInt = A2 + (y_2).toInt := ia_add e_12 a2 rfl (by omega) (by omega)
        refine g_calli C (va_runV (As := [.int (x_11)]) (rest := []) C.1 (c_X7_get l G v_3 w sg o1 x_11 (A1 := (A2 + (y_2).toInt)) i_13 (by omega) (by omega) u_4) (cwV 1 hts gX8_takeFrom_X7_get rfl rfl rfl (by decide +kernel) ⟨by rw [hR]; exact Nat.le_of_ble_eq_true rfl, by rw [hR]; exact Nat.le_of_ble_eq_true rfl⟩) ⟨gPre_blind, g_recv C h o1 (by omega) (ci := 7) (g_she hs) rfl, gS_pre C h _⟩ rfl rfl hl.1 rfl (lv_room (Nat.le_of_ble_eq_true rfl)) dX8_takeFrom_14 ⟨Nat.zero_le _, Nat.zero_le _⟩) h (fun r_14 v_16 w_17 g_18 H locs p_15 h => ?_)
        obtain ⟨p_15, rfl, rfl, rfl⟩ := p_15
        have hcl : r_14 = v (o1 + 1) (A2.toNat + (y_2 : Int32).toInt.toNat) := by rw [p_15, f_7, up_n (by omega), up_n (by omega), show (A2 + (y_2 : Int32).toInt).toNat = A2.toNat + (y_2 : Int32).toInt.toNat by omega]
        refine lv_istore (lv' := [(4, .int (r_14)), (0, .ref (G.2.2 (93))), (1, .ref (G.2.2 (o1))), (2, .int (p2)), (3, .int (y_2))]) hx hb dX8_takeFrom_17 hl (by decide) rfl (fun ls hl => ?_)
        refine lv_aload_n hx hb dX8_takeFrom_19 rfl (lv_at hl 1 rfl) ?_
        refine g_get (ci := 8) (x := .ref (G.2.2 (94))) C h 93 (by decide) rfl rfl hi8 1 (by decide) f15 rfl rfl dX8_takeFrom_20 ?_
        refine lv_iload_n hx hb dX8_takeFrom_23 rfl (lv_at hl 4 rfl) ?_
        refine lv_iload hx hb dX8_takeFrom_24 (lv_at hl 0 rfl) ?_
        refine g_calli C (va_runS (As := [.int (r_14)]) (rest := [.int (y_2), .ref (G.2.2 (94))]) C.1 (c_X8_isPressure l G v_3 w sg r_14 (A0 := (r_14).toInt) rfl u_4) (va_cwS 1 hts gX8_takeFrom_X8_isPressure rfl rfl rfl (by decide +kernel) ⟨by rw [hR]; exact Nat.le_of_ble_eq_true rfl, by rw [hR]; exact Nat.le_of_ble_eq_true rfl⟩) ⟨gPre_blind, gS_pre C h _⟩ rfl rfl hl.1 rfl (lv_room (Nat.le_of_ble_eq_true rfl)) dX8_takeFrom_26 ⟨Nat.zero_le _, Nat.zero_le _⟩) h (fun r_19 v_21 w_22 g_23 H locs p_20 h => ?_)
        obtain ⟨p_20, rfl, rfl, rfl⟩ := p_20
        rcases p_20 with ⟨rfl, t_24⟩ | ⟨rfl, t_24⟩
        · skip
          have J37_25 : ∀ (y_25 : Int32) (H : Heap) (locs : List Loc) (ls : Array Slot), (y_25 = lostOf r_14) → gS (gA G) G s v_3 w sg H locs → lv_has ls 5 [(0, .ref (G.2.2 (93))), (1, .ref (G.2.2 (o1))), (2, .int (p2)), (3, .int (y_2)), (4, .int (r_14))] → W p l e R s m args below meth c H locs 0 0 Q (F0 m 37 ls [.int (y_25), .int (y_2), .ref (G.2.2 (94))]) := by
            intro y_25 H locs ls f_26 h hl
            refine g_zast C h 94 (by decide) (by decide) (n := 10) (by decide) (vp_of rfl (by omega) (by omega)) dX8_takeFrom_37 (fun H locs h => ?_)
            obtain ⟨v_27, hv_27⟩ : ∃ z, z = gu v_3 94 ((y_2 : Int32).toNatClampNeg) (vp_nar .boolean y_25) := ⟨_, rfl⟩
            have h : gS (gA G) G s v_27 w sg H locs := by rw [hv_27]; exact h
            have u_28 : cI v_27 := by rw [hv_27]; exact (cI_o u_4 (by decide))
            have u_29 : fC 93 97 v w v_27 w := by rw [hv_27]; exact (fC_v u_5 (by decide))
            refine lv_aload_n hx hb dX8_takeFrom_38 rfl (lv_at hl 0 rfl) ?_
            refine g_get (ci := 8) (x := .ref (G.2.2 (95))) C h 93 (by decide) rfl rfl hi8 2 (by decide) f19 rfl rfl dX8_takeFrom_39 ?_
            refine lv_iload_n hx hb dX8_takeFrom_42 rfl (lv_at hl 3 rfl) ?_
            refine lv_aload_n hx hb dX8_takeFrom_43 rfl (lv_at hl 0 rfl) ?_
            refine g_get (ci := 8) (x := .ref (G.2.2 (94))) C h 93 (by decide) rfl rfl hi8 1 (by decide) f15 rfl rfl dX8_takeFrom_44 ?_
            refine lv_iload_n hx hb dX8_takeFrom_47 rfl (lv_at hl 3 rfl) ?_
            refine g_zald C h 94 (by decide) (by decide) (n := 10) (by decide) (vp_of rfl (by omega) (by omega)) dX8_takeFrom_48 ?_
            refine lv_topi (fun x_30 e_31 => ?_)
            have hq : x_30 = lostOf r_14 := (rd_self hv_27 e_31).trans ((nar01 (f_26 ▸ lost01 _)).trans f_26)
            have J58_32 : ∀ (y_32 : Int32) (H : Heap) (locs : List Loc) (ls : Array Slot), (y_32 = prsOf r_14) → gS (gA G) G s v_27 w sg H locs → lv_has ls 5 [(0, .ref (G.2.2 (93))), (1, .ref (G.2.2 (o1))), (2, .int (p2)), (3, .int (y_2)), (4, .int (r_14))] → W p l e R s m args below meth c H locs 0 0 Q (F0 m 58 ls [.int (y_32), .int (y_2), .ref (G.2.2 (95))]) := by
              intro y_32 H locs ls f_33 h hl
              refine g_iast C h 95 (by decide) (by decide) (n := 10) (by decide) (vp_of rfl (by omega) (by omega)) dX8_takeFrom_58 (fun H locs h => ?_)
              obtain ⟨v_34, hv_34⟩ : ∃ z, z = gu v_27 95 ((y_2 : Int32).toNatClampNeg) y_32 := ⟨_, rfl⟩
              have h : gS (gA G) G s v_34 w sg H locs := by rw [hv_34]; exact h
              have u_35 : cI v_34 := by rw [hv_34]; exact (cI_o u_28 (by decide))
              have u_36 : fC 93 97 v w v_34 w := by rw [hv_34]; exact (fC_v u_29 (by decide))
              obtain ⟨x_37, e_38⟩ : ∃ y : Int32, y = y_2 + 1 := ⟨_, rfl⟩
              have i_39 : x_37.toInt = (y_2).toInt + 1 := ia_add e_38 rfl (by decide) (by omega) (by omega)
              refine lv_iinc (v := x_37) (lv' := [(3, .int (x_37)), (0, .ref (G.2.2 (93))), (1, .ref (G.2.2 (o1))), (2, .int (p2)), (4, .int (r_14))]) hx hb dX8_takeFrom_59 hl (k := 3) rfl (by rw [e_38]; rfl) (by decide) rfl (fun ls hl => ?_)
              refine lv_goto (tgt := 2) hx hb dX8_takeFrom_62 (by decide) ?_
              exact ih2 x_37 v_34 _ _ _ (by omega) u_35 u_36 (by omega) (tk_st (k := 94) (l := 95) (i := y_2) (by decide) f_7 hv_27 hv_34 rfl (by omega) (by omega) ((nar01 (f_26 ▸ lost01 _)).trans (f_26.trans (congrArg lostOf hcl))) (f_33.trans (congrArg prsOf hcl))) h (lv_sub hl [1, 2, 3, 0] rfl)
            refine lv_if_eq (tgt := 56) hx hb dX8_takeFrom_49 (by decide) (fun c_40 => ?_) (fun c_40 => ?_)
            · have j_41 : (x_30).toInt = 0 := (i_eq rfl (by decide)).mp c_40
              refine lv_iload hx hb dX8_takeFrom_56 (lv_at hl 4 rfl) ?_
              exact J58_32 r_14 _ _ _ (by first | exact prs_z hq (by omega) | exact prs_n hq (by omega)) h (lv_sub hl [0, 1, 2, 3, 4] rfl)
            · have j_41 : ¬ ((x_30).toInt = 0) := fun q => c_40 ((i_eq rfl (by decide)).mpr q)
              refine lv_iconst (v := 0) hx hb dX8_takeFrom_52 (by decide) ?_
              refine lv_goto (tgt := 58) hx hb dX8_takeFrom_53 (by decide) ?_
              exact J58_32 0 _ _ _ (by first | exact prs_z hq (by omega) | exact prs_n hq (by omega)) h (lv_sub hl [0, 1, 2, 3, 4] rfl)
          refine lv_if_ne (tgt := 36) hx hb dX8_takeFrom_29 (by decide) (fun _ => ?_) (fun c_42 => absurd c_42 (by decide))
          refine lv_iconst (v := 0) hx hb dX8_takeFrom_36 (by decide) ?_
          exact J37_25 0 _ _ _ (by unfold lostOf; split <;> first | rfl | omega) h (lv_sub hl [1, 2, 3, 4, 0] rfl)
        · skip
          have J37_43 : ∀ (y_43 : Int32) (H : Heap) (locs : List Loc) (ls : Array Slot), (y_43 = lostOf r_14) → gS (gA G) G s v_3 w sg H locs → lv_has ls 5 [(0, .ref (G.2.2 (93))), (1, .ref (G.2.2 (o1))), (2, .int (p2)), (3, .int (y_2)), (4, .int (r_14))] → W p l e R s m args below meth c H locs 0 0 Q (F0 m 37 ls [.int (y_43), .int (y_2), .ref (G.2.2 (94))]) := by
            intro y_43 H locs ls f_44 h hl
            refine g_zast C h 94 (by decide) (by decide) (n := 10) (by decide) (vp_of rfl (by omega) (by omega)) dX8_takeFrom_37 (fun H locs h => ?_)
            obtain ⟨v_45, hv_45⟩ : ∃ z, z = gu v_3 94 ((y_2 : Int32).toNatClampNeg) (vp_nar .boolean y_43) := ⟨_, rfl⟩
            have h : gS (gA G) G s v_45 w sg H locs := by rw [hv_45]; exact h
            have u_46 : cI v_45 := by rw [hv_45]; exact (cI_o u_4 (by decide))
            have u_47 : fC 93 97 v w v_45 w := by rw [hv_45]; exact (fC_v u_5 (by decide))
            refine lv_aload_n hx hb dX8_takeFrom_38 rfl (lv_at hl 0 rfl) ?_
            refine g_get (ci := 8) (x := .ref (G.2.2 (95))) C h 93 (by decide) rfl rfl hi8 2 (by decide) f19 rfl rfl dX8_takeFrom_39 ?_
            refine lv_iload_n hx hb dX8_takeFrom_42 rfl (lv_at hl 3 rfl) ?_
            refine lv_aload_n hx hb dX8_takeFrom_43 rfl (lv_at hl 0 rfl) ?_
            refine g_get (ci := 8) (x := .ref (G.2.2 (94))) C h 93 (by decide) rfl rfl hi8 1 (by decide) f15 rfl rfl dX8_takeFrom_44 ?_
            refine lv_iload_n hx hb dX8_takeFrom_47 rfl (lv_at hl 3 rfl) ?_
            refine g_zald C h 94 (by decide) (by decide) (n := 10) (by decide) (vp_of rfl (by omega) (by omega)) dX8_takeFrom_48 ?_
            refine lv_topi (fun x_48 e_49 => ?_)
            have hq : x_48 = lostOf r_14 := (rd_self hv_45 e_49).trans ((nar01 (f_44 ▸ lost01 _)).trans f_44)
            have J58_50 : ∀ (y_50 : Int32) (H : Heap) (locs : List Loc) (ls : Array Slot), (y_50 = prsOf r_14) → gS (gA G) G s v_45 w sg H locs → lv_has ls 5 [(0, .ref (G.2.2 (93))), (1, .ref (G.2.2 (o1))), (2, .int (p2)), (3, .int (y_2)), (4, .int (r_14))] → W p l e R s m args below meth c H locs 0 0 Q (F0 m 58 ls [.int (y_50), .int (y_2), .ref (G.2.2 (95))]) := by
              intro y_50 H locs ls f_51 h hl
              refine g_iast C h 95 (by decide) (by decide) (n := 10) (by decide) (vp_of rfl (by omega) (by omega)) dX8_takeFrom_58 (fun H locs h => ?_)
              obtain ⟨v_52, hv_52⟩ : ∃ z, z = gu v_45 95 ((y_2 : Int32).toNatClampNeg) y_50 := ⟨_, rfl⟩
              have h : gS (gA G) G s v_52 w sg H locs := by rw [hv_52]; exact h
              have u_53 : cI v_52 := by rw [hv_52]; exact (cI_o u_46 (by decide))
              have u_54 : fC 93 97 v w v_52 w := by rw [hv_52]; exact (fC_v u_47 (by decide))
              obtain ⟨x_55, e_56⟩ : ∃ y : Int32, y = y_2 + 1 := ⟨_, rfl⟩
              have i_57 : x_55.toInt = (y_2).toInt + 1 := ia_add e_56 rfl (by decide) (by omega) (by omega)
              refine lv_iinc (v := x_55) (lv' := [(3, .int (x_55)), (0, .ref (G.2.2 (93))), (1, .ref (G.2.2 (o1))), (2, .int (p2)), (4, .int (r_14))]) hx hb dX8_takeFrom_59 hl (k := 3) rfl (by rw [e_56]; rfl) (by decide) rfl (fun ls hl => ?_)
              refine lv_goto (tgt := 2) hx hb dX8_takeFrom_62 (by decide) ?_
              exact ih2 x_55 v_52 _ _ _ (by omega) u_53 u_54 (by omega) (tk_st (k := 94) (l := 95) (i := y_2) (by decide) f_7 hv_45 hv_52 rfl (by omega) (by omega) ((nar01 (f_44 ▸ lost01 _)).trans (f_44.trans (congrArg lostOf hcl))) (f_51.trans (congrArg prsOf hcl))) h (lv_sub hl [1, 2, 3, 0] rfl)
            refine lv_if_eq (tgt := 56) hx hb dX8_takeFrom_49 (by decide) (fun c_58 => ?_) (fun c_58 => ?_)
            · have j_59 : (x_48).toInt = 0 := (i_eq rfl (by decide)).mp c_58
              refine lv_iload hx hb dX8_takeFrom_56 (lv_at hl 4 rfl) ?_
              exact J58_50 r_14 _ _ _ (by first | exact prs_z hq (by omega) | exact prs_n hq (by omega)) h (lv_sub hl [0, 1, 2, 3, 4] rfl)
            · have j_59 : ¬ ((x_48).toInt = 0) := fun q => c_58 ((i_eq rfl (by decide)).mpr q)
              refine lv_iconst (v := 0) hx hb dX8_takeFrom_52 (by decide) ?_
              refine lv_goto (tgt := 58) hx hb dX8_takeFrom_53 (by decide) ?_
              exact J58_50 0 _ _ _ (by first | exact prs_z hq (by omega) | exact prs_n hq (by omega)) h (lv_sub hl [0, 1, 2, 3, 4] rfl)
          refine lv_if_ne (tgt := 36) hx hb dX8_takeFrom_29 (by decide) (fun c_60 => absurd (by decide) c_60) (fun _ => ?_)
          refine lv_iconst (v := 1) hx hb dX8_takeFrom_32 (by decide) ?_
          refine lv_goto (tgt := 37) hx hb dX8_takeFrom_33 (by decide) ?_
          exact J37_43 1 _ _ _ (by unfold lostOf; split <;> first | rfl | omega) h (lv_sub hl [1, 2, 3, 4, 0] rfl)
  refine lv_istore_n (lv' := [(3, .int (0)), (0, .ref (G.2.2 (93))), (1, .ref (G.2.2 (o1))), (2, .int (p2))]) hx hb dX8_takeFrom_1 rfl hl (by decide) rfl (fun ls hl => ?_)
  exact J2_3 _ 0 v _ _ _ (Nat.lt_succ_self _) ci fC_rf (by omega) (by rw [fl_0 (by decide), fl_0 (by decide), up_id, up_id]) h (lv_sub hl [1, 2, 3, 0] rfl)
